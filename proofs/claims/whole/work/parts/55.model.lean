set_option maxRecDepth 100000 in
set_option maxHeartbeats 4000000 in
theorem k_isIn {l : Launch} {N0 t0 : Nat} {D : va_G} {cy : Nat → ClassId} {S : zS} (v a b : Int32) : zMi l yX12_isIn (zws yX12_isIn cX12_isIn 3 (some .boolean)) { frames := 0, cells := 0, slots := 0, locals := 0 } N0 t0 D cy S [.int v, .int a, .int b] (fun r S' => r = (if ¬ v < a ∧ v ≤ b then 1 else 0) ∧ S' = S) 0 0 := by
  refine zMi.of (cc := cX12_isIn) (maxL := 3) (ret := (some .boolean)) (by decide) rfl (Nat.le_of_ble_eq_true rfl) ?_
  intro p e s m args below meth c F G hr hlk hnm
  refine r_iload_n F dX12_isIn_0 rfl ?_
  refine r_iload_n F dX12_isIn_1 rfl ?_
  refine r_icmp_lt (tgt := 14) F dX12_isIn_2 (by decide) (fun c2 => ?_) (fun c2 => ?_)
  · refine r_iconst (v := 0) F dX12_isIn_14 (by decide) ?_
    exact e_zret F hr rfl hlk ⟨(if_neg (fun h => h.1 c2)).symm, rfl⟩ (by decide) (by decide) dX12_isIn_15
  · refine r_iload_n F dX12_isIn_5 rfl ?_
    refine r_iload_n F dX12_isIn_6 rfl ?_
    refine r_icmp_gt (tgt := 14) F dX12_isIn_7 (by decide) (fun c7 => ?_) (fun c7 => ?_)
    · refine r_iconst (v := 0) F dX12_isIn_14 (by decide) ?_
      exact e_zret F hr rfl hlk ⟨(if_neg (fun h => absurd c7 (Int32.not_lt.mpr h.2))).symm, rfl⟩ (by decide) (by decide) dX12_isIn_15
    · refine r_iconst (v := 1) F dX12_isIn_10 (by decide) ?_
      refine r_goto (tgt := 15) F dX12_isIn_11 (by decide) ?_
      exact e_zret F hr rfl hlk ⟨(if_pos ⟨c2, Int32.not_lt.mp c7⟩).symm, rfl⟩ (by decide) (by decide) dX12_isIn_15
set_option maxRecDepth 100000 in
set_option maxHeartbeats 4000000 in
theorem k_thrown {l : Launch} {N0 t0 : Nat} {D : va_G} {cy : Nat → ClassId} {S : zS} {g : Nat} (hg : zA S g 12) : zMi l yX12_thrown (zws yX12_thrown cX12_thrown 1 (some .int)) { frames := 0, cells := 0, slots := 0, locals := 0 } N0 t0 D cy S [.ref g] (fun r S' => r = zi S 1200 g ∧ S' = S) 0 0 := by
  refine zMi.of (cc := cX12_thrown) (maxL := 1) (ret := (some .int)) (by decide) rfl (Nat.le_of_ble_eq_true rfl) ?_
  intro p e s m args below meth c F G hr hlk hnm
  refine r_aload_n F dX12_thrown_0 rfl ?_
  refine r_geti (ci := 12) (k := 0) (id := 1200) (C := RX12) (T := TX12) (N := 50) F G rfl (by decide) (by decide) rfl (zinL inG12) (zin kf_X12_120) (fun _ h9 => h9) dX12_thrown_1 hg ?_
  exact e_iret F hr hlk ⟨rfl, rfl⟩ (by decide) (by decide) dX12_thrown_4
set_option maxRecDepth 100000 in
set_option maxHeartbeats 4000000 in
theorem k_isObject_none {l : Launch} {N0 t0 : Nat} {D : va_G} {cy : Nat → ClassId} {S : zS} {g : Nat} (hg : zA S g 12) {o : Int32} (h0 : zi S 1201 g = 0) : zMi l yX12_isObject (zws yX12_isObject cX12_isObject 2 (some .boolean)) { frames := 1, cells := 0, slots := 0, locals := 22 } N0 t0 D cy S [.ref g, .int o] (fun r S' => r = 0 ∧ S' = S) 0 0 := by
  refine zMi.of (cc := cX12_isObject) (maxL := 2) (ret := (some .boolean)) (by decide) rfl (Nat.le_of_ble_eq_true rfl) ?_
  intro p e s m args below meth c F G hr hlk hnm
  refine r_iload_n F dX12_isObject_0 rfl ?_
  refine r_iconst (v := 0) F dX12_isObject_1 (by decide) ?_
  refine r_aload_n F dX12_isObject_2 rfl ?_
  refine r_getiS (ci := 12) (k := 1) (id := 1201) (C := RX12) (T := TX12) (N := 50) F G rfl (by decide) (by decide) rfl (zinL inG12) (zin kf_X12_123) (fun _ h9 => h9) dX12_isObject_3 hg h0 ?_
  refine r_iconst (v := 1) F dX12_isObject_6 (by decide) ?_
  refine r_isub F dX12_isObject_7 ?_
  refine c_Si F G (k_isIn _ _ _) (va_cwS 3 F.2.2.2.2 (zgS km_X12_126 ks_X12_isIn kn_X12 ko_X12_isIn) rfl rfl rfl hd_yX12_isIn ⟨Nat.le_of_ble_eq_true rfl, Nat.le_of_ble_eq_true rfl⟩) rfl rfl (Nat.le_of_ble_eq_true rfl) dX12_isObject_8 ⟨Nat.le_of_ble_eq_true rfl, Nat.le_of_ble_eq_true rfl⟩ (fun r1 S1 h1 => ?_)
  have h2 : r1 = 0 := by
    rw [h1.1, if_neg]
    intro h
    have h3 : (0 : Int32).toInt ≤ o.toInt := Int32.le_iff_toInt_le.mp (Int32.not_lt.mp h.1)
    have h4 : o.toInt ≤ ((0 : Int32) - 1).toInt := Int32.le_iff_toInt_le.mp h.2
    have h5 : ((0 : Int32) - 1).toInt = -1 := by decide
    have h6 : (0 : Int32).toInt = 0 := by decide
    omega
  subst h2
  exact e_zret F hr rfl hlk ⟨rfl, h1.2⟩ (by decide) (by decide) dX12_isObject_11
set_option maxRecDepth 100000 in
set_option maxHeartbeats 4000000 in
theorem k_isFunction_none {l : Launch} {N0 t0 : Nat} {D : va_G} {cy : Nat → ClassId} {S : zS} {g : Nat} (hg : zA S g 12) {o f : Int32} (h0 : zi S 1201 g = 0) : zMi l yX12_isFunction (zws yX12_isFunction cX12_isFunction 3 (some .boolean)) { frames := 2, cells := 0, slots := 0, locals := 43 } N0 t0 D cy S [.ref g, .int o, .int f] (fun r S' => r = 0 ∧ S' = S) 0 0 := by
  refine zMi.of (cc := cX12_isFunction) (maxL := 3) (ret := (some .boolean)) (by decide) rfl (Nat.le_of_ble_eq_true rfl) ?_
  intro p e s m args below meth c F G hr hlk hnm
  refine r_aload_n F dX12_isFunction_0 rfl ?_
  refine r_iload_n F dX12_isFunction_1 rfl ?_
  refine c_Vi (ci := 12) F G (k_isObject_none hg h0) (cwV 1 F.2.2.2.2 (zgV km_X12_130 ki_X12_isObject ke_X12_X12_isObject kn_X12 ko_X12_isObject) rfl rfl rfl ⟨rfl, hd_yX12_isObject⟩ ⟨Nat.le_of_ble_eq_true rfl, Nat.le_of_ble_eq_true rfl⟩) rfl (by decide) hg rfl rfl (Nat.le_of_ble_eq_true rfl) dX12_isFunction_2 ⟨Nat.le_of_ble_eq_true rfl, Nat.le_of_ble_eq_true rfl⟩ (fun r2 S2 h2 => ?_)
  refine r_if_eq (tgt := 26) F dX12_isFunction_5 (by decide) (fun _ => ?_) (fun h9 => absurd h2.1 h9)
  refine r_iconst (v := 0) F dX12_isFunction_26 (by decide) ?_
  exact e_zret F hr rfl hlk ⟨rfl, h2.2⟩ (by decide) (by decide) dX12_isFunction_27
set_option maxRecDepth 100000 in
set_option maxHeartbeats 4000000 in
theorem k_isSegment_none {l : Launch} {N0 t0 : Nat} {D : va_G} {cy : Nat → ClassId} {S : zS} {g : Nat} (hg : zA S g 12) {o f : Int32} (h0 : zi S 1201 g = 0) : zMi l yX12_isSegment (zws yX12_isSegment cX12_isSegment 3 (some .boolean)) { frames := 2, cells := 0, slots := 0, locals := 43 } N0 t0 D cy S [.ref g, .int o, .int f] (fun r S' => r = 0 ∧ S' = S) 0 0 := by
  refine zMi.of (cc := cX12_isSegment) (maxL := 3) (ret := (some .boolean)) (by decide) rfl (Nat.le_of_ble_eq_true rfl) ?_
  intro p e s m args below meth c F G hr hlk hnm
  refine r_aload_n F dX12_isSegment_0 rfl ?_
  refine r_iload_n F dX12_isSegment_1 rfl ?_
  refine c_Vi (ci := 12) F G (k_isObject_none hg h0) (cwV 1 F.2.2.2.2 (zgV km_X12_130 ki_X12_isObject ke_X12_X12_isObject kn_X12 ko_X12_isObject) rfl rfl rfl ⟨rfl, hd_yX12_isObject⟩ ⟨Nat.le_of_ble_eq_true rfl, Nat.le_of_ble_eq_true rfl⟩) rfl (by decide) hg rfl rfl (Nat.le_of_ble_eq_true rfl) dX12_isSegment_2 ⟨Nat.le_of_ble_eq_true rfl, Nat.le_of_ble_eq_true rfl⟩ (fun r2 S2 h2 => ?_)
  refine r_if_eq (tgt := 26) F dX12_isSegment_5 (by decide) (fun _ => ?_) (fun h9 => absurd h2.1 h9)
  refine r_iconst (v := 0) F dX12_isSegment_26 (by decide) ?_
  exact e_zret F hr rfl hlk ⟨rfl, h2.2⟩ (by decide) (by decide) dX12_isSegment_27
set_option maxRecDepth 100000 in
set_option maxHeartbeats 4000000 in
theorem m_function_none {l : Launch} {N0 t0 : Nat} {D : va_G} {cy : Nat → ClassId} {S : zS} {g : Nat} (hg : zA S g 12) {o : Int32} {p1 p2 p3 : Int32} (h0 : zi S 1201 g = 0) : zMi l yX12_function (zws yX12_function cX12_function 6 (some .int)) { frames := 3, cells := 0, slots := 0, locals := 80 } N0 t0 D cy S [.ref g, .int o, .int p1, .int p2, .int p3] (fun r S' => r = 0 ∧ S' = zPi S 1200 g 1) 0 0 := by
  refine zMi.of (cc := cX12_function) (maxL := 6) (ret := (some .int)) (by decide) rfl (Nat.le_of_ble_eq_true rfl) ?_
  intro p e s m args below meth c F G hr hlk hnm
  refine r_aload_n F dX12_function_0 rfl ?_
  refine r_aload_n F dX12_function_1 rfl ?_
  refine r_iload_n F dX12_function_2 rfl ?_
  refine c_Vi (ci := 12) F G (k_isObject_none hg h0) (cwV 1 F.2.2.2.2 (zgV km_X12_130 ki_X12_isObject ke_X12_X12_isObject kn_X12 ko_X12_isObject) rfl rfl rfl ⟨rfl, hd_yX12_isObject⟩ ⟨Nat.le_of_ble_eq_true rfl, Nat.le_of_ble_eq_true rfl⟩) rfl (by decide) hg rfl rfl (Nat.le_of_ble_eq_true rfl) dX12_function_3 ⟨Nat.le_of_ble_eq_true rfl, Nat.le_of_ble_eq_true rfl⟩ (fun r2 S2 h2 => ?_)
  obtain ⟨h2a, h2b⟩ := h2
  have h2s := h2b.symm
  subst h2s
  refine r_if_eq (tgt := 37) F dX12_function_6 (by decide) (fun _ => ?_) (fun h9 => absurd h2a h9)
  refine r_iconst (v := 1) F dX12_function_37 (by decide) ?_
  refine r_goto (tgt := 57) F dX12_function_38 (by decide) ?_
  refine r_puti (ci := 12) (k := 0) (id := 1200) (C := RX12) (T := TX12) (N := 50) (ty := .int) (ty0 := tyX12) F G rfl (by decide) (by decide) rfl (zinL inG12) (zin kf_X12_120) (fun _ h9 => h9) tyX12_ok nmX12 rfl pd12_0 rfl rfl dX12_function_57 hg ?_
  refine r_aload_n F dX12_function_60 rfl ?_
  refine r_getiS (ci := 12) (k := 0) (id := 1200) (C := RX12) (T := TX12) (N := 50) F G rfl (by decide) (by decide) rfl (zinL inG12) (zin kf_X12_120) (fun _ h9 => h9) dX12_function_61 hg zi_s ?_
  refine r_if_le (tgt := 69) F dX12_function_64 (by decide) (fun h9 => absurd h9 (by decide)) (fun _ => ?_)
  refine r_iconst (v := 0) F dX12_function_67 (by decide) ?_
  exact e_iret F hr hlk ⟨rfl, rfl⟩ (by decide) (by decide) dX12_function_68
set_option maxRecDepth 100000 in
set_option maxHeartbeats 4000000 in
theorem m_segment_none {l : Launch} {N0 t0 : Nat} {D : va_G} {cy : Nat → ClassId} {S : zS} {g : Nat} (hg : zA S g 12) {o : Int32} {p1 p2 : Int32} (h0 : zi S 1201 g = 0) : zMi l yX12_segment (zws yX12_segment cX12_segment 4 (some .int)) { frames := 3, cells := 0, slots := 0, locals := 80 } N0 t0 D cy S [.ref g, .int o, .int p1, .int p2] (fun r S' => r = 0 ∧ S' = zPi S 1200 g 1) 0 0 := by
  refine zMi.of (cc := cX12_segment) (maxL := 4) (ret := (some .int)) (by decide) rfl (Nat.le_of_ble_eq_true rfl) ?_
  intro p e s m args below meth c F G hr hlk hnm
  refine r_aload_n F dX12_segment_0 rfl ?_
  refine r_aload_n F dX12_segment_1 rfl ?_
  refine r_iload_n F dX12_segment_2 rfl ?_
  refine c_Vi (ci := 12) F G (k_isObject_none hg h0) (cwV 1 F.2.2.2.2 (zgV km_X12_130 ki_X12_isObject ke_X12_X12_isObject kn_X12 ko_X12_isObject) rfl rfl rfl ⟨rfl, hd_yX12_isObject⟩ ⟨Nat.le_of_ble_eq_true rfl, Nat.le_of_ble_eq_true rfl⟩) rfl (by decide) hg rfl rfl (Nat.le_of_ble_eq_true rfl) dX12_segment_3 ⟨Nat.le_of_ble_eq_true rfl, Nat.le_of_ble_eq_true rfl⟩ (fun r2 S2 h2 => ?_)
  obtain ⟨h2a, h2b⟩ := h2
  have h2s := h2b.symm
  subst h2s
  refine r_if_eq (tgt := 28) F dX12_segment_6 (by decide) (fun _ => ?_) (fun h9 => absurd h2a h9)
  refine r_iconst (v := 1) F dX12_segment_28 (by decide) ?_
  refine r_goto (tgt := 47) F dX12_segment_29 (by decide) ?_
  refine r_puti (ci := 12) (k := 0) (id := 1200) (C := RX12) (T := TX12) (N := 50) (ty := .int) (ty0 := tyX12) F G rfl (by decide) (by decide) rfl (zinL inG12) (zin kf_X12_120) (fun _ h9 => h9) tyX12_ok nmX12 rfl pd12_0 rfl rfl dX12_segment_47 hg ?_
  refine r_aload_n F dX12_segment_50 rfl ?_
  refine r_getiS (ci := 12) (k := 0) (id := 1200) (C := RX12) (T := TX12) (N := 50) F G rfl (by decide) (by decide) rfl (zinL inG12) (zin kf_X12_120) (fun _ h9 => h9) dX12_segment_51 hg zi_s ?_
  refine r_if_le (tgt := 59) F dX12_segment_54 (by decide) (fun h9 => absurd h9 (by decide)) (fun _ => ?_)
  refine r_iconst (v := 0) F dX12_segment_57 (by decide) ?_
  exact e_iret F hr hlk ⟨rfl, rfl⟩ (by decide) (by decide) dX12_segment_58
set_option maxRecDepth 100000 in
set_option maxHeartbeats 4000000 in
theorem m_meant_none {l : Launch} {N0 t0 : Nat} {D : va_G} {cy : Nat → ClassId} {S : zS} {g : Nat} (hg : zA S g 12) {o : Int32} {p1 p2 : Int32} (h0 : zi S 1201 g = 0) : zMi l yX12_meant (zws yX12_meant cX12_meant 6 (some .int)) { frames := 3, cells := 0, slots := 0, locals := 80 } N0 t0 D cy S [.ref g, .int o, .int p1, .int p2] (fun r S' => r = 0 ∧ S' = zPi S 1200 g 1) 0 0 := by
  refine zMi.of (cc := cX12_meant) (maxL := 6) (ret := (some .int)) (by decide) rfl (Nat.le_of_ble_eq_true rfl) ?_
  intro p e s m args below meth c F G hr hlk hnm
  refine r_aload_n F dX12_meant_0 rfl ?_
  refine r_aload_n F dX12_meant_1 rfl ?_
  refine r_iload_n F dX12_meant_2 rfl ?_
  refine c_Vi (ci := 12) F G (k_isObject_none hg h0) (cwV 1 F.2.2.2.2 (zgV km_X12_130 ki_X12_isObject ke_X12_X12_isObject kn_X12 ko_X12_isObject) rfl rfl rfl ⟨rfl, hd_yX12_isObject⟩ ⟨Nat.le_of_ble_eq_true rfl, Nat.le_of_ble_eq_true rfl⟩) rfl (by decide) hg rfl rfl (Nat.le_of_ble_eq_true rfl) dX12_meant_3 ⟨Nat.le_of_ble_eq_true rfl, Nat.le_of_ble_eq_true rfl⟩ (fun r2 S2 h2 => ?_)
  obtain ⟨h2a, h2b⟩ := h2
  have h2s := h2b.symm
  subst h2s
  refine r_if_eq (tgt := 22) F dX12_meant_6 (by decide) (fun _ => ?_) (fun h9 => absurd h2a h9)
  refine r_iconst (v := 1) F dX12_meant_22 (by decide) ?_
  refine r_goto (tgt := 52) F dX12_meant_23 (by decide) ?_
  refine r_puti (ci := 12) (k := 0) (id := 1200) (C := RX12) (T := TX12) (N := 50) (ty := .int) (ty0 := tyX12) F G rfl (by decide) (by decide) rfl (zinL inG12) (zin kf_X12_120) (fun _ h9 => h9) tyX12_ok nmX12 rfl pd12_0 rfl rfl dX12_meant_52 hg ?_
  refine r_aload_n F dX12_meant_55 rfl ?_
  refine r_getiS (ci := 12) (k := 0) (id := 1200) (C := RX12) (T := TX12) (N := 50) F G rfl (by decide) (by decide) rfl (zinL inG12) (zin kf_X12_120) (fun _ h9 => h9) dX12_meant_56 hg zi_s ?_
  refine r_if_le (tgt := 64) F dX12_meant_59 (by decide) (fun h9 => absurd h9 (by decide)) (fun _ => ?_)
  refine r_iconst (v := 0) F dX12_meant_62 (by decide) ?_
  exact e_iret F hr hlk ⟨rfl, rfl⟩ (by decide) (by decide) dX12_meant_63
set_option maxRecDepth 100000 in
set_option maxHeartbeats 4000000 in
theorem m_code_none {l : Launch} {N0 t0 : Nat} {D : va_G} {cy : Nat → ClassId} {S : zS} {g : Nat} (hg : zA S g 12) {o : Int32} {p1 p2 p3 : Int32} (h0 : zi S 1201 g = 0) : zMi l yX12_code (zws yX12_code cX12_code 6 (some .int)) { frames := 3, cells := 0, slots := 0, locals := 80 } N0 t0 D cy S [.ref g, .int o, .int p1, .int p2, .int p3] (fun r S' => r = 0 ∧ S' = zPi S 1200 g 1) 0 0 := by
  refine zMi.of (cc := cX12_code) (maxL := 6) (ret := (some .int)) (by decide) rfl (Nat.le_of_ble_eq_true rfl) ?_
  intro p e s m args below meth c F G hr hlk hnm
  refine r_aload_n F dX12_code_0 rfl ?_
  refine r_aload_n F dX12_code_1 rfl ?_
  refine r_iload_n F dX12_code_2 rfl ?_
  refine r_iload_n F dX12_code_3 rfl ?_
  refine c_Vi (ci := 12) F G (k_isFunction_none hg h0) (cwV 2 F.2.2.2.2 (zgV km_X12_138 ki_X12_isFunction ke_X12_X12_isFunction kn_X12 ko_X12_isFunction) rfl rfl rfl ⟨rfl, hd_yX12_isFunction⟩ ⟨Nat.le_of_ble_eq_true rfl, Nat.le_of_ble_eq_true rfl⟩) rfl (by decide) hg rfl rfl (Nat.le_of_ble_eq_true rfl) dX12_code_4 ⟨Nat.le_of_ble_eq_true rfl, Nat.le_of_ble_eq_true rfl⟩ (fun r2 S2 h2 => ?_)
  obtain ⟨h2a, h2b⟩ := h2
  have h2s := h2b.symm
  subst h2s
  refine r_if_eq (tgt := 20) F dX12_code_7 (by decide) (fun _ => ?_) (fun h9 => absurd h2a h9)
  refine r_iconst (v := 1) F dX12_code_20 (by decide) ?_
  refine r_goto (tgt := 45) F dX12_code_21 (by decide) ?_
  refine r_puti (ci := 12) (k := 0) (id := 1200) (C := RX12) (T := TX12) (N := 50) (ty := .int) (ty0 := tyX12) F G rfl (by decide) (by decide) rfl (zinL inG12) (zin kf_X12_120) (fun _ h9 => h9) tyX12_ok nmX12 rfl pd12_0 rfl rfl dX12_code_45 hg ?_
  refine r_aload_n F dX12_code_48 rfl ?_
  refine r_getiS (ci := 12) (k := 0) (id := 1200) (C := RX12) (T := TX12) (N := 50) F G rfl (by decide) (by decide) rfl (zinL inG12) (zin kf_X12_120) (fun _ h9 => h9) dX12_code_49 hg zi_s ?_
  refine r_if_le (tgt := 57) F dX12_code_52 (by decide) (fun h9 => absurd h9 (by decide)) (fun _ => ?_)
  refine r_iconst (v := 0) F dX12_code_55 (by decide) ?_
  exact e_iret F hr hlk ⟨rfl, rfl⟩ (by decide) (by decide) dX12_code_56
set_option maxRecDepth 100000 in
set_option maxHeartbeats 4000000 in
theorem m_run_none {l : Launch} {N0 t0 : Nat} {D : va_G} {cy : Nat → ClassId} {S : zS} {g : Nat} (hg : zA S g 12) {o : Int32} {p1 p2 : Int32} {w1 w2 : Int64} (h0 : zi S 1201 g = 0) : zMi l yX12_run (zws yX12_run cX12_run 11 (some .int)) { frames := 3, cells := 0, slots := 0, locals := 80 } N0 t0 D cy S [.ref g, .int o, .int p1, .long w1, .long w2, .int p2] (fun r S' => r = 0 ∧ S' = zPi S 1200 g 1) 0 0 := by
  refine zMi.of (cc := cX12_run) (maxL := 11) (ret := (some .int)) (by decide) rfl (Nat.le_of_ble_eq_true rfl) ?_
  intro p e s m args below meth c F G hr hlk hnm
  refine r_aload_n F dX12_run_0 rfl ?_
  refine r_aload_n F dX12_run_1 rfl ?_
  refine r_iload_n F dX12_run_2 rfl ?_
  refine r_iload_n F dX12_run_3 rfl ?_
  refine c_Vi (ci := 12) F G (k_isFunction_none hg h0) (cwV 2 F.2.2.2.2 (zgV km_X12_138 ki_X12_isFunction ke_X12_X12_isFunction kn_X12 ko_X12_isFunction) rfl rfl rfl ⟨rfl, hd_yX12_isFunction⟩ ⟨Nat.le_of_ble_eq_true rfl, Nat.le_of_ble_eq_true rfl⟩) rfl (by decide) hg rfl rfl (Nat.le_of_ble_eq_true rfl) dX12_run_4 ⟨Nat.le_of_ble_eq_true rfl, Nat.le_of_ble_eq_true rfl⟩ (fun r2 S2 h2 => ?_)
  obtain ⟨h2a, h2b⟩ := h2
  have h2s := h2b.symm
  subst h2s
  refine r_if_eq (tgt := 22) F dX12_run_7 (by decide) (fun _ => ?_) (fun h9 => absurd h2a h9)
  refine r_iconst (v := 1) F dX12_run_22 (by decide) ?_
  refine r_goto (tgt := 38) F dX12_run_23 (by decide) ?_
  refine r_puti (ci := 12) (k := 0) (id := 1200) (C := RX12) (T := TX12) (N := 50) (ty := .int) (ty0 := tyX12) F G rfl (by decide) (by decide) rfl (zinL inG12) (zin kf_X12_120) (fun _ h9 => h9) tyX12_ok nmX12 rfl pd12_0 rfl rfl dX12_run_38 hg ?_
  refine r_aload_n F dX12_run_41 rfl ?_
  refine r_getiS (ci := 12) (k := 0) (id := 1200) (C := RX12) (T := TX12) (N := 50) F G rfl (by decide) (by decide) rfl (zinL inG12) (zin kf_X12_120) (fun _ h9 => h9) dX12_run_42 hg zi_s ?_
  refine r_if_le (tgt := 50) F dX12_run_45 (by decide) (fun h9 => absurd h9 (by decide)) (fun _ => ?_)
  refine r_iconst (v := 0) F dX12_run_48 (by decide) ?_
  exact e_iret F hr hlk ⟨rfl, rfl⟩ (by decide) (by decide) dX12_run_49
set_option maxRecDepth 100000 in
set_option maxHeartbeats 4000000 in
theorem m_fill_none {l : Launch} {N0 t0 : Nat} {D : va_G} {cy : Nat → ClassId} {S : zS} {g : Nat} (hg : zA S g 12) {o : Int32} {p1 p2 : Int32} {w1 : Int64} (h0 : zi S 1201 g = 0) : zMv l yX12_fill (zws yX12_fill cX12_fill 7 none) { frames := 3, cells := 0, slots := 0, locals := 80 } N0 t0 D cy S [.ref g, .int o, .int p1, .int p2, .long w1] (fun S' => S' = zPi S 1200 g 1) 0 0 := by
  refine zMv.of (cc := cX12_fill) (maxL := 7) (ret := none) (by decide) rfl (Nat.le_of_ble_eq_true rfl) ?_
  intro p e s m args below meth c F G hr hlk hnm
  refine r_aload_n F dX12_fill_0 rfl ?_
  refine r_aload_n F dX12_fill_1 rfl ?_
  refine r_iload_n F dX12_fill_2 rfl ?_
  refine r_iload_n F dX12_fill_3 rfl ?_
  refine c_Vi (ci := 12) F G (k_isSegment_none hg h0) (cwV 2 F.2.2.2.2 (zgV km_X12_142 ki_X12_isSegment ke_X12_X12_isSegment kn_X12 ko_X12_isSegment) rfl rfl rfl ⟨rfl, hd_yX12_isSegment⟩ ⟨Nat.le_of_ble_eq_true rfl, Nat.le_of_ble_eq_true rfl⟩) rfl (by decide) hg rfl rfl (Nat.le_of_ble_eq_true rfl) dX12_fill_4 ⟨Nat.le_of_ble_eq_true rfl, Nat.le_of_ble_eq_true rfl⟩ (fun r2 S2 h2 => ?_)
  obtain ⟨h2a, h2b⟩ := h2
  have h2s := h2b.symm
  subst h2s
  refine r_if_eq (tgt := 14) F dX12_fill_7 (by decide) (fun _ => ?_) (fun h9 => absurd h2a h9)
  refine r_iconst (v := 1) F dX12_fill_14 (by decide) ?_
  refine r_goto (tgt := 37) F dX12_fill_15 (by decide) ?_
  refine r_puti (ci := 12) (k := 0) (id := 1200) (C := RX12) (T := TX12) (N := 50) (ty := .int) (ty0 := tyX12) F G rfl (by decide) (by decide) rfl (zinL inG12) (zin kf_X12_120) (fun _ h9 => h9) tyX12_ok nmX12 rfl pd12_0 rfl rfl dX12_fill_37 hg ?_
  refine r_aload_n F dX12_fill_40 rfl ?_
  refine r_getiS (ci := 12) (k := 0) (id := 1200) (C := RX12) (T := TX12) (N := 50) F G rfl (by decide) (by decide) rfl (zinL inG12) (zin kf_X12_120) (fun _ h9 => h9) dX12_fill_41 hg zi_s ?_
  refine r_if_le (tgt := 48) F dX12_fill_44 (by decide) (fun h9 => absurd h9 (by decide)) (fun _ => ?_)
  exact e_vret F hr hlk rfl (by decide) (by decide) dX12_fill_47
set_option maxRecDepth 100000 in
set_option maxHeartbeats 4000000 in
theorem m_symbol_none {l : Launch} {N0 t0 : Nat} {D : va_G} {cy : Nat → ClassId} {S : zS} {g : Nat} (hg : zA S g 12) {o p1 p2 p3 p4 p5 : Int32} (h0 : zi S 1201 g = 0) : zMi l yX12_symbol (zws yX12_symbol cX12_symbol 9 (some .int)) { frames := 3, cells := 0, slots := 0, locals := 80 } N0 t0 D cy S [.ref g, .int o, .int p1, .int p2, .int p3, .int p4, .int p5] (fun r S' => r = 0 ∧ S' = zPi S 1200 g 1) 0 0 := by
  refine zMi.of (cc := cX12_symbol) (maxL := 9) (ret := (some .int)) (by decide) rfl (Nat.le_of_ble_eq_true rfl) ?_
  intro p e s m args below meth c F G hr hlk hnm
  refine r_aload_n F dX12_symbol_0 rfl ?_
  refine r_iload_n F dX12_symbol_1 rfl ?_
  refine c_Vi (ci := 12) F G (k_isObject_none hg h0) (cwV 1 F.2.2.2.2 (zgV km_X12_130 ki_X12_isObject ke_X12_X12_isObject kn_X12 ko_X12_isObject) rfl rfl rfl ⟨rfl, hd_yX12_isObject⟩ ⟨Nat.le_of_ble_eq_true rfl, Nat.le_of_ble_eq_true rfl⟩) rfl (by decide) hg rfl rfl (Nat.le_of_ble_eq_true rfl) dX12_symbol_2 ⟨Nat.le_of_ble_eq_true rfl, Nat.le_of_ble_eq_true rfl⟩ (fun r2 S2 h2 => ?_)
  obtain ⟨h2a, h2b⟩ := h2
  have h2s := h2b.symm
  subst h2s
  refine r_if_eq (tgt := 41) F dX12_symbol_5 (by decide) (fun _ => ?_) (fun h9 => absurd h2a h9)
  refine r_iconst (v := 0) F dX12_symbol_41 (by decide) ?_
  refine r_istore F dX12_symbol_42 (by decide) ?_
  refine r_iload F dX12_symbol_44 rfl ?_
  refine r_if_eq (tgt := 78) F dX12_symbol_46 (by decide) (fun _ => ?_) (fun h9 => absurd rfl h9)
  refine r_iload F dX12_symbol_78 rfl ?_
  refine r_if_eq (tgt := 137) F dX12_symbol_80 (by decide) (fun _ => ?_) (fun h9 => absurd rfl h9)
  refine r_aload_n F dX12_symbol_137 rfl ?_
  refine r_iload F dX12_symbol_138 rfl ?_
  refine r_if_ne (tgt := 147) F dX12_symbol_140 (by decide) (fun h9 => absurd rfl h9) (fun _ => ?_)
  refine r_iconst (v := 1) F dX12_symbol_143 (by decide) ?_
  refine r_goto (tgt := 163) F dX12_symbol_144 (by decide) ?_
  refine r_puti (ci := 12) (k := 0) (id := 1200) (C := RX12) (T := TX12) (N := 50) (ty := .int) (ty0 := tyX12) F G rfl (by decide) (by decide) rfl (zinL inG12) (zin kf_X12_120) (fun _ h9 => h9) tyX12_ok nmX12 rfl pd12_0 rfl rfl dX12_symbol_163 hg ?_
  refine r_aload_n F dX12_symbol_166 rfl ?_
  refine r_getiS (ci := 12) (k := 0) (id := 1200) (C := RX12) (T := TX12) (N := 50) F G rfl (by decide) (by decide) rfl (zinL inG12) (zin kf_X12_120) (fun _ h9 => h9) dX12_symbol_167 hg zi_s ?_
  refine r_if_le (tgt := 175) F dX12_symbol_170 (by decide) (fun h9 => absurd h9 (by decide)) (fun _ => ?_)
  refine r_iconst (v := 0) F dX12_symbol_173 (by decide) ?_
  exact e_iret F hr hlk ⟨rfl, rfl⟩ (by decide) (by decide) dX12_symbol_174
set_option maxRecDepth 100000 in
set_option maxHeartbeats 4000000 in
theorem m_told {l : Launch} {N0 t0 : Nat} {D : va_G} {cy : Nat → ClassId} {S : zS} {g : Nat} (hg : zA S g 12) {w : Int32} : zMl l yX12_told (zws yX12_told cX12_told 2 (some .long)) { frames := 1, cells := 0, slots := 0, locals := 22 } N0 t0 D cy S [.ref g, .int w] (fun r S' => (¬ w < 0 ∧ w ≤ 2 → S' = zPi S 1200 g 0 ∧ r = (if w = 0 then zl S 1229 g else if w = 1 then (zi S 1230 g).toInt64 else (zi S 1231 g).toInt64)) ∧ (¬ (¬ w < 0 ∧ w ≤ 2) → S' = zPi S 1200 g 1)) 0 0 := by
  refine zMl.of (cc := cX12_told) (maxL := 2) (ret := (some .long)) (by decide) rfl (Nat.le_of_ble_eq_true rfl) ?_
  intro p e s m args below meth c F G hr hlk hnm
  refine r_aload_n F dX12_told_0 rfl ?_
  refine r_iload_n F dX12_told_1 rfl ?_
  refine r_iconst (v := 0) F dX12_told_2 (by decide) ?_
  refine r_iconst (v := 2) F dX12_told_3 (by decide) ?_
  refine c_Si F G (k_isIn _ _ _) (va_cwS 3 F.2.2.2.2 (zgS km_X12_126 ks_X12_isIn kn_X12 ko_X12_isIn) rfl rfl rfl hd_yX12_isIn ⟨Nat.le_of_ble_eq_true rfl, Nat.le_of_ble_eq_true rfl⟩) rfl rfl (Nat.le_of_ble_eq_true rfl) dX12_told_4 ⟨Nat.le_of_ble_eq_true rfl, Nat.le_of_ble_eq_true rfl⟩ (fun r4 S4 h4 => ?_)
  obtain ⟨h4a, h4b⟩ := h4
  have h4s := h4b.symm
  subst h4s
  by_cases hw : ¬ w < 0 ∧ w ≤ 2
  · rw [if_pos hw] at h4a
    subst h4a
    refine r_if_eq (tgt := 14) F dX12_told_7 (by decide) (fun h9 => absurd h9 (by decide)) (fun _ => ?_)
    refine r_iconst (v := 0) F dX12_told_10 (by decide) ?_
    refine r_goto (tgt := 15) F dX12_told_11 (by decide) ?_
    refine r_puti (ci := 12) (k := 0) (id := 1200) (C := RX12) (T := TX12) (N := 50) (ty := .int) (ty0 := tyX12) F G rfl (by decide) (by decide) rfl (zinL inG12) (zin kf_X12_120) (fun _ h9 => h9) tyX12_ok nmX12 rfl pd12_0 rfl rfl dX12_told_15 hg ?_
    refine r_aload_n F dX12_told_18 rfl ?_
    refine r_getiS (ci := 12) (k := 0) (id := 1200) (C := RX12) (T := TX12) (N := 50) F G rfl (by decide) (by decide) rfl (zinL inG12) (zin kf_X12_120) (fun _ h9 => h9) dX12_told_19 hg zi_s ?_
    refine r_if_le (tgt := 27) F dX12_told_22 (by decide) (fun _ => ?_) (fun h9 => absurd (by decide) h9)
    refine r_iload_n F dX12_told_27 rfl ?_
    refine r_if_ne (tgt := 38) F dX12_told_28 (by decide) (fun c28 => ?_) (fun c28 => ?_)
    · refine r_iload_n F dX12_told_38 rfl ?_
      refine r_iconst (v := 1) F dX12_told_39 (by decide) ?_
      refine r_icmp_ne (tgt := 51) F dX12_told_40 (by decide) (fun c40 => ?_) (fun c40 => ?_)
      · refine r_aload_n F dX12_told_51 rfl ?_
        refine r_geti (ci := 12) (k := 31) (id := 1231) (C := RX12) (T := TX12) (N := 50) F G rfl (by decide) (by decide) rfl (zinL inG12) (zin kf_X12_309) (fun _ h9 => h9) dX12_told_52 hg ?_
        refine r_i2l F dX12_told_55 ?_
        exact e_lret F hr hlk ⟨fun _ => ⟨rfl, by rw [if_neg c28, if_neg c40, zi_n (by decide)]⟩, fun h => absurd hw h⟩ (by decide) (by decide) dX12_told_56
      · refine r_aload_n F dX12_told_43 rfl ?_
        refine r_geti (ci := 12) (k := 30) (id := 1230) (C := RX12) (T := TX12) (N := 50) F G rfl (by decide) (by decide) rfl (zinL inG12) (zin kf_X12_364) (fun _ h9 => h9) dX12_told_44 hg ?_
        refine r_i2l F dX12_told_47 ?_
        refine r_goto (tgt := 56) F dX12_told_48 (by decide) ?_
        exact e_lret F hr hlk ⟨fun _ => ⟨rfl, by rw [if_neg c28, if_pos c40, zi_n (by decide)]⟩, fun h => absurd hw h⟩ (by decide) (by decide) dX12_told_56
    · refine r_aload_n F dX12_told_31 rfl ?_
      refine r_getl (ci := 12) (k := 29) (id := 1229) (C := RX12) (T := TX12) (N := 50) F G rfl (by decide) (by decide) rfl (zinL inG12) (zin kf_X12_367) (fun _ h9 => h9) dX12_told_32 hg ?_
      refine r_goto (tgt := 56) F dX12_told_35 (by decide) ?_
      exact e_lret F hr hlk ⟨fun _ => ⟨rfl, by rw [if_pos c28]⟩, fun h => absurd hw h⟩ (by decide) (by decide) dX12_told_56
  · rw [if_neg hw] at h4a
    subst h4a
    refine r_if_eq (tgt := 14) F dX12_told_7 (by decide) (fun _ => ?_) (fun h9 => absurd rfl h9)
    refine r_iconst (v := 1) F dX12_told_14 (by decide) ?_
    refine r_puti (ci := 12) (k := 0) (id := 1200) (C := RX12) (T := TX12) (N := 50) (ty := .int) (ty0 := tyX12) F G rfl (by decide) (by decide) rfl (zinL inG12) (zin kf_X12_120) (fun _ h9 => h9) tyX12_ok nmX12 rfl pd12_0 rfl rfl dX12_told_15 hg ?_
    refine r_aload_n F dX12_told_18 rfl ?_
    refine r_getiS (ci := 12) (k := 0) (id := 1200) (C := RX12) (T := TX12) (N := 50) F G rfl (by decide) (by decide) rfl (zinL inG12) (zin kf_X12_120) (fun _ h9 => h9) dX12_told_19 hg zi_s ?_
    refine r_if_le (tgt := 27) F dX12_told_22 (by decide) (fun h9 => absurd h9 (by decide)) (fun _ => ?_)
    refine r_lconst (v := 0) F dX12_told_25 (by decide) ?_
    exact e_lret F hr hlk ⟨fun h => absurd h hw, fun _ => rfl⟩ (by decide) (by decide) dX12_told_26
set_option maxRecDepth 100000 in
set_option maxHeartbeats 4000000 in
theorem m_memory {l : Launch} {N0 t0 : Nat} {D : va_G} {cy : Nat → ClassId} {S : zS} {g : Nat} (hg : zA S g 12) {w : Int32} {q : Nat} (hq : zq S 1228 g = some q) (hqa : zA S q 13) (hqn : zn S q = 1024) : zMi l yX12_memory (zws yX12_memory cX12_memory 2 (some .int)) { frames := 1, cells := 0, slots := 0, locals := 22 } N0 t0 D cy S [.ref g, .int w] (fun r S' => (¬ w < 0 ∧ w ≤ 1023 → S' = zPi S 1200 g 0 ∧ r = zri S q w.toNatClampNeg &&& 255) ∧ (¬ (¬ w < 0 ∧ w ≤ 1023) → S' = zPi S 1200 g 1)) 0 0 := by
  refine zMi.of (cc := cX12_memory) (maxL := 2) (ret := (some .int)) (by decide) rfl (Nat.le_of_ble_eq_true rfl) ?_
  intro p e s m args below meth c F G hr hlk hnm
  refine r_aload_n F dX12_memory_0 rfl ?_
  refine r_iload_n F dX12_memory_1 rfl ?_
  refine r_iconst (v := 0) F dX12_memory_2 (by decide) ?_
  refine r_sipush (v := 1023) F dX12_memory_3 (by decide) ?_
  refine c_Si F G (k_isIn _ _ _) (va_cwS 3 F.2.2.2.2 (zgS km_X12_126 ks_X12_isIn kn_X12 ko_X12_isIn) rfl rfl rfl hd_yX12_isIn ⟨Nat.le_of_ble_eq_true rfl, Nat.le_of_ble_eq_true rfl⟩) rfl rfl (Nat.le_of_ble_eq_true rfl) dX12_memory_6 ⟨Nat.le_of_ble_eq_true rfl, Nat.le_of_ble_eq_true rfl⟩ (fun r4 S4 h4 => ?_)
  obtain ⟨h4a, h4b⟩ := h4
  have h4s := h4b.symm
  subst h4s
  by_cases hw : ¬ w < 0 ∧ w ≤ 1023
  · rw [if_pos hw] at h4a
    subst h4a
    have hin : vp_in w (zn S q) := by
      rw [hqn]
      obtain ⟨j, hj, rfl⟩ := nI_of2 (M := 1023) (n := 1023) (by decide) hw.1 hw.2
      exact vp_in_nI (by omega) (by decide)
    refine r_if_eq (tgt := 16) F dX12_memory_9 (by decide) (fun h9 => absurd h9 (by decide)) (fun _ => ?_)
    refine r_iconst (v := 0) F dX12_memory_12 (by decide) ?_
    refine r_goto (tgt := 17) F dX12_memory_13 (by decide) ?_
    refine r_puti (ci := 12) (k := 0) (id := 1200) (C := RX12) (T := TX12) (N := 50) (ty := .int) (ty0 := tyX12) F G rfl (by decide) (by decide) rfl (zinL inG12) (zin kf_X12_120) (fun _ h9 => h9) tyX12_ok nmX12 rfl pd12_0 rfl rfl dX12_memory_17 hg ?_
    refine r_aload_n F dX12_memory_20 rfl ?_
    refine r_getiS (ci := 12) (k := 0) (id := 1200) (C := RX12) (T := TX12) (N := 50) F G rfl (by decide) (by decide) rfl (zinL inG12) (zin kf_X12_120) (fun _ h9 => h9) dX12_memory_21 hg zi_s ?_
    refine r_if_le (tgt := 31) F dX12_memory_24 (by decide) (fun _ => ?_) (fun h9 => absurd (by decide) h9)
    refine r_aload_n F dX12_memory_31 rfl ?_
    refine r_getS (ci := 12) (k := 28) (id := 1228) (C := RX12) (T := TX12) (N := 50) F G rfl (by decide) (by decide) rfl (zinL inG12) (zin kf_X12_76) (fun _ h9 => h9) dX12_memory_32 hg hq ?_
    refine r_iload_n F dX12_memory_35 rfl ?_
    refine r_bald F G hqa hin dX12_memory_36 ?_
    refine r_sipush (v := 255) F dX12_memory_37 (by decide) ?_
    refine r_iand F dX12_memory_40 ?_
    exact e_iret F hr hlk ⟨fun _ => ⟨rfl, rfl⟩, fun h => absurd hw h⟩ (by decide) (by decide) dX12_memory_41
  · rw [if_neg hw] at h4a
    subst h4a
    refine r_if_eq (tgt := 16) F dX12_memory_9 (by decide) (fun _ => ?_) (fun h9 => absurd rfl h9)
    refine r_iconst (v := 1) F dX12_memory_16 (by decide) ?_
    refine r_puti (ci := 12) (k := 0) (id := 1200) (C := RX12) (T := TX12) (N := 50) (ty := .int) (ty0 := tyX12) F G rfl (by decide) (by decide) rfl (zinL inG12) (zin kf_X12_120) (fun _ h9 => h9) tyX12_ok nmX12 rfl pd12_0 rfl rfl dX12_memory_17 hg ?_
    refine r_aload_n F dX12_memory_20 rfl ?_
    refine r_getiS (ci := 12) (k := 0) (id := 1200) (C := RX12) (T := TX12) (N := 50) F G rfl (by decide) (by decide) rfl (zinL inG12) (zin kf_X12_120) (fun _ h9 => h9) dX12_memory_21 hg zi_s ?_
    refine r_if_le (tgt := 31) F dX12_memory_24 (by decide) (fun h9 => absurd h9 (by decide)) (fun _ => ?_)
    refine r_iconst (v := 0) F dX12_memory_27 (by decide) ?_
    refine r_goto (tgt := 41) F dX12_memory_28 (by decide) ?_
    exact e_iret F hr hlk ⟨fun h => absurd h hw, fun _ => rfl⟩ (by decide) (by decide) dX12_memory_41
set_option maxRecDepth 100000 in
set_option maxHeartbeats 4000000 in
theorem m_object_first {l : Launch} {N0 t0 : Nat} {D : va_G} {cy : Nat → ClassId} {S : zS} {g : Nat} (hg : zA S g 12) (h0 : zi S 1201 g = 0) : zMi l yX12_object (zws yX12_object cX12_object 1 (some .int)) { frames := 0, cells := 0, slots := 0, locals := 0 } N0 t0 D cy S [.ref g] (fun r S' => r = 0 ∧ zi S' 1200 g = 0 ∧ zA S' g 12 ∧ zfr S S' (fun b => b = g)) 0 0 := by
  refine zMi.of (cc := cX12_object) (maxL := 1) (ret := (some .int)) (by decide) rfl (Nat.le_of_ble_eq_true rfl) ?_
  intro p e s m args below meth c F G hr hlk hnm
  refine r_aload_n F dX12_object_0 rfl ?_
  refine r_aload_n F dX12_object_1 rfl ?_
  refine r_getiS (ci := 12) (k := 1) (id := 1201) (C := RX12) (T := TX12) (N := 50) F G rfl (by decide) (by decide) rfl (zinL inG12) (zin kf_X12_123) (fun _ h9 => h9) dX12_object_2 hg h0 ?_
  refine r_bipush (v := 6) F dX12_object_5 (by decide) ?_
  refine r_icmp_ne (tgt := 14) F dX12_object_7 (by decide) (fun _ => ?_) (fun h9 => absurd h9 (by decide))
  refine r_iconst (v := 0) F dX12_object_14 (by decide) ?_
  refine r_puti (ci := 12) (k := 0) (id := 1200) (C := RX12) (T := TX12) (N := 50) (ty := .int) (ty0 := tyX12) F G rfl (by decide) (by decide) rfl (zinL inG12) (zin kf_X12_120) (fun _ h9 => h9) tyX12_ok nmX12 rfl pd12_0 rfl rfl dX12_object_15 hg ?_
  refine r_aload_n F dX12_object_18 rfl ?_
  refine r_getiS (ci := 12) (k := 0) (id := 1200) (C := RX12) (T := TX12) (N := 50) F G rfl (by decide) (by decide) rfl (zinL inG12) (zin kf_X12_120) (fun _ h9 => h9) dX12_object_19 hg zi_s ?_
  refine r_if_le (tgt := 27) F dX12_object_22 (by decide) (fun _ => ?_) (fun h9 => absurd (by decide) h9)
  refine r_aload_n F dX12_object_27 rfl ?_
  refine r_iconst (v := 0) F dX12_object_28 (by decide) ?_
  refine r_puti (ci := 12) (k := 19) (id := 1219) (C := RX12) (T := TX12) (N := 50) (ty := .boolean) (ty0 := tyX12) F G rfl (by decide) (by decide) rfl (zinL inG12) (zin kf_X12_134) (fun _ h9 => h9) tyX12_ok nmX12 rfl pd12_19 rfl rfl dX12_object_29 hg ?_
  refine r_aload_n F dX12_object_32 rfl ?_
  refine r_dup F dX12_object_33 rfl ?_
  refine r_geti (ci := 12) (k := 1) (id := 1201) (C := RX12) (T := TX12) (N := 50) F G rfl (by decide) (by decide) rfl (zinL inG12) (zin kf_X12_123) (fun _ h9 => h9) dX12_object_34 hg ?_
  refine r_iconst (v := 1) F dX12_object_37 (by decide) ?_
  refine r_iadd F dX12_object_38 ?_
  refine r_puti (ci := 12) (k := 1) (id := 1201) (C := RX12) (T := TX12) (N := 50) (ty := .int) (ty0 := tyX12) F G rfl (by decide) (by decide) rfl (zinL inG12) (zin kf_X12_123) (fun _ h9 => h9) tyX12_ok nmX12 rfl pd12_1 rfl rfl dX12_object_39 hg ?_
  refine r_aload_n F dX12_object_42 rfl ?_
  refine r_getiS (ci := 12) (k := 1) (id := 1201) (C := RX12) (T := TX12) (N := 50) F G rfl (by decide) (by decide) rfl (zinL inG12) (zin kf_X12_123) (fun _ h9 => h9) dX12_object_43 hg zi_s ?_
  refine r_iconst (v := 1) F dX12_object_46 (by decide) ?_
  refine r_isub F dX12_object_47 ?_
  exact e_iret F hr hlk ⟨by rw [zi_n (by decide), zi_n (by decide), h0]; decide, (zi_n (by decide)).trans ((zi_n (by decide)).trans zi_s), hg, zfr.pi (zfr.pi (zfr.pi zfr.rf (fun _ => rfl)) (fun _ => rfl)) (fun _ => rfl)⟩ (by decide) (by decide) dX12_object_48
set_option maxRecDepth 100000 in
set_option maxHeartbeats 4000000 in
theorem m_link_none {l : Launch} {N0 t0 : Nat} {D : va_G} {cy : Nat → ClassId} {S : zS} {g : Nat} (hg : zA S g 12) (h0 : zi S 1201 g = 0) : zMi l yX12_link (zws yX12_link cX12_link 2 (some .int)) { frames := 0, cells := 0, slots := 0, locals := 0 } N0 t0 D cy S [.ref g] (fun r S' => r = 0 ∧ S' = zPi S 1200 g 1) 0 0 := by
  refine zMi.of (cc := cX12_link) (maxL := 2) (ret := (some .int)) (by decide) rfl (Nat.le_of_ble_eq_true rfl) ?_
  intro p e s m args below meth c F G hr hlk hnm
  refine r_aload_n F dX12_link_0 rfl ?_
  refine r_aload_n F dX12_link_1 rfl ?_
  refine r_getiS (ci := 12) (k := 1) (id := 1201) (C := RX12) (T := TX12) (N := 50) F G rfl (by decide) (by decide) rfl (zinL inG12) (zin kf_X12_123) (fun _ h9 => h9) dX12_link_2 hg h0 ?_
  refine r_if_ne (tgt := 12) F dX12_link_5 (by decide) (fun h9 => absurd rfl h9) (fun _ => ?_)
  refine r_iconst (v := 1) F dX12_link_8 (by decide) ?_
  refine r_goto (tgt := 13) F dX12_link_9 (by decide) ?_
  refine r_puti (ci := 12) (k := 0) (id := 1200) (C := RX12) (T := TX12) (N := 50) (ty := .int) (ty0 := tyX12) F G rfl (by decide) (by decide) rfl (zinL inG12) (zin kf_X12_120) (fun _ h9 => h9) tyX12_ok nmX12 rfl pd12_0 rfl rfl dX12_link_13 hg ?_
  refine r_aload_n F dX12_link_16 rfl ?_
  refine r_getiS (ci := 12) (k := 0) (id := 1200) (C := RX12) (T := TX12) (N := 50) F G rfl (by decide) (by decide) rfl (zinL inG12) (zin kf_X12_120) (fun _ h9 => h9) dX12_link_17 hg zi_s ?_
  refine r_if_le (tgt := 25) F dX12_link_20 (by decide) (fun h9 => absurd h9 (by decide)) (fun _ => ?_)
  refine r_iconst (v := 0) F dX12_link_23 (by decide) ?_
  exact e_iret F hr hlk ⟨rfl, rfl⟩ (by decide) (by decide) dX12_link_24
set_option maxRecDepth 100000 in
set_option maxHeartbeats 4000000 in
theorem m_place {l : Launch} {N0 t0 : Nat} {D : va_G} {cy : Nat → ClassId} {S : zS} {g : Nat} (hg : zA S g 12) : zMi l yX12_place (zws yX12_place cX12_place 1 (some .int)) { frames := 0, cells := 0, slots := 0, locals := 0 } N0 t0 D cy S [.ref g] (fun r S' => r = zi S 1220 g ∧ S' = zPi S 1200 g 0) 0 0 := by
  refine zMi.of (cc := cX12_place) (maxL := 1) (ret := (some .int)) (by decide) rfl (Nat.le_of_ble_eq_true rfl) ?_
  intro p e s m args below meth c F G hr hlk hnm
  refine r_aload_n F dX12_place_0 rfl ?_
  refine r_iconst (v := 0) F dX12_place_1 (by decide) ?_
  refine r_puti (ci := 12) (k := 0) (id := 1200) (C := RX12) (T := TX12) (N := 50) (ty := .int) (ty0 := tyX12) F G rfl (by decide) (by decide) rfl (zinL inG12) (zin kf_X12_120) (fun _ h9 => h9) tyX12_ok nmX12 rfl pd12_0 rfl rfl dX12_place_2 hg ?_
  refine r_aload_n F dX12_place_5 rfl ?_
  refine r_geti (ci := 12) (k := 20) (id := 1220) (C := RX12) (T := TX12) (N := 50) F G rfl (by decide) (by decide) rfl (zinL inG12) (zin kf_X12_62) (fun _ h9 => h9) dX12_place_6 hg ?_
  exact e_iret F hr hlk ⟨zi_n (by decide), rfl⟩ (by decide) (by decide) dX12_place_9
set_option maxRecDepth 100000 in
set_option maxHeartbeats 4000000 in
theorem m_count_un {l : Launch} {N0 t0 : Nat} {D : va_G} {cy : Nat → ClassId} {S : zS} {g : Nat} (hg : zA S g 12) {w : Int32} (hn : zi S 1219 g = 0) : zMi l yX12_count (zws yX12_count cX12_count 2 (some .int)) { frames := 1, cells := 0, slots := 0, locals := 22 } N0 t0 D cy S [.ref g, .int w] (fun r S' => S' = zPi S 1200 g (if ¬ w < 0 ∧ w ≤ 4 then 2 else 1)) 0 0 := by
  refine zMi.of (cc := cX12_count) (maxL := 2) (ret := (some .int)) (by decide) rfl (Nat.le_of_ble_eq_true rfl) ?_
  intro p e s m args below meth c F G hr hlk hnm
  refine r_aload_n F dX12_count_0 rfl ?_
  refine r_iload_n F dX12_count_1 rfl ?_
  refine r_iconst (v := 0) F dX12_count_2 (by decide) ?_
  refine r_iconst (v := 4) F dX12_count_3 (by decide) ?_
  refine c_Si F G (k_isIn _ _ _) (va_cwS 3 F.2.2.2.2 (zgS km_X12_126 ks_X12_isIn kn_X12 ko_X12_isIn) rfl rfl rfl hd_yX12_isIn ⟨Nat.le_of_ble_eq_true rfl, Nat.le_of_ble_eq_true rfl⟩) rfl rfl (Nat.le_of_ble_eq_true rfl) dX12_count_4 ⟨Nat.le_of_ble_eq_true rfl, Nat.le_of_ble_eq_true rfl⟩ (fun r4 S4 h4 => ?_)
  obtain ⟨h4a, h4b⟩ := h4
  have h4s := h4b.symm
  subst h4s
  by_cases hw : ¬ w < 0 ∧ w ≤ 4
  · rw [if_pos hw] at h4a
    subst h4a
    refine r_if_ne (tgt := 14) F dX12_count_7 (by decide) (fun _ => ?_) (fun h9 => absurd h9 (by decide))
    refine r_aload_n F dX12_count_14 rfl ?_
    refine r_getiS (ci := 12) (k := 19) (id := 1219) (C := RX12) (T := TX12) (N := 50) F G rfl (by decide) (by decide) rfl (zinL inG12) (zin kf_X12_134) (fun _ h9 => h9) dX12_count_15 hg hn ?_
    refine r_if_ne (tgt := 25) F dX12_count_18 (by decide) (fun h9 => absurd rfl h9) (fun _ => ?_)
    refine r_iconst (v := 2) F dX12_count_21 (by decide) ?_
    refine r_goto (tgt := 26) F dX12_count_22 (by decide) ?_
    refine r_puti (ci := 12) (k := 0) (id := 1200) (C := RX12) (T := TX12) (N := 50) (ty := .int) (ty0 := tyX12) F G rfl (by decide) (by decide) rfl (zinL inG12) (zin kf_X12_120) (fun _ h9 => h9) tyX12_ok nmX12 rfl pd12_0 rfl rfl dX12_count_26 hg ?_
    refine r_aload_n F dX12_count_29 rfl ?_
    refine r_getiS (ci := 12) (k := 0) (id := 1200) (C := RX12) (T := TX12) (N := 50) F G rfl (by decide) (by decide) rfl (zinL inG12) (zin kf_X12_120) (fun _ h9 => h9) dX12_count_30 hg zi_s ?_
    refine r_if_le (tgt := 38) F dX12_count_33 (by decide) (fun h9 => absurd h9 (by decide)) (fun _ => ?_)
    refine r_iconst (v := 0) F dX12_count_36 (by decide) ?_
    exact e_iret F hr hlk (by rw [if_pos hw]) (by decide) (by decide) dX12_count_37
  · rw [if_neg hw] at h4a
    subst h4a
    refine r_if_ne (tgt := 14) F dX12_count_7 (by decide) (fun h9 => absurd rfl h9) (fun _ => ?_)
    refine r_iconst (v := 1) F dX12_count_10 (by decide) ?_
    refine r_goto (tgt := 26) F dX12_count_11 (by decide) ?_
    refine r_puti (ci := 12) (k := 0) (id := 1200) (C := RX12) (T := TX12) (N := 50) (ty := .int) (ty0 := tyX12) F G rfl (by decide) (by decide) rfl (zinL inG12) (zin kf_X12_120) (fun _ h9 => h9) tyX12_ok nmX12 rfl pd12_0 rfl rfl dX12_count_26 hg ?_
    refine r_aload_n F dX12_count_29 rfl ?_
    refine r_getiS (ci := 12) (k := 0) (id := 1200) (C := RX12) (T := TX12) (N := 50) F G rfl (by decide) (by decide) rfl (zinL inG12) (zin kf_X12_120) (fun _ h9 => h9) dX12_count_30 hg zi_s ?_
    refine r_if_le (tgt := 38) F dX12_count_33 (by decide) (fun h9 => absurd h9 (by decide)) (fun _ => ?_)
    refine r_iconst (v := 0) F dX12_count_36 (by decide) ?_
    exact e_iret F hr hlk (by rw [if_neg hw]) (by decide) (by decide) dX12_count_37
set_option maxRecDepth 100000 in
set_option maxHeartbeats 4000000 in
theorem m_byteAt_un {l : Launch} {N0 t0 : Nat} {D : va_G} {cy : Nat → ClassId} {S : zS} {g : Nat} (hg : zA S g 12) {i : Int32} (hn : zi S 1219 g = 0) : zMi l yX12_byteAt (zws yX12_byteAt cX12_byteAt 2 (some .int)) { frames := 0, cells := 0, slots := 0, locals := 0 } N0 t0 D cy S [.ref g, .int i] (fun r S' => S' = zPi S 1200 g (if i < 0 then 1 else 2)) 0 0 := by
  refine zMi.of (cc := cX12_byteAt) (maxL := 2) (ret := (some .int)) (by decide) rfl (Nat.le_of_ble_eq_true rfl) ?_
  intro p e s m args below meth c F G hr hlk hnm
  refine r_aload_n F dX12_byteAt_0 rfl ?_
  refine r_iload_n F dX12_byteAt_1 rfl ?_
  refine r_if_ge (tgt := 9) F dX12_byteAt_2 (by decide) (fun c2 => ?_) (fun c2 => ?_)
  · refine r_aload_n F dX12_byteAt_9 rfl ?_
    refine r_getiS (ci := 12) (k := 19) (id := 1219) (C := RX12) (T := TX12) (N := 50) F G rfl (by decide) (by decide) rfl (zinL inG12) (zin kf_X12_134) (fun _ h9 => h9) dX12_byteAt_10 hg hn ?_
    refine r_if_ne (tgt := 20) F dX12_byteAt_13 (by decide) (fun h9 => absurd rfl h9) (fun _ => ?_)
    refine r_iconst (v := 2) F dX12_byteAt_16 (by decide) ?_
    refine r_goto (tgt := 33) F dX12_byteAt_17 (by decide) ?_
    refine r_puti (ci := 12) (k := 0) (id := 1200) (C := RX12) (T := TX12) (N := 50) (ty := .int) (ty0 := tyX12) F G rfl (by decide) (by decide) rfl (zinL inG12) (zin kf_X12_120) (fun _ h9 => h9) tyX12_ok nmX12 rfl pd12_0 rfl rfl dX12_byteAt_33 hg ?_
    refine r_aload_n F dX12_byteAt_36 rfl ?_
    refine r_getiS (ci := 12) (k := 0) (id := 1200) (C := RX12) (T := TX12) (N := 50) F G rfl (by decide) (by decide) rfl (zinL inG12) (zin kf_X12_120) (fun _ h9 => h9) dX12_byteAt_37 hg zi_s ?_
    refine r_if_le (tgt := 47) F dX12_byteAt_40 (by decide) (fun h9 => absurd h9 (by decide)) (fun _ => ?_)
    refine r_iconst (v := 0) F dX12_byteAt_43 (by decide) ?_
    refine r_goto (tgt := 57) F dX12_byteAt_44 (by decide) ?_
    exact e_iret F hr hlk (by first | rw [if_pos (Int32.not_le.mp c2)] | rw [if_neg (Int32.not_lt.mpr c2)]) (by decide) (by decide) dX12_byteAt_57
  · refine r_iconst (v := 1) F dX12_byteAt_5 (by decide) ?_
    refine r_goto (tgt := 33) F dX12_byteAt_6 (by decide) ?_
    refine r_puti (ci := 12) (k := 0) (id := 1200) (C := RX12) (T := TX12) (N := 50) (ty := .int) (ty0 := tyX12) F G rfl (by decide) (by decide) rfl (zinL inG12) (zin kf_X12_120) (fun _ h9 => h9) tyX12_ok nmX12 rfl pd12_0 rfl rfl dX12_byteAt_33 hg ?_
    refine r_aload_n F dX12_byteAt_36 rfl ?_
    refine r_getiS (ci := 12) (k := 0) (id := 1200) (C := RX12) (T := TX12) (N := 50) F G rfl (by decide) (by decide) rfl (zinL inG12) (zin kf_X12_120) (fun _ h9 => h9) dX12_byteAt_37 hg zi_s ?_
    refine r_if_le (tgt := 47) F dX12_byteAt_40 (by decide) (fun h9 => absurd h9 (by decide)) (fun _ => ?_)
    refine r_iconst (v := 0) F dX12_byteAt_43 (by decide) ?_
    refine r_goto (tgt := 57) F dX12_byteAt_44 (by decide) ?_
    exact e_iret F hr hlk (by first | rw [if_pos (Int32.not_le.mp c2)] | rw [if_neg (Int32.not_lt.mpr c2)]) (by decide) (by decide) dX12_byteAt_57
