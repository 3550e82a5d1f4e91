set_option maxRecDepth 100000 in
set_option maxHeartbeats 4000000 in
theorem c_routineAt {l : Launch} {N0 t0 : Nat} {D : va_G} {cy : Nat → ClassId} {S : zS} {X : Nat → Prop} {S0 : zS} {ad : Nat → Nat} {W : zO} (hH : zH t0 X S0 ad W S) (hw : wr W) {B a n : Nat} {j : Int32} {f : Nat → Nat} (hc : oa W B) (ea : ad B = a) (hk : kd B = 10) (hl : vl W (B + 2) n f) (hkl : kd (B + 2) = 0) (hkl1 : kd (B + 2 + 1) = 19) (hf : ∀ i, i < n → kd (f i) = 7) (hn : n ≤ 109) : zMq l yX9_routineAt (zws yX9_routineAt cX9_routineAt 2 (some (.object "ObjectLinker$Routine"))) { frames := 3, cells := 0, slots := 0, locals := 65 } N0 t0 D cy S [.ref a, .int j] (fun r S' => S' = S ∧ ((∃ i, i < n ∧ j = nI i ∧ r = some (ad (f i))) ∨ ((∀ i, i < n → ¬ j = nI i) ∧ r = none))) 0 0 := by
  refine zMq.of (cc := cX9_routineAt) (maxL := 2) (ret := (some (.object "ObjectLinker$Routine"))) (by decide) rfl (Nat.le_of_ble_eq_true rfl) ?_
  intro p e s m args below meth c F G hr hlk hnm
  have A0 : zA S a 10 := hH.al hc ea hk
  have Q0 : zq S 1000 a = some (ad (B + 2)) := hH.qS hc ea (by rw [hk]; decide) (hw.q hc (by decide) hk) rfl
  have L0 : zA S (ad (B + 2)) 0 := hl.al hH hkl rfl
  have L1 : zi S 2 (ad (B + 2)) = nI n := hl.z hH hkl rfl
  have L2 : zq S 1 (ad (B + 2)) = some (vlq t0 ad W (B + 2)) := hl.E hH hkl rfl
  refine r_iload_n F dX9_routineAt_0 rfl ?_
  refine r_if_lt (tgt := 33) F dX9_routineAt_1 (by decide) (fun c1 => ?_) (fun c1 => ?_)
  · refine r_null F dX9_routineAt_33 ?_
    exact e_aret (v := none) F hr (Or.inl ⟨_, rfl⟩) hlk ⟨rfl, Or.inr ⟨fun i hi e9 => by rw [e9] at c1; exact nI_pos (by omega) c1, rfl⟩⟩ (by decide) (by decide) dX9_routineAt_34
  · refine r_iload_n F dX9_routineAt_4 rfl ?_
    refine r_aload_n F dX9_routineAt_5 rfl ?_
    refine r_getS (ci := 10) (k := 0) (id := 1000) (C := RX9) (T := TX9) (N := 3) F G rfl (by decide) (by decide) rfl (zinL inG10) (zin kf_X9_10) (fun _ h9 => h9) dX9_routineAt_6 A0 Q0 ?_
    refine c_Fi (ci := 0) F G (k_ListSize L0) (va_cwF 0 F.2.2.2.2 (zgF km_X9_22 ke_Jx4a65c_Jxbd725_size ki_Jx4a65c_size_8abf5 kn_Jx4a65c ko_Jx4a65c_size_8abf5) rfl rfl rfl (G.2.2.2.2.1 (⟨"java/util/List", "size", "()I"⟩, yJx4a65c_size_8abf5) (List.mem_of_getElem? (i := 0) rfl)) hdF_size ⟨Nat.le_of_ble_eq_true rfl, Nat.le_of_ble_eq_true rfl⟩) rfl (by decide) L0 rfl rfl (Nat.le_of_ble_eq_true rfl) dX9_routineAt_9 ⟨Nat.le_of_ble_eq_true rfl, Nat.le_of_ble_eq_true rfl⟩ (fun r9 S9 h9 => ?_)
    obtain ⟨h9a, h9b⟩ := h9
    have h9c := h9b.symm
    subst h9c
    rw [L1] at h9a
    subst h9a
    refine r_icmp_ge (tgt := 33) F dX9_routineAt_14 (by decide) (fun c14 => ?_) (fun c14 => ?_)
    · refine r_null F dX9_routineAt_33 ?_
      exact e_aret (v := none) F hr (Or.inl ⟨_, rfl⟩) hlk ⟨rfl, Or.inr ⟨fun i hi e9 => by rw [e9, nI_leI (by omega) (by omega)] at c14; omega, rfl⟩⟩ (by decide) (by decide) dX9_routineAt_34
    · obtain ⟨i, hi31, ei⟩ := nI_of c1
      subst ei
      have hi : i < n := by rw [nI_leI (by omega) (by omega)] at c14; omega
      have g := hl.get hH hkl1 hi
      have gA : zA S (ad (f i)) 7 := by
        have hd := (hH.cl (hl.pos (by omega)).2.1).2 i (f i) ((hl.pos (by omega)).2.2.2.2 i hi)
        exact hH.al hd.1 rfl (hf i hi)
      refine r_aload_n F dX9_routineAt_17 rfl ?_
      refine r_getS (ci := 10) (k := 0) (id := 1000) (C := RX9) (T := TX9) (N := 3) F G rfl (by decide) (by decide) rfl (zinL inG10) (zin kf_X9_10) (fun _ h9 => h9) dX9_routineAt_18 A0 Q0 ?_
      refine r_iload_n F dX9_routineAt_21 rfl ?_
      refine c_Fq (ci := 0) F G (k_get L0 L2 g.1 L1 hi g.2.1 g.2.2.1) (va_cwF 1 F.2.2.2.2 (zgF km_X9_28 ke_Jx4a65c_Jxbd725_get ki_Jx4a65c_get_915e3 kn_Jx4a65c ko_Jx4a65c_get_915e3) rfl rfl rfl (G.2.2.2.2.1 (⟨"java/util/List", "get", "(I)Ljava/lang/Object;"⟩, yJx4a65c_get_915e3) (List.mem_of_getElem? (i := 2) rfl)) hdF_get ⟨Nat.le_of_ble_eq_true rfl, Nat.le_of_ble_eq_true rfl⟩) rfl (by decide) L0 rfl rfl (Nat.le_of_ble_eq_true rfl) dX9_routineAt_22 ⟨Nat.le_of_ble_eq_true rfl, Nat.le_of_ble_eq_true rfl⟩ (fun r22 S22 h22 => ?_)
      obtain ⟨h22a, h22b⟩ := h22
      have h22c := h22b.symm
      subst h22c
      rw [g.2.2.2] at h22a
      subst h22a
      refine r_cast (a := ad (f i)) (ci := 7) F G gA (by decide) rfl (List.mem_of_getElem? (i := 2) rfl) (zin kc_X9_32) dX9_routineAt_27 ?_
      refine r_goto (tgt := 34) F dX9_routineAt_30 (by decide) ?_
      exact e_aret (v := some (ad (f i))) F hr (Or.inl ⟨_, rfl⟩) hlk ⟨rfl, Or.inl ⟨i, hi, rfl, rfl⟩⟩ (by decide) (by decide) dX9_routineAt_34
set_option maxRecDepth 100000 in
set_option maxHeartbeats 4000000 in
theorem c_segmentAt {l : Launch} {N0 t0 : Nat} {D : va_G} {cy : Nat → ClassId} {S : zS} {X : Nat → Prop} {S0 : zS} {ad : Nat → Nat} {W : zO} (hH : zH t0 X S0 ad W S) (hw : wr W) {B a n : Nat} {j : Int32} {f : Nat → Nat} (hc : oa W B) (ea : ad B = a) (hk : kd B = 10) (hl : vl W (B + 4) n f) (hkl : kd (B + 4) = 0) (hkl1 : kd (B + 4 + 1) = 19) (hf : ∀ i, i < n → kd (f i) = 8) (hn : n ≤ 109) : zMq l yX9_segmentAt (zws yX9_segmentAt cX9_segmentAt 2 (some (.object "ObjectLinker$Segment"))) { frames := 3, cells := 0, slots := 0, locals := 65 } N0 t0 D cy S [.ref a, .int j] (fun r S' => S' = S ∧ ((∃ i, i < n ∧ j = nI i ∧ r = some (ad (f i))) ∨ ((∀ i, i < n → ¬ j = nI i) ∧ r = none))) 0 0 := by
  refine zMq.of (cc := cX9_segmentAt) (maxL := 2) (ret := (some (.object "ObjectLinker$Segment"))) (by decide) rfl (Nat.le_of_ble_eq_true rfl) ?_
  intro p e s m args below meth c F G hr hlk hnm
  have A0 : zA S a 10 := hH.al hc ea hk
  have Q0 : zq S 1001 a = some (ad (B + 4)) := hH.qS hc ea (by rw [hk]; decide) (hw.q hc (by decide) hk) rfl
  have L0 : zA S (ad (B + 4)) 0 := hl.al hH hkl rfl
  have L1 : zi S 2 (ad (B + 4)) = nI n := hl.z hH hkl rfl
  have L2 : zq S 1 (ad (B + 4)) = some (vlq t0 ad W (B + 4)) := hl.E hH hkl rfl
  refine r_iload_n F dX9_segmentAt_0 rfl ?_
  refine r_if_lt (tgt := 33) F dX9_segmentAt_1 (by decide) (fun c1 => ?_) (fun c1 => ?_)
  · refine r_null F dX9_segmentAt_33 ?_
    exact e_aret (v := none) F hr (Or.inl ⟨_, rfl⟩) hlk ⟨rfl, Or.inr ⟨fun i hi e9 => by rw [e9] at c1; exact nI_pos (by omega) c1, rfl⟩⟩ (by decide) (by decide) dX9_segmentAt_34
  · refine r_iload_n F dX9_segmentAt_4 rfl ?_
    refine r_aload_n F dX9_segmentAt_5 rfl ?_
    refine r_getS (ci := 10) (k := 1) (id := 1001) (C := RX9) (T := TX9) (N := 3) F G rfl (by decide) (by decide) rfl (zinL inG10) (zin kf_X9_16) (fun _ h9 => h9) dX9_segmentAt_6 A0 Q0 ?_
    refine c_Fi (ci := 0) F G (k_ListSize L0) (va_cwF 0 F.2.2.2.2 (zgF km_X9_22 ke_Jx4a65c_Jxbd725_size ki_Jx4a65c_size_8abf5 kn_Jx4a65c ko_Jx4a65c_size_8abf5) rfl rfl rfl (G.2.2.2.2.1 (⟨"java/util/List", "size", "()I"⟩, yJx4a65c_size_8abf5) (List.mem_of_getElem? (i := 0) rfl)) hdF_size ⟨Nat.le_of_ble_eq_true rfl, Nat.le_of_ble_eq_true rfl⟩) rfl (by decide) L0 rfl rfl (Nat.le_of_ble_eq_true rfl) dX9_segmentAt_9 ⟨Nat.le_of_ble_eq_true rfl, Nat.le_of_ble_eq_true rfl⟩ (fun r9 S9 h9 => ?_)
    obtain ⟨h9a, h9b⟩ := h9
    have h9c := h9b.symm
    subst h9c
    rw [L1] at h9a
    subst h9a
    refine r_icmp_ge (tgt := 33) F dX9_segmentAt_14 (by decide) (fun c14 => ?_) (fun c14 => ?_)
    · refine r_null F dX9_segmentAt_33 ?_
      exact e_aret (v := none) F hr (Or.inl ⟨_, rfl⟩) hlk ⟨rfl, Or.inr ⟨fun i hi e9 => by rw [e9, nI_leI (by omega) (by omega)] at c14; omega, rfl⟩⟩ (by decide) (by decide) dX9_segmentAt_34
    · obtain ⟨i, hi31, ei⟩ := nI_of c1
      subst ei
      have hi : i < n := by rw [nI_leI (by omega) (by omega)] at c14; omega
      have g := hl.get hH hkl1 hi
      have gA : zA S (ad (f i)) 8 := by
        have hd := (hH.cl (hl.pos (by omega)).2.1).2 i (f i) ((hl.pos (by omega)).2.2.2.2 i hi)
        exact hH.al hd.1 rfl (hf i hi)
      refine r_aload_n F dX9_segmentAt_17 rfl ?_
      refine r_getS (ci := 10) (k := 1) (id := 1001) (C := RX9) (T := TX9) (N := 3) F G rfl (by decide) (by decide) rfl (zinL inG10) (zin kf_X9_16) (fun _ h9 => h9) dX9_segmentAt_18 A0 Q0 ?_
      refine r_iload_n F dX9_segmentAt_21 rfl ?_
      refine c_Fq (ci := 0) F G (k_get L0 L2 g.1 L1 hi g.2.1 g.2.2.1) (va_cwF 1 F.2.2.2.2 (zgF km_X9_28 ke_Jx4a65c_Jxbd725_get ki_Jx4a65c_get_915e3 kn_Jx4a65c ko_Jx4a65c_get_915e3) rfl rfl rfl (G.2.2.2.2.1 (⟨"java/util/List", "get", "(I)Ljava/lang/Object;"⟩, yJx4a65c_get_915e3) (List.mem_of_getElem? (i := 2) rfl)) hdF_get ⟨Nat.le_of_ble_eq_true rfl, Nat.le_of_ble_eq_true rfl⟩) rfl (by decide) L0 rfl rfl (Nat.le_of_ble_eq_true rfl) dX9_segmentAt_22 ⟨Nat.le_of_ble_eq_true rfl, Nat.le_of_ble_eq_true rfl⟩ (fun r22 S22 h22 => ?_)
      obtain ⟨h22a, h22b⟩ := h22
      have h22c := h22b.symm
      subst h22c
      rw [g.2.2.2] at h22a
      subst h22a
      refine r_cast (a := ad (f i)) (ci := 8) F G gA (by decide) rfl (List.mem_of_getElem? (i := 3) rfl) (zin kc_X9_34) dX9_segmentAt_27 ?_
      refine r_goto (tgt := 34) F dX9_segmentAt_30 (by decide) ?_
      exact e_aret (v := some (ad (f i))) F hr (Or.inl ⟨_, rfl⟩) hlk ⟨rfl, Or.inl ⟨i, hi, rfl, rfl⟩⟩ (by decide) (by decide) dX9_segmentAt_34
set_option maxRecDepth 100000 in
set_option maxHeartbeats 4000000 in
theorem c_symbolAt {l : Launch} {N0 t0 : Nat} {D : va_G} {cy : Nat → ClassId} {S : zS} {X : Nat → Prop} {S0 : zS} {ad : Nat → Nat} {W : zO} (hH : zH t0 X S0 ad W S) (hw : wr W) {B a n : Nat} {j : Int32} {f : Nat → Nat} (hc : oa W B) (ea : ad B = a) (hk : kd B = 10) (hl : vl W (B + 6) n f) (hkl : kd (B + 6) = 0) (hkl1 : kd (B + 6 + 1) = 19) (hf : ∀ i, i < n → kd (f i) = 9) (hn : n ≤ 109) : zMq l yX9_symbolAt (zws yX9_symbolAt cX9_symbolAt 2 (some (.object "ObjectLinker$Symbol"))) { frames := 3, cells := 0, slots := 0, locals := 65 } N0 t0 D cy S [.ref a, .int j] (fun r S' => S' = S ∧ ((∃ i, i < n ∧ j = nI i ∧ r = some (ad (f i))) ∨ ((∀ i, i < n → ¬ j = nI i) ∧ r = none))) 0 0 := by
  refine zMq.of (cc := cX9_symbolAt) (maxL := 2) (ret := (some (.object "ObjectLinker$Symbol"))) (by decide) rfl (Nat.le_of_ble_eq_true rfl) ?_
  intro p e s m args below meth c F G hr hlk hnm
  have A0 : zA S a 10 := hH.al hc ea hk
  have Q0 : zq S 1002 a = some (ad (B + 6)) := hH.qS hc ea (by rw [hk]; decide) (hw.q hc (by decide) hk) rfl
  have L0 : zA S (ad (B + 6)) 0 := hl.al hH hkl rfl
  have L1 : zi S 2 (ad (B + 6)) = nI n := hl.z hH hkl rfl
  have L2 : zq S 1 (ad (B + 6)) = some (vlq t0 ad W (B + 6)) := hl.E hH hkl rfl
  refine r_iload_n F dX9_symbolAt_0 rfl ?_
  refine r_if_lt (tgt := 33) F dX9_symbolAt_1 (by decide) (fun c1 => ?_) (fun c1 => ?_)
  · refine r_null F dX9_symbolAt_33 ?_
    exact e_aret (v := none) F hr (Or.inl ⟨_, rfl⟩) hlk ⟨rfl, Or.inr ⟨fun i hi e9 => by rw [e9] at c1; exact nI_pos (by omega) c1, rfl⟩⟩ (by decide) (by decide) dX9_symbolAt_34
  · refine r_iload_n F dX9_symbolAt_4 rfl ?_
    refine r_aload_n F dX9_symbolAt_5 rfl ?_
    refine r_getS (ci := 10) (k := 2) (id := 1002) (C := RX9) (T := TX9) (N := 3) F G rfl (by decide) (by decide) rfl (zinL inG10) (zin kf_X9_19) (fun _ h9 => h9) dX9_symbolAt_6 A0 Q0 ?_
    refine c_Fi (ci := 0) F G (k_ListSize L0) (va_cwF 0 F.2.2.2.2 (zgF km_X9_22 ke_Jx4a65c_Jxbd725_size ki_Jx4a65c_size_8abf5 kn_Jx4a65c ko_Jx4a65c_size_8abf5) rfl rfl rfl (G.2.2.2.2.1 (⟨"java/util/List", "size", "()I"⟩, yJx4a65c_size_8abf5) (List.mem_of_getElem? (i := 0) rfl)) hdF_size ⟨Nat.le_of_ble_eq_true rfl, Nat.le_of_ble_eq_true rfl⟩) rfl (by decide) L0 rfl rfl (Nat.le_of_ble_eq_true rfl) dX9_symbolAt_9 ⟨Nat.le_of_ble_eq_true rfl, Nat.le_of_ble_eq_true rfl⟩ (fun r9 S9 h9 => ?_)
    obtain ⟨h9a, h9b⟩ := h9
    have h9c := h9b.symm
    subst h9c
    rw [L1] at h9a
    subst h9a
    refine r_icmp_ge (tgt := 33) F dX9_symbolAt_14 (by decide) (fun c14 => ?_) (fun c14 => ?_)
    · refine r_null F dX9_symbolAt_33 ?_
      exact e_aret (v := none) F hr (Or.inl ⟨_, rfl⟩) hlk ⟨rfl, Or.inr ⟨fun i hi e9 => by rw [e9, nI_leI (by omega) (by omega)] at c14; omega, rfl⟩⟩ (by decide) (by decide) dX9_symbolAt_34
    · obtain ⟨i, hi31, ei⟩ := nI_of c1
      subst ei
      have hi : i < n := by rw [nI_leI (by omega) (by omega)] at c14; omega
      have g := hl.get hH hkl1 hi
      have gA : zA S (ad (f i)) 9 := by
        have hd := (hH.cl (hl.pos (by omega)).2.1).2 i (f i) ((hl.pos (by omega)).2.2.2.2 i hi)
        exact hH.al hd.1 rfl (hf i hi)
      refine r_aload_n F dX9_symbolAt_17 rfl ?_
      refine r_getS (ci := 10) (k := 2) (id := 1002) (C := RX9) (T := TX9) (N := 3) F G rfl (by decide) (by decide) rfl (zinL inG10) (zin kf_X9_19) (fun _ h9 => h9) dX9_symbolAt_18 A0 Q0 ?_
      refine r_iload_n F dX9_symbolAt_21 rfl ?_
      refine c_Fq (ci := 0) F G (k_get L0 L2 g.1 L1 hi g.2.1 g.2.2.1) (va_cwF 1 F.2.2.2.2 (zgF km_X9_28 ke_Jx4a65c_Jxbd725_get ki_Jx4a65c_get_915e3 kn_Jx4a65c ko_Jx4a65c_get_915e3) rfl rfl rfl (G.2.2.2.2.1 (⟨"java/util/List", "get", "(I)Ljava/lang/Object;"⟩, yJx4a65c_get_915e3) (List.mem_of_getElem? (i := 2) rfl)) hdF_get ⟨Nat.le_of_ble_eq_true rfl, Nat.le_of_ble_eq_true rfl⟩) rfl (by decide) L0 rfl rfl (Nat.le_of_ble_eq_true rfl) dX9_symbolAt_22 ⟨Nat.le_of_ble_eq_true rfl, Nat.le_of_ble_eq_true rfl⟩ (fun r22 S22 h22 => ?_)
      obtain ⟨h22a, h22b⟩ := h22
      have h22c := h22b.symm
      subst h22c
      rw [g.2.2.2] at h22a
      subst h22a
      refine r_cast (a := ad (f i)) (ci := 9) F G gA (by decide) rfl (List.mem_of_getElem? (i := 4) rfl) (zin kc_X9_36) dX9_symbolAt_27 ?_
      refine r_goto (tgt := 34) F dX9_symbolAt_30 (by decide) ?_
      exact e_aret (v := some (ad (f i))) F hr (Or.inl ⟨_, rfl⟩) hlk ⟨rfl, Or.inl ⟨i, hi, rfl, rfl⟩⟩ (by decide) (by decide) dX9_symbolAt_34
theorem Rep.lin {t0 : Nat} {X : Nat → Prop} {S0 S : zS} {ad : Nat → Nat} {W : zO} {v : zV} (hR : Rep v W) (hH : zH t0 X S0 ad W S) : zA S (ad 2) 11 ∧ zq S 1100 (ad 2) = some (ad 4) ∧ zA S (ad 4) 0 ∧ zi S 2 (ad 4) = nI (cn v 1201 0) ∧ zq S 1 (ad 4) = some (vlq t0 ad W 4) :=
  ⟨hH.al hR.2.1 rfl rfl, hH.qS hR.2.1 rfl (by decide) (hR.1.q hR.2.1 (by decide) rfl) rfl, hR.2.2.1.al hH rfl rfl, hR.2.2.1.z hH rfl rfl, hR.2.2.1.E hH rfl rfl⟩
set_option maxRecDepth 100000 in
set_option maxHeartbeats 4000000 in
theorem c_unitAt {l : Launch} {N0 t0 : Nat} {D : va_G} {cy : Nat → ClassId} {S : zS} (hl : l.stackTraces = false) {X : Nat → Prop} {S0 : zS} {ad : Nat → Nat} {W : zO} (hH : zH t0 X S0 ad W S) {v : zV} (hR : Rep v W) (hv : vRg v) {a : Nat} {o : Int32} (ea : ad 2 = a) : zTq l yX11_unitAt (zws yX11_unitAt cX11_unitAt 2 (some (.object "ObjectLinker$Unit"))) { frames := 7, cells := 1, slots := 6, locals := 102 } N0 t0 D cy S [.ref a, .int o] (fun r S' => S' = S ∧ ∃ i, i < cn v 1201 0 ∧ o = nI i ∧ r = some (ad (100 + 8 * i))) (fun E S' => ¬ gO v o ∧ E = zIAE ∧ S' = S) 1 6 := by
  refine zTq.of (cc := cX11_unitAt) (maxL := 2) (ret := (some (.object "ObjectLinker$Unit"))) (by decide) rfl (Nat.le_of_ble_eq_true rfl) ?_
  intro p e s m args below meth c F G hr hlk hnm htb
  subst ea
  obtain ⟨A0, Q0, L0, L1, L2⟩ := hR.lin hH
  have hn := (rg_1201 hv (k := 0) (by decide)).2
  refine r_iload_n F dX11_unitAt_0 rfl ?_
  refine r_if_lt (tgt := 21) F dX11_unitAt_1 (by decide) (fun c1 => ?_) (fun c1 => ?_)
  · refine r_iconst (v := 0) F dX11_unitAt_21 (by decide) ?_
    refine t_Sv F G htb hlk (k_require hl _) (va_cwS 1 F.2.2.2.2 (zgS km_X11_102 ks_X11_require kn_X11 ko_X11_require) rfl rfl rfl hd_yX11_require ⟨Nat.le_of_ble_eq_true rfl, Nat.le_of_ble_eq_true rfl⟩) rfl rfl (Nat.le_of_ble_eq_true rfl) dX11_unitAt_22 ⟨Nat.le_of_ble_eq_true rfl, Nat.le_of_ble_eq_true rfl⟩ (fun E S' h => ⟨fun ⟨i, hi, e9⟩ => by rw [e9] at c1; exact nI_pos (by omega) c1, h.2⟩) (Nat.le_of_ble_eq_true rfl) (Nat.le_of_ble_eq_true rfl) (fun S22 h22 => ?_)
    exact absurd rfl h22.1
  · refine r_iload_n F dX11_unitAt_4 rfl ?_
    refine r_aload_n F dX11_unitAt_5 rfl ?_
    refine r_getS (ci := 11) (k := 0) (id := 1100) (C := RX11) (T := TX11) (N := 8) F G rfl (by decide) (by decide) rfl (zinL inG11) (zin kf_X11_10) (fun _ h9 => h9) dX11_unitAt_6 A0 Q0 ?_
    refine c_Fi (ci := 0) F G (k_ListSize L0) (va_cwF 0 F.2.2.2.2 (zgF km_X11_59 ke_Jx4a65c_Jxbd725_size ki_Jx4a65c_size_8abf5 kn_Jx4a65c ko_Jx4a65c_size_8abf5) rfl rfl rfl (G.2.2.2.2.1 (⟨"java/util/List", "size", "()I"⟩, yJx4a65c_size_8abf5) (List.mem_of_getElem? (i := 0) rfl)) hdF_size ⟨Nat.le_of_ble_eq_true rfl, Nat.le_of_ble_eq_true rfl⟩) rfl (by decide) L0 rfl rfl (Nat.le_of_ble_eq_true rfl) dX11_unitAt_9 ⟨Nat.le_of_ble_eq_true rfl, Nat.le_of_ble_eq_true rfl⟩ (fun r9 S9 h9 => ?_)
    obtain ⟨h9a, h9b⟩ := h9
    have h9c := h9b.symm
    subst h9c
    rw [L1] at h9a
    subst h9a
    refine r_icmp_ge (tgt := 21) F dX11_unitAt_14 (by decide) (fun c14 => ?_) (fun c14 => ?_)
    · refine r_iconst (v := 0) F dX11_unitAt_21 (by decide) ?_
      refine t_Sv F G htb hlk (k_require hl _) (va_cwS 1 F.2.2.2.2 (zgS km_X11_102 ks_X11_require kn_X11 ko_X11_require) rfl rfl rfl hd_yX11_require ⟨Nat.le_of_ble_eq_true rfl, Nat.le_of_ble_eq_true rfl⟩) rfl rfl (Nat.le_of_ble_eq_true rfl) dX11_unitAt_22 ⟨Nat.le_of_ble_eq_true rfl, Nat.le_of_ble_eq_true rfl⟩ (fun E S' h => ⟨fun ⟨i, hi, e9⟩ => by rw [e9, nI_leI (by omega) (by omega)] at c14; omega, h.2⟩) (Nat.le_of_ble_eq_true rfl) (Nat.le_of_ble_eq_true rfl) (fun S22 h22 => ?_)
      exact absurd rfl h22.1
    · refine r_iconst (v := 1) F dX11_unitAt_17 (by decide) ?_
      refine r_goto (tgt := 22) F dX11_unitAt_18 (by decide) ?_
      refine t_Sv F G htb hlk (k_require hl _) (va_cwS 1 F.2.2.2.2 (zgS km_X11_102 ks_X11_require kn_X11 ko_X11_require) rfl rfl rfl hd_yX11_require ⟨Nat.le_of_ble_eq_true rfl, Nat.le_of_ble_eq_true rfl⟩) rfl rfl (Nat.le_of_ble_eq_true rfl) dX11_unitAt_22 ⟨Nat.le_of_ble_eq_true rfl, Nat.le_of_ble_eq_true rfl⟩ (fun E S' h => absurd h.1 (by decide)) (Nat.le_of_ble_eq_true rfl) (Nat.le_of_ble_eq_true rfl) (fun S22 h22 => ?_)
      obtain ⟨h22a, h22b⟩ := h22
      have h22c := h22b.symm
      subst h22c
      obtain ⟨i, hi31, ei⟩ := nI_of c1
      subst ei
      have hi : i < cn v 1201 0 := by rw [nI_leI (by omega) (by omega)] at c14; omega
      have g := hR.2.2.1.get hH rfl hi
      have gA : zA S (ad (100 + 8 * i)) 10 := hH.al (hR.2.2.2.1 i hi).1 rfl (kd_u i (by omega)).1
      refine r_aload_n F dX11_unitAt_25 rfl ?_
      refine r_getS (ci := 11) (k := 0) (id := 1100) (C := RX11) (T := TX11) (N := 8) F G rfl (by decide) (by decide) rfl (zinL inG11) (zin kf_X11_10) (fun _ h9 => h9) dX11_unitAt_26 A0 Q0 ?_
      refine r_iload_n F dX11_unitAt_29 rfl ?_
      refine c_Fq (ci := 0) F G (k_get L0 L2 g.1 L1 hi g.2.1 g.2.2.1) (va_cwF 1 F.2.2.2.2 (zgF km_X11_251 ke_Jx4a65c_Jxbd725_get ki_Jx4a65c_get_915e3 kn_Jx4a65c ko_Jx4a65c_get_915e3) rfl rfl rfl (G.2.2.2.2.1 (⟨"java/util/List", "get", "(I)Ljava/lang/Object;"⟩, yJx4a65c_get_915e3) (List.mem_of_getElem? (i := 2) rfl)) hdF_get ⟨Nat.le_of_ble_eq_true rfl, Nat.le_of_ble_eq_true rfl⟩) rfl (by decide) L0 rfl rfl (Nat.le_of_ble_eq_true rfl) dX11_unitAt_30 ⟨Nat.le_of_ble_eq_true rfl, Nat.le_of_ble_eq_true rfl⟩ (fun r30 S30 h30 => ?_)
      obtain ⟨h30a, h30b⟩ := h30
      have h30c := h30b.symm
      subst h30c
      rw [g.2.2.2] at h30a
      subst h30a
      refine r_cast (a := ad (100 + 8 * i)) (ci := 10) F G gA (by decide) rfl (List.mem_of_getElem? (i := 5) rfl) (zin kc_X11_69) dX11_unitAt_35 ?_
      exact x_aret (v := some (ad (100 + 8 * i))) F hr (Or.inl ⟨_, rfl⟩) hlk ⟨rfl, i, hi, rfl, rfl⟩ (by decide) (by decide) dX11_unitAt_38
set_option maxRecDepth 100000 in
set_option maxHeartbeats 4000000 in
theorem c_rAt {l : Launch} {N0 t0 : Nat} {D : va_G} {cy : Nat → ClassId} {S : zS} (hl : l.stackTraces = false) {X : Nat → Prop} {S0 : zS} {ad : Nat → Nat} {W : zO} (hH : zH t0 X S0 ad W S) {v : zV} (hR : Rep v W) (hv : vRg v) {a : Nat} {o w : Int32} (ea : ad 2 = a) : zTq l yX11_routineAt (zws yX11_routineAt cX11_routineAt 4 (some (.object "ObjectLinker$Routine"))) { frames := 8, cells := 2, slots := 12, locals := 123 } N0 t0 D cy S [.ref a, .int o, .int w] (fun r S' => S' = S ∧ ∃ i j, i < cn v 1201 0 ∧ o = nI i ∧ j < cn v 1202 i ∧ w = nI j ∧ r = some (ad (200 + 12 * (8 * i + j)))) (fun E S' => ¬ gT v 1202 o w ∧ E = zIAE ∧ S' = S) 2 12 := by
  refine zTq.of (cc := cX11_routineAt) (maxL := 4) (ret := (some (.object "ObjectLinker$Routine"))) (by decide) rfl (Nat.le_of_ble_eq_true rfl) ?_
  intro p e s m args below meth c F G hr hlk hnm htb
  subst ea
  obtain ⟨A0, Q0, L0, L1, L2⟩ := hR.lin hH
  have hn := (rg_1201 hv (k := 0) (by decide)).2
  refine r_aload_n F dX11_routineAt_0 rfl ?_
  refine r_iload_n F dX11_routineAt_1 rfl ?_
  refine t_Vq (ci := 11) F G htb hlk (c_unitAt hl hH hR hv rfl) (cwV 1 F.2.2.2.2 (zgV km_X11_76 ki_X11_unitAt ke_X11_X11_unitAt kn_X11 ko_X11_unitAt) rfl rfl rfl ⟨rfl, hd_yX11_unitAt⟩ ⟨Nat.le_of_ble_eq_true rfl, Nat.le_of_ble_eq_true rfl⟩) rfl (by decide) A0 rfl rfl (Nat.le_of_ble_eq_true rfl) dX11_routineAt_2 ⟨Nat.le_of_ble_eq_true rfl, Nat.le_of_ble_eq_true rfl⟩ (fun E S' h => ⟨fun ⟨i2, j2, q1, q2, q3, q4⟩ => h.1 ⟨i2, q1, q2⟩, h.2⟩) (Nat.le_of_ble_eq_true rfl) (Nat.le_of_ble_eq_true rfl) (fun r2 S2 h2 => ?_)
  obtain ⟨h2a, i, hi, ei, h2b⟩ := h2
  have h2c := h2a.symm
  subst h2c
  subst ei
  subst h2b
  have hU := hR.2.2.2.1 i hi
  have hi6 : i < 6 := by omega
  have hk := kd_u i hi6
  have hf8 := (rg_1202 hv hi6).2
  have U0 : zA S (ad (100 + 8 * i)) 10 := hH.al hU.1 rfl hk.1
  refine r_iload_n F dX11_routineAt_5 rfl ?_
  refine c_Vq (ci := 10) F G (c_routineAt hH hR.1 hU.1 rfl hk.1 hU.2.1 hk.2.1 hk.2.2.1 (fun j hj => (kd_r (8 * i + j) (by omega)).1) (by omega)) (cwV 1 F.2.2.2.2 (zgV km_X11_131 ki_X9_routineAt ke_X9_X9_routineAt kn_X9 ko_X9_routineAt) rfl rfl rfl ⟨rfl, hd_yX9_routineAt⟩ ⟨Nat.le_of_ble_eq_true rfl, Nat.le_of_ble_eq_true rfl⟩) rfl (by decide) U0 rfl rfl (Nat.le_of_ble_eq_true rfl) dX11_routineAt_6 ⟨Nat.le_of_ble_eq_true rfl, Nat.le_of_ble_eq_true rfl⟩ (fun r6 S6 h6 => ?_)
  obtain ⟨h6a, h6⟩ := h6
  have h6c := h6a.symm
  subst h6c
  rcases h6 with ⟨j, hj, ej, h6r⟩ | ⟨h6n, h6r⟩
  · subst ej
    subst h6r
    refine r_astore_n (x := ad (200 + 12 * (8 * i + j))) F dX11_routineAt_9 (by decide) ?_
    refine r_aload_n F dX11_routineAt_10 rfl ?_
    refine r_ifnull F dX11_routineAt_11 ?_
    refine r_iconst (v := 1) F dX11_routineAt_14 (by decide) ?_
    refine r_goto (tgt := 19) F dX11_routineAt_15 (by decide) ?_
    refine t_Sv F G htb hlk (k_require hl _) (va_cwS 1 F.2.2.2.2 (zgS km_X11_102 ks_X11_require kn_X11 ko_X11_require) rfl rfl rfl hd_yX11_require ⟨Nat.le_of_ble_eq_true rfl, Nat.le_of_ble_eq_true rfl⟩) rfl rfl (Nat.le_of_ble_eq_true rfl) dX11_routineAt_19 ⟨Nat.le_of_ble_eq_true rfl, Nat.le_of_ble_eq_true rfl⟩ (fun E S' h => absurd h.1 (by decide)) (Nat.le_of_ble_eq_true rfl) (Nat.le_of_ble_eq_true rfl) (fun S19 h19 => ?_)
    obtain ⟨h19a, h19b⟩ := h19
    have h19c := h19b.symm
    subst h19c
    refine r_aload_n F dX11_routineAt_22 rfl ?_
    exact x_aret (v := some (ad (200 + 12 * (8 * i + j)))) F hr (Or.inl ⟨_, rfl⟩) hlk ⟨rfl, i, j, hi, rfl, hj, rfl, rfl⟩ (by decide) (by decide) dX11_routineAt_23
  · subst h6r
    refine r_astore_nQ (x := none) F dX11_routineAt_9 (by decide) ?_
    refine r_aload_nQ (x := none) F dX11_routineAt_10 rfl ?_
    refine r_ifnullN (tgt := 18) F dX11_routineAt_11 (by decide) ?_
    refine r_iconst (v := 0) F dX11_routineAt_18 (by decide) ?_
    refine t_Sv F G htb hlk (k_require hl _) (va_cwS 1 F.2.2.2.2 (zgS km_X11_102 ks_X11_require kn_X11 ko_X11_require) rfl rfl rfl hd_yX11_require ⟨Nat.le_of_ble_eq_true rfl, Nat.le_of_ble_eq_true rfl⟩) rfl rfl (Nat.le_of_ble_eq_true rfl) dX11_routineAt_19 ⟨Nat.le_of_ble_eq_true rfl, Nat.le_of_ble_eq_true rfl⟩ (fun E S' h => ⟨fun ⟨i2, j2, q1, q2, q3, q4⟩ => h6n j2 (by have q5 := (nI_eq (by omega) (by omega)).mp q2; subst q5; exact q3) q4, h.2⟩) (Nat.le_of_ble_eq_true rfl) (Nat.le_of_ble_eq_true rfl) (fun S19 h19 => ?_)
    exact absurd rfl h19.1
