set_option maxRecDepth 100000 in
set_option maxHeartbeats 4000000 in
theorem c_NamesInit {l : Launch} {N0 t0 : Nat} {D : va_G} {cy : Nat → ClassId} {S : zS} {X : Nat → Prop} {S0 : zS} {ad : Nat → Nat} {W : zO} (hH : zH t0 X S0 ad W S) {n a : Nat} (ea : ad n = a) (hkn : kd n = 6) (hev : n % 2 = 0) (hW : W n = eNo) (hfr10 : ¬ oa W (n + 10)) (hfr12 : ¬ oa W (n + 12)) (hfr14 : ¬ oa W (n + 14)) (hk10 : kd (n + 10) = 18) (hk12 : kd (n + 12) = 18) (hk14 : kd (n + 14) = 18) : zMv l yX5_init (zws yX5_init cX5_init 1 none) { frames := 1, cells := 3, slots := 93, locals := 12 } N0 t0 D cy S [.ref a] (fun S' => ∃ (ad' : Nat → Nat) (W' : zO), zH t0 X S0 ad' W' S' ∧ (∀ d, d ≠ n + 10 → d ≠ n + 12 → d ≠ n + 14 → ad' d = ad d) ∧ (∀ d, d ≠ n → d ≠ n + 10 → d ≠ n + 12 → d ≠ n + 14 → W' d = W d) ∧ W' n = eQ (eQ (eQ (eNo) 600 (some (n + 10))) 601 (some (n + 12))) 602 (some (n + 14)) ∧ W' (n + 10) = eNa 31 ∧ W' (n + 12) = eNa 31 ∧ W' (n + 14) = eNa 31) 3 93 := by
  refine zMv.of (cc := cX5_init) (maxL := 1) (ret := none) (by decide) rfl (Nat.le_of_ble_eq_true rfl) ?_
  intro p e s m args below meth c F G hr hlk hnm
  refine r_aload_n F dX5_init_0 rfl ?_
  refine r_objInit F (zin km_X5_3) (zin ki_Object_init) (zin ko_Object_init) dX5_init_1 (Nat.le_of_ble_eq_true rfl) (Nat.le_of_ble_eq_true rfl) ?_
  have an : oa W n := oa_eq hW trivial
  refine r_aload_n F dX5_init_4 rfl ?_
  refine r_bipush (v := 31) F dX5_init_5 (by decide) ?_
  refine r_newS (n' := 31) F G (zin kc_X5_9) (by decide) (by decide) (by decide) (by decide) (by decide) dX5_init_7 (fun q7 hq7 => ?_)
  refine r_putFq (v := some q7) (ci := 6) (k := 0) (id := 600) (C := RX5) (T := TX5) (N := 3) (ty := (.array (.object "ObjectLinker$Symbol"))) (ty0 := tyX5) F G rfl (by decide) (by decide) rfl (zinL inG6) (zin kf_X5_11) (fun _ h9 => h9) tyX5_ok nmX5 rfl hnm rfl pd6_0 rfl rfl dX5_init_10 (zA.na (hH.al an ea hkn) hq7) ?_
  obtain ⟨ad1, W1, hH1, ea1, ag1, wn1, wk1, wd1⟩ := ar_fld (mm := 31) (id := 600) (k := n + 10) hH an ea hkn (by decide) hfr10 (by omega) (by omega) hk10 (by decide) hq7
  refine zgen (P := zH t0 X S0 ad1 W1) hH1 (fun S hH => ?_)
  clear hH1
  rw [hW] at wn1
  have an1 : oa W1 n := oa_eq wn1 trivial
  have wo1 : ∀ d, d ≠ n → d ≠ n + 10 → W1 d = W d := fun d d0 d10 => wd1 d d0 d10
  have wc1_10 : W1 (n + 10) = eNa 31 := wk1
  have gg1 : ∀ d, d ≠ n + 10 → ad1 d = ad d := ag1
  refine r_aload_n F dX5_init_13 rfl ?_
  refine r_bipush (v := 31) F dX5_init_14 (by decide) ?_
  refine r_newS (n' := 31) F G (zin kc_X5_9) (by decide) (by decide) (by decide) (by decide) (by decide) dX5_init_16 (fun q16 hq16 => ?_)
  refine r_putFq (v := some q16) (ci := 6) (k := 1) (id := 601) (C := RX5) (T := TX5) (N := 3) (ty := (.array (.object "ObjectLinker$Symbol"))) (ty0 := tyX5) F G rfl (by decide) (by decide) rfl (zinL inG6) (zin kf_X5_17) (fun _ h9 => h9) tyX5_ok nmX5 rfl hnm rfl pd6_1 rfl rfl dX5_init_19 (zA.na (hH.al an1 ea1 hkn) hq16) ?_
  obtain ⟨ad2, W2, hH2, ea2, ag2, wn2, wk2, wd2⟩ := ar_fld (mm := 31) (id := 601) (k := n + 12) hH an1 ea1 hkn (by decide) (fun h9 => hfr12 (by show (W (n + 12)).1; rw [← wo1 (n + 12) (by omega) (by omega)]; exact h9)) (by omega) (by omega) hk12 (by decide) hq16
  refine zgen (P := zH t0 X S0 ad2 W2) hH2 (fun S hH => ?_)
  clear hH2
  rw [wn1] at wn2
  have an2 : oa W2 n := oa_eq wn2 trivial
  have wo2 : ∀ d, d ≠ n → d ≠ n + 10 → d ≠ n + 12 → W2 d = W d := fun d d0 d10 d12 => (wd2 d d0 d12).trans (wo1 d d0 d10)
  have wc2_10 : W2 (n + 10) = eNa 31 := (wd2 (n + 10) (by omega) (by omega)).trans wc1_10
  have wc2_12 : W2 (n + 12) = eNa 31 := wk2
  have gg2 : ∀ d, d ≠ n + 10 → d ≠ n + 12 → ad2 d = ad d := fun d d10 d12 => (ag2 d d12).trans (gg1 d d10)
  refine r_aload_n F dX5_init_22 rfl ?_
  refine r_bipush (v := 31) F dX5_init_23 (by decide) ?_
  refine r_newS (n' := 31) F G (zin kc_X5_9) (by decide) (by decide) (by decide) (by decide) (by decide) dX5_init_25 (fun q25 hq25 => ?_)
  refine r_putFq (v := some q25) (ci := 6) (k := 2) (id := 602) (C := RX5) (T := TX5) (N := 3) (ty := (.array (.object "ObjectLinker$Symbol"))) (ty0 := tyX5) F G rfl (by decide) (by decide) rfl (zinL inG6) (zin kf_X5_20) (fun _ h9 => h9) tyX5_ok nmX5 rfl hnm rfl pd6_2 rfl rfl dX5_init_28 (zA.na (hH.al an2 ea2 hkn) hq25) ?_
  obtain ⟨ad3, W3, hH3, ea3, ag3, wn3, wk3, wd3⟩ := ar_fld (mm := 31) (id := 602) (k := n + 14) hH an2 ea2 hkn (by decide) (fun h9 => hfr14 (by show (W (n + 14)).1; rw [← wo2 (n + 14) (by omega) (by omega) (by omega)]; exact h9)) (by omega) (by omega) hk14 (by decide) hq25
  refine zgen (P := zH t0 X S0 ad3 W3) hH3 (fun S hH => ?_)
  clear hH3
  rw [wn2] at wn3
  have an3 : oa W3 n := oa_eq wn3 trivial
  have wo3 : ∀ d, d ≠ n → d ≠ n + 10 → d ≠ n + 12 → d ≠ n + 14 → W3 d = W d := fun d d0 d10 d12 d14 => (wd3 d d0 d14).trans (wo2 d d0 d10 d12)
  have wc3_10 : W3 (n + 10) = eNa 31 := (wd3 (n + 10) (by omega) (by omega)).trans wc2_10
  have wc3_12 : W3 (n + 12) = eNa 31 := (wd3 (n + 12) (by omega) (by omega)).trans wc2_12
  have wc3_14 : W3 (n + 14) = eNa 31 := wk3
  have gg3 : ∀ d, d ≠ n + 10 → d ≠ n + 12 → d ≠ n + 14 → ad3 d = ad d := fun d d10 d12 d14 => (ag3 d d14).trans (gg2 d d10 d12)
  exact e_vret F hr hlk ⟨ad3, W3, hH, gg3, wo3, wn3, wc3_10, wc3_12, wc3_14⟩ (by first | decide | exact Nat.le_refl _ | omega) (by first | decide | exact Nat.le_of_eq (Nat.zero_add _) | omega) dX5_init_31
set_option maxRecDepth 100000 in
set_option maxHeartbeats 4000000 in
theorem c_CheckInit {l : Launch} {N0 t0 : Nat} {D : va_G} {cy : Nat → ClassId} {S : zS} {X : Nat → Prop} {S0 : zS} {ad : Nat → Nat} {W : zO} (hH : zH t0 X S0 ad W S) {n a : Nat} (ea : ad n = a) (hkn : kd n = 2) (hev : n % 2 = 0) (hW : W n = eNo) (hfr14 : ¬ oa W (n + 14)) (hfr16 : ¬ oa W (n + 16)) (hfr18 : ¬ oa W (n + 18)) (hfr20 : ¬ oa W (n + 20)) (hfr22 : ¬ oa W (n + 22)) (hk14 : kd (n + 14) = 14) (hk16 : kd (n + 16) = 14) (hk18 : kd (n + 18) = 14) (hk20 : kd (n + 20) = 14) (hk22 : kd (n + 22) = 16) : zMv l yX1_init (zws yX1_init cX1_init 1 none) { frames := 1, cells := 5, slots := 305, locals := 12 } N0 t0 D cy S [.ref a] (fun S' => ∃ (ad' : Nat → Nat) (W' : zO), zH t0 X S0 ad' W' S' ∧ (∀ d, d ≠ n + 14 → d ≠ n + 16 → d ≠ n + 18 → d ≠ n + 20 → d ≠ n + 22 → ad' d = ad d) ∧ (∀ d, d ≠ n → d ≠ n + 14 → d ≠ n + 16 → d ≠ n + 18 → d ≠ n + 20 → d ≠ n + 22 → W' d = W d) ∧ W' n = eQ (eQ (eQ (eQ (eQ (eNo) 200 (some (n + 14))) 201 (some (n + 16))) 202 (some (n + 18))) 203 (some (n + 20))) 204 (some (n + 22)) ∧ W' (n + 14) = eNa 61 ∧ W' (n + 16) = eNa 61 ∧ W' (n + 18) = eNa 61 ∧ W' (n + 20) = eNa 61 ∧ W' (n + 22) = eNa 61) 5 305 := by
  refine zMv.of (cc := cX1_init) (maxL := 1) (ret := none) (by decide) rfl (Nat.le_of_ble_eq_true rfl) ?_
  intro p e s m args below meth c F G hr hlk hnm
  refine r_aload_n F dX1_init_0 rfl ?_
  refine r_objInit F (zin km_X1_3) (zin ki_Object_init) (zin ko_Object_init) dX1_init_1 (Nat.le_of_ble_eq_true rfl) (Nat.le_of_ble_eq_true rfl) ?_
  have an : oa W n := oa_eq hW trivial
  refine r_aload_n F dX1_init_4 rfl ?_
  refine r_bipush (v := 61) F dX1_init_5 (by decide) ?_
  refine r_newI (n' := 61) F G (zin ka_int) (by decide) (by decide) (by decide) (by decide) (by decide) dX1_init_7 (fun q7 hq7 => ?_)
  refine r_putFq (v := some q7) (ci := 2) (k := 0) (id := 200) (C := RX1) (T := TX1) (N := 7) (ty := (.array .int)) (ty0 := tyX1) F G rfl (by decide) (by decide) rfl (zinL inG2) (zin kf_X1_9) (fun _ h9 => h9) tyX1_ok nmX1 rfl hnm rfl pd2_0 rfl rfl dX1_init_9 (zA.na (hH.al an ea hkn) hq7) ?_
  obtain ⟨ad1, W1, hH1, ea1, ag1, wn1, wk1, wd1⟩ := ar_fld (mm := 61) (id := 200) (k := n + 14) hH an ea hkn (by decide) hfr14 (by omega) (by omega) hk14 (by decide) hq7
  refine zgen (P := zH t0 X S0 ad1 W1) hH1 (fun S hH => ?_)
  clear hH1
  rw [hW] at wn1
  have an1 : oa W1 n := oa_eq wn1 trivial
  have wo1 : ∀ d, d ≠ n → d ≠ n + 14 → W1 d = W d := fun d d0 d14 => wd1 d d0 d14
  have wc1_14 : W1 (n + 14) = eNa 61 := wk1
  have gg1 : ∀ d, d ≠ n + 14 → ad1 d = ad d := ag1
  refine r_aload_n F dX1_init_12 rfl ?_
  refine r_bipush (v := 61) F dX1_init_13 (by decide) ?_
  refine r_newI (n' := 61) F G (zin ka_int) (by decide) (by decide) (by decide) (by decide) (by decide) dX1_init_15 (fun q15 hq15 => ?_)
  refine r_putFq (v := some q15) (ci := 2) (k := 1) (id := 201) (C := RX1) (T := TX1) (N := 7) (ty := (.array .int)) (ty0 := tyX1) F G rfl (by decide) (by decide) rfl (zinL inG2) (zin kf_X1_15) (fun _ h9 => h9) tyX1_ok nmX1 rfl hnm rfl pd2_1 rfl rfl dX1_init_17 (zA.na (hH.al an1 ea1 hkn) hq15) ?_
  obtain ⟨ad2, W2, hH2, ea2, ag2, wn2, wk2, wd2⟩ := ar_fld (mm := 61) (id := 201) (k := n + 16) hH an1 ea1 hkn (by decide) (fun h9 => hfr16 (by show (W (n + 16)).1; rw [← wo1 (n + 16) (by omega) (by omega)]; exact h9)) (by omega) (by omega) hk16 (by decide) hq15
  refine zgen (P := zH t0 X S0 ad2 W2) hH2 (fun S hH => ?_)
  clear hH2
  rw [wn1] at wn2
  have an2 : oa W2 n := oa_eq wn2 trivial
  have wo2 : ∀ d, d ≠ n → d ≠ n + 14 → d ≠ n + 16 → W2 d = W d := fun d d0 d14 d16 => (wd2 d d0 d16).trans (wo1 d d0 d14)
  have wc2_14 : W2 (n + 14) = eNa 61 := (wd2 (n + 14) (by omega) (by omega)).trans wc1_14
  have wc2_16 : W2 (n + 16) = eNa 61 := wk2
  have gg2 : ∀ d, d ≠ n + 14 → d ≠ n + 16 → ad2 d = ad d := fun d d14 d16 => (ag2 d d16).trans (gg1 d d14)
  refine r_aload_n F dX1_init_20 rfl ?_
  refine r_bipush (v := 61) F dX1_init_21 (by decide) ?_
  refine r_newI (n' := 61) F G (zin ka_int) (by decide) (by decide) (by decide) (by decide) (by decide) dX1_init_23 (fun q23 hq23 => ?_)
  refine r_putFq (v := some q23) (ci := 2) (k := 2) (id := 202) (C := RX1) (T := TX1) (N := 7) (ty := (.array .int)) (ty0 := tyX1) F G rfl (by decide) (by decide) rfl (zinL inG2) (zin kf_X1_18) (fun _ h9 => h9) tyX1_ok nmX1 rfl hnm rfl pd2_2 rfl rfl dX1_init_25 (zA.na (hH.al an2 ea2 hkn) hq23) ?_
  obtain ⟨ad3, W3, hH3, ea3, ag3, wn3, wk3, wd3⟩ := ar_fld (mm := 61) (id := 202) (k := n + 18) hH an2 ea2 hkn (by decide) (fun h9 => hfr18 (by show (W (n + 18)).1; rw [← wo2 (n + 18) (by omega) (by omega) (by omega)]; exact h9)) (by omega) (by omega) hk18 (by decide) hq23
  refine zgen (P := zH t0 X S0 ad3 W3) hH3 (fun S hH => ?_)
  clear hH3
  rw [wn2] at wn3
  have an3 : oa W3 n := oa_eq wn3 trivial
  have wo3 : ∀ d, d ≠ n → d ≠ n + 14 → d ≠ n + 16 → d ≠ n + 18 → W3 d = W d := fun d d0 d14 d16 d18 => (wd3 d d0 d18).trans (wo2 d d0 d14 d16)
  have wc3_14 : W3 (n + 14) = eNa 61 := (wd3 (n + 14) (by omega) (by omega)).trans wc2_14
  have wc3_16 : W3 (n + 16) = eNa 61 := (wd3 (n + 16) (by omega) (by omega)).trans wc2_16
  have wc3_18 : W3 (n + 18) = eNa 61 := wk3
  have gg3 : ∀ d, d ≠ n + 14 → d ≠ n + 16 → d ≠ n + 18 → ad3 d = ad d := fun d d14 d16 d18 => (ag3 d d18).trans (gg2 d d14 d16)
  refine r_aload_n F dX1_init_28 rfl ?_
  refine r_bipush (v := 61) F dX1_init_29 (by decide) ?_
  refine r_newI (n' := 61) F G (zin ka_int) (by decide) (by decide) (by decide) (by decide) (by decide) dX1_init_31 (fun q31 hq31 => ?_)
  refine r_putFq (v := some q31) (ci := 2) (k := 3) (id := 203) (C := RX1) (T := TX1) (N := 7) (ty := (.array .int)) (ty0 := tyX1) F G rfl (by decide) (by decide) rfl (zinL inG2) (zin kf_X1_21) (fun _ h9 => h9) tyX1_ok nmX1 rfl hnm rfl pd2_3 rfl rfl dX1_init_33 (zA.na (hH.al an3 ea3 hkn) hq31) ?_
  obtain ⟨ad4, W4, hH4, ea4, ag4, wn4, wk4, wd4⟩ := ar_fld (mm := 61) (id := 203) (k := n + 20) hH an3 ea3 hkn (by decide) (fun h9 => hfr20 (by show (W (n + 20)).1; rw [← wo3 (n + 20) (by omega) (by omega) (by omega) (by omega)]; exact h9)) (by omega) (by omega) hk20 (by decide) hq31
  refine zgen (P := zH t0 X S0 ad4 W4) hH4 (fun S hH => ?_)
  clear hH4
  rw [wn3] at wn4
  have an4 : oa W4 n := oa_eq wn4 trivial
  have wo4 : ∀ d, d ≠ n → d ≠ n + 14 → d ≠ n + 16 → d ≠ n + 18 → d ≠ n + 20 → W4 d = W d := fun d d0 d14 d16 d18 d20 => (wd4 d d0 d20).trans (wo3 d d0 d14 d16 d18)
  have wc4_14 : W4 (n + 14) = eNa 61 := (wd4 (n + 14) (by omega) (by omega)).trans wc3_14
  have wc4_16 : W4 (n + 16) = eNa 61 := (wd4 (n + 16) (by omega) (by omega)).trans wc3_16
  have wc4_18 : W4 (n + 18) = eNa 61 := (wd4 (n + 18) (by omega) (by omega)).trans wc3_18
  have wc4_20 : W4 (n + 20) = eNa 61 := wk4
  have gg4 : ∀ d, d ≠ n + 14 → d ≠ n + 16 → d ≠ n + 18 → d ≠ n + 20 → ad4 d = ad d := fun d d14 d16 d18 d20 => (ag4 d d20).trans (gg3 d d14 d16 d18)
  refine r_aload_n F dX1_init_36 rfl ?_
  refine r_bipush (v := 61) F dX1_init_37 (by decide) ?_
  refine r_newZ (n' := 61) F G (zin ka_boolean) (by decide) (by decide) (by decide) (by decide) (by decide) dX1_init_39 (fun q39 hq39 => ?_)
  refine r_putFq (v := some q39) (ci := 2) (k := 4) (id := 204) (C := RX1) (T := TX1) (N := 7) (ty := (.array .boolean)) (ty0 := tyX1) F G rfl (by decide) (by decide) rfl (zinL inG2) (zin kf_X1_24) (fun _ h9 => h9) tyX1_ok nmX1 rfl hnm rfl pd2_4 rfl rfl dX1_init_41 (zA.na (hH.al an4 ea4 hkn) hq39) ?_
  obtain ⟨ad5, W5, hH5, ea5, ag5, wn5, wk5, wd5⟩ := ar_fld (mm := 61) (id := 204) (k := n + 22) hH an4 ea4 hkn (by decide) (fun h9 => hfr22 (by show (W (n + 22)).1; rw [← wo4 (n + 22) (by omega) (by omega) (by omega) (by omega) (by omega)]; exact h9)) (by omega) (by omega) hk22 (by decide) hq39
  refine zgen (P := zH t0 X S0 ad5 W5) hH5 (fun S hH => ?_)
  clear hH5
  rw [wn4] at wn5
  have an5 : oa W5 n := oa_eq wn5 trivial
  have wo5 : ∀ d, d ≠ n → d ≠ n + 14 → d ≠ n + 16 → d ≠ n + 18 → d ≠ n + 20 → d ≠ n + 22 → W5 d = W d := fun d d0 d14 d16 d18 d20 d22 => (wd5 d d0 d22).trans (wo4 d d0 d14 d16 d18 d20)
  have wc5_14 : W5 (n + 14) = eNa 61 := (wd5 (n + 14) (by omega) (by omega)).trans wc4_14
  have wc5_16 : W5 (n + 16) = eNa 61 := (wd5 (n + 16) (by omega) (by omega)).trans wc4_16
  have wc5_18 : W5 (n + 18) = eNa 61 := (wd5 (n + 18) (by omega) (by omega)).trans wc4_18
  have wc5_20 : W5 (n + 20) = eNa 61 := (wd5 (n + 20) (by omega) (by omega)).trans wc4_20
  have wc5_22 : W5 (n + 22) = eNa 61 := wk5
  have gg5 : ∀ d, d ≠ n + 14 → d ≠ n + 16 → d ≠ n + 18 → d ≠ n + 20 → d ≠ n + 22 → ad5 d = ad d := fun d d14 d16 d18 d20 d22 => (ag5 d d22).trans (gg4 d d14 d16 d18 d20)
  exact e_vret F hr hlk ⟨ad5, W5, hH, gg5, wo5, wn5, wc5_14, wc5_16, wc5_18, wc5_20, wc5_22⟩ (by first | decide | exact Nat.le_refl _ | omega) (by first | decide | exact Nat.le_of_eq (Nat.zero_add _) | omega) dX1_init_44
set_option maxRecDepth 100000 in
set_option maxHeartbeats 4000000 in
theorem c_ImageInit {l : Launch} {N0 t0 : Nat} {D : va_G} {cy : Nat → ClassId} {S : zS} {X : Nat → Prop} {S0 : zS} {ad : Nat → Nat} {W : zO} (hH : zH t0 X S0 ad W S) {n a : Nat} (ea : ad n = a) (hkn : kd n = 3) (hev : n % 2 = 0) (hW : W n = eNo) (hfr22 : ¬ oa W (n + 22)) (hfr24 : ¬ oa W (n + 24)) (hfr26 : ¬ oa W (n + 26)) (hfr28 : ¬ oa W (n + 28)) (hfr30 : ¬ oa W (n + 30)) (hfr32 : ¬ oa W (n + 32)) (hk22 : kd (n + 22) = 0) (hk24 : kd (n + 24) = 0) (hk26 : kd (n + 26) = 0) (hk28 : kd (n + 28) = 0) (hk30 : kd (n + 30) = 14) (hk32 : kd (n + 32) = 14) : zMv l yX2_init (zws yX2_init cX2_init 1 none) { frames := 4, cells := 6, slots := 32, locals := 72 } N0 t0 D cy S [.ref a] (fun S' => ∃ (ad' : Nat → Nat) (W' : zO), zH t0 X S0 ad' W' S' ∧ (∀ d, d ≠ n + 22 → d ≠ n + 24 → d ≠ n + 26 → d ≠ n + 28 → d ≠ n + 30 → d ≠ n + 32 → ad' d = ad d) ∧ (∀ d, d ≠ n → d ≠ n + 22 → d ≠ n + 24 → d ≠ n + 26 → d ≠ n + 28 → d ≠ n + 30 → d ≠ n + 32 → W' d = W d) ∧ W' n = eQ (eQ (eQ (eQ (eQ (eQ (eNo) 300 (some (n + 22))) 301 (some (n + 24))) 302 (some (n + 26))) 303 (some (n + 28))) 304 (some (n + 30))) 305 (some (n + 32)) ∧ W' (n + 22) = eQ (eI eNo 0 0) 1 (some 0) ∧ W' (n + 24) = eQ (eI eNo 0 0) 1 (some 0) ∧ W' (n + 26) = eQ (eI eNo 0 0) 1 (some 0) ∧ W' (n + 28) = eQ (eI eNo 0 0) 1 (some 0) ∧ W' (n + 30) = eNa 10 ∧ W' (n + 32) = eNa 10) 6 32 := by
  refine zMv.of (cc := cX2_init) (maxL := 1) (ret := none) (by decide) rfl (Nat.le_of_ble_eq_true rfl) ?_
  intro p e s m args below meth c F G hr hlk hnm
  refine r_aload_n F dX2_init_0 rfl ?_
  refine r_objInit F (zin km_X2_3) (zin ki_Object_init) (zin ko_Object_init) dX2_init_1 (Nat.le_of_ble_eq_true rfl) (Nat.le_of_ble_eq_true rfl) ?_
  have an : oa W n := oa_eq hW trivial
  refine r_aload_n F dX2_init_4 rfl ?_
  refine r_new (ci := 0) (C := RJx4a65c) (T := TJx4a65c) (N := 3) (ty0 := tyJx4a65c) F G rfl (by decide) (zinL inG0) tyJx4a65c_ok dvG0 (zin kc_X2_9) (zin kb_Jx4a65c) (zin kn_Jx4a65c) (by decide) (by decide) dX2_init_5 (fun q5 hq5 => ?_)
  refine r_dup F dX2_init_8 rfl ?_
  refine c_Iv F G (k_ListInit (a := q5) zA.noq) (cwI 0 F.2.2.2.2 (zgI ko_Jx4a65c_init_da8c8) rfl rfl rfl (F.2.2.2.2 _ (zin kn_Jx4a65c)) (F.2.2.2.2 _ (zin km_X2_11)) (F.2.2.2.2 _ (zin ki_Jx4a65c_init_da8c8)) rfl hd_yJx4a65c_init_da8c8 ⟨Nat.le_of_ble_eq_true rfl, Nat.le_of_ble_eq_true rfl⟩) rfl rfl (Nat.le_of_ble_eq_true rfl) dX2_init_9 ⟨Nat.le_of_ble_eq_true rfl, Nat.le_of_ble_eq_true rfl⟩ (fun S9 hS9 => ?_)
  subst hS9
  refine r_putFq (v := some q5) (ci := 3) (k := 0) (id := 300) (C := RX2) (T := TX2) (N := 8) (ty := (.object "java/util/List")) (ty0 := tyX2) F G rfl (by decide) (by decide) rfl (zinL inG3) (zin kf_X2_12) (fun _ h9 => h9) tyX2_ok nmX2 rfl hnm rfl pd3_0 rfl rfl dX2_init_12 (zA.no (S := S) (hH.al an ea hkn) hq5) ?_
  obtain ⟨ad1, W1, hH1, ea1, ag1, wn1, -, wd1, wk1⟩ := vl_fld (f := fun j => j) (id := 300) (k := n + 22) hH an ea hkn (by decide) hfr22 (by omega) (by omega) hk22 hq5
  refine zgen (P := zH t0 X S0 ad1 W1) hH1 (fun S hH => ?_)
  clear hH1
  rw [hW] at wn1
  have an1 : oa W1 n := oa_eq wn1 trivial
  have wo1 : ∀ d, d ≠ n → d ≠ n + 22 → W1 d = W d := fun d d0 d22 => wd1 d d0 d22
  have wc1_22 : W1 (n + 22) = eQ (eI eNo 0 0) 1 (some 0) := wk1
  have gg1 : ∀ d, d ≠ n + 22 → ad1 d = ad d := ag1
  refine r_aload_n F dX2_init_15 rfl ?_
  refine r_new (ci := 0) (C := RJx4a65c) (T := TJx4a65c) (N := 3) (ty0 := tyJx4a65c) F G rfl (by decide) (zinL inG0) tyJx4a65c_ok dvG0 (zin kc_X2_9) (zin kb_Jx4a65c) (zin kn_Jx4a65c) (by decide) (by decide) dX2_init_16 (fun q16 hq16 => ?_)
  refine r_dup F dX2_init_19 rfl ?_
  refine c_Iv F G (k_ListInit (a := q16) zA.noq) (cwI 0 F.2.2.2.2 (zgI ko_Jx4a65c_init_da8c8) rfl rfl rfl (F.2.2.2.2 _ (zin kn_Jx4a65c)) (F.2.2.2.2 _ (zin km_X2_11)) (F.2.2.2.2 _ (zin ki_Jx4a65c_init_da8c8)) rfl hd_yJx4a65c_init_da8c8 ⟨Nat.le_of_ble_eq_true rfl, Nat.le_of_ble_eq_true rfl⟩) rfl rfl (Nat.le_of_ble_eq_true rfl) dX2_init_20 ⟨Nat.le_of_ble_eq_true rfl, Nat.le_of_ble_eq_true rfl⟩ (fun S20 hS20 => ?_)
  subst hS20
  refine r_putFq (v := some q16) (ci := 3) (k := 1) (id := 301) (C := RX2) (T := TX2) (N := 8) (ty := (.object "java/util/List")) (ty0 := tyX2) F G rfl (by decide) (by decide) rfl (zinL inG3) (zin kf_X2_18) (fun _ h9 => h9) tyX2_ok nmX2 rfl hnm rfl pd3_1 rfl rfl dX2_init_23 (zA.no (S := S) (hH.al an1 ea1 hkn) hq16) ?_
  obtain ⟨ad2, W2, hH2, ea2, ag2, wn2, -, wd2, wk2⟩ := vl_fld (f := fun j => j) (id := 301) (k := n + 24) hH an1 ea1 hkn (by decide) (fun h9 => hfr24 (by show (W (n + 24)).1; rw [← wo1 (n + 24) (by omega) (by omega)]; exact h9)) (by omega) (by omega) hk24 hq16
  refine zgen (P := zH t0 X S0 ad2 W2) hH2 (fun S hH => ?_)
  clear hH2
  rw [wn1] at wn2
  have an2 : oa W2 n := oa_eq wn2 trivial
  have wo2 : ∀ d, d ≠ n → d ≠ n + 22 → d ≠ n + 24 → W2 d = W d := fun d d0 d22 d24 => (wd2 d d0 d24).trans (wo1 d d0 d22)
  have wc2_22 : W2 (n + 22) = eQ (eI eNo 0 0) 1 (some 0) := (wd2 (n + 22) (by omega) (by omega)).trans wc1_22
  have wc2_24 : W2 (n + 24) = eQ (eI eNo 0 0) 1 (some 0) := wk2
  have gg2 : ∀ d, d ≠ n + 22 → d ≠ n + 24 → ad2 d = ad d := fun d d22 d24 => (ag2 d d24).trans (gg1 d d22)
  refine r_aload_n F dX2_init_26 rfl ?_
  refine r_new (ci := 0) (C := RJx4a65c) (T := TJx4a65c) (N := 3) (ty0 := tyJx4a65c) F G rfl (by decide) (zinL inG0) tyJx4a65c_ok dvG0 (zin kc_X2_9) (zin kb_Jx4a65c) (zin kn_Jx4a65c) (by decide) (by decide) dX2_init_27 (fun q27 hq27 => ?_)
  refine r_dup F dX2_init_30 rfl ?_
  refine c_Iv F G (k_ListInit (a := q27) zA.noq) (cwI 0 F.2.2.2.2 (zgI ko_Jx4a65c_init_da8c8) rfl rfl rfl (F.2.2.2.2 _ (zin kn_Jx4a65c)) (F.2.2.2.2 _ (zin km_X2_11)) (F.2.2.2.2 _ (zin ki_Jx4a65c_init_da8c8)) rfl hd_yJx4a65c_init_da8c8 ⟨Nat.le_of_ble_eq_true rfl, Nat.le_of_ble_eq_true rfl⟩) rfl rfl (Nat.le_of_ble_eq_true rfl) dX2_init_31 ⟨Nat.le_of_ble_eq_true rfl, Nat.le_of_ble_eq_true rfl⟩ (fun S31 hS31 => ?_)
  subst hS31
  refine r_putFq (v := some q27) (ci := 3) (k := 2) (id := 302) (C := RX2) (T := TX2) (N := 8) (ty := (.object "java/util/List")) (ty0 := tyX2) F G rfl (by decide) (by decide) rfl (zinL inG3) (zin kf_X2_21) (fun _ h9 => h9) tyX2_ok nmX2 rfl hnm rfl pd3_2 rfl rfl dX2_init_34 (zA.no (S := S) (hH.al an2 ea2 hkn) hq27) ?_
  obtain ⟨ad3, W3, hH3, ea3, ag3, wn3, -, wd3, wk3⟩ := vl_fld (f := fun j => j) (id := 302) (k := n + 26) hH an2 ea2 hkn (by decide) (fun h9 => hfr26 (by show (W (n + 26)).1; rw [← wo2 (n + 26) (by omega) (by omega) (by omega)]; exact h9)) (by omega) (by omega) hk26 hq27
  refine zgen (P := zH t0 X S0 ad3 W3) hH3 (fun S hH => ?_)
  clear hH3
  rw [wn2] at wn3
  have an3 : oa W3 n := oa_eq wn3 trivial
  have wo3 : ∀ d, d ≠ n → d ≠ n + 22 → d ≠ n + 24 → d ≠ n + 26 → W3 d = W d := fun d d0 d22 d24 d26 => (wd3 d d0 d26).trans (wo2 d d0 d22 d24)
  have wc3_22 : W3 (n + 22) = eQ (eI eNo 0 0) 1 (some 0) := (wd3 (n + 22) (by omega) (by omega)).trans wc2_22
  have wc3_24 : W3 (n + 24) = eQ (eI eNo 0 0) 1 (some 0) := (wd3 (n + 24) (by omega) (by omega)).trans wc2_24
  have wc3_26 : W3 (n + 26) = eQ (eI eNo 0 0) 1 (some 0) := wk3
  have gg3 : ∀ d, d ≠ n + 22 → d ≠ n + 24 → d ≠ n + 26 → ad3 d = ad d := fun d d22 d24 d26 => (ag3 d d26).trans (gg2 d d22 d24)
  refine r_aload_n F dX2_init_37 rfl ?_
  refine r_new (ci := 0) (C := RJx4a65c) (T := TJx4a65c) (N := 3) (ty0 := tyJx4a65c) F G rfl (by decide) (zinL inG0) tyJx4a65c_ok dvG0 (zin kc_X2_9) (zin kb_Jx4a65c) (zin kn_Jx4a65c) (by decide) (by decide) dX2_init_38 (fun q38 hq38 => ?_)
  refine r_dup F dX2_init_41 rfl ?_
  refine c_Iv F G (k_ListInit (a := q38) zA.noq) (cwI 0 F.2.2.2.2 (zgI ko_Jx4a65c_init_da8c8) rfl rfl rfl (F.2.2.2.2 _ (zin kn_Jx4a65c)) (F.2.2.2.2 _ (zin km_X2_11)) (F.2.2.2.2 _ (zin ki_Jx4a65c_init_da8c8)) rfl hd_yJx4a65c_init_da8c8 ⟨Nat.le_of_ble_eq_true rfl, Nat.le_of_ble_eq_true rfl⟩) rfl rfl (Nat.le_of_ble_eq_true rfl) dX2_init_42 ⟨Nat.le_of_ble_eq_true rfl, Nat.le_of_ble_eq_true rfl⟩ (fun S42 hS42 => ?_)
  subst hS42
  refine r_putFq (v := some q38) (ci := 3) (k := 3) (id := 303) (C := RX2) (T := TX2) (N := 8) (ty := (.object "java/util/List")) (ty0 := tyX2) F G rfl (by decide) (by decide) rfl (zinL inG3) (zin kf_X2_24) (fun _ h9 => h9) tyX2_ok nmX2 rfl hnm rfl pd3_3 rfl rfl dX2_init_45 (zA.no (S := S) (hH.al an3 ea3 hkn) hq38) ?_
  obtain ⟨ad4, W4, hH4, ea4, ag4, wn4, -, wd4, wk4⟩ := vl_fld (f := fun j => j) (id := 303) (k := n + 28) hH an3 ea3 hkn (by decide) (fun h9 => hfr28 (by show (W (n + 28)).1; rw [← wo3 (n + 28) (by omega) (by omega) (by omega) (by omega)]; exact h9)) (by omega) (by omega) hk28 hq38
  refine zgen (P := zH t0 X S0 ad4 W4) hH4 (fun S hH => ?_)
  clear hH4
  rw [wn3] at wn4
  have an4 : oa W4 n := oa_eq wn4 trivial
  have wo4 : ∀ d, d ≠ n → d ≠ n + 22 → d ≠ n + 24 → d ≠ n + 26 → d ≠ n + 28 → W4 d = W d := fun d d0 d22 d24 d26 d28 => (wd4 d d0 d28).trans (wo3 d d0 d22 d24 d26)
  have wc4_22 : W4 (n + 22) = eQ (eI eNo 0 0) 1 (some 0) := (wd4 (n + 22) (by omega) (by omega)).trans wc3_22
  have wc4_24 : W4 (n + 24) = eQ (eI eNo 0 0) 1 (some 0) := (wd4 (n + 24) (by omega) (by omega)).trans wc3_24
  have wc4_26 : W4 (n + 26) = eQ (eI eNo 0 0) 1 (some 0) := (wd4 (n + 26) (by omega) (by omega)).trans wc3_26
  have wc4_28 : W4 (n + 28) = eQ (eI eNo 0 0) 1 (some 0) := wk4
  have gg4 : ∀ d, d ≠ n + 22 → d ≠ n + 24 → d ≠ n + 26 → d ≠ n + 28 → ad4 d = ad d := fun d d22 d24 d26 d28 => (ag4 d d28).trans (gg3 d d22 d24 d26)
  refine r_aload_n F dX2_init_48 rfl ?_
  refine r_bipush (v := 10) F dX2_init_49 (by decide) ?_
  refine r_newI (n' := 10) F G (zin ka_int) (by decide) (by decide) (by decide) (by decide) (by decide) dX2_init_51 (fun q51 hq51 => ?_)
  refine r_putFq (v := some q51) (ci := 3) (k := 4) (id := 304) (C := RX2) (T := TX2) (N := 8) (ty := (.array .int)) (ty0 := tyX2) F G rfl (by decide) (by decide) rfl (zinL inG3) (zin kf_X2_27) (fun _ h9 => h9) tyX2_ok nmX2 rfl hnm rfl pd3_4 rfl rfl dX2_init_53 (zA.na (hH.al an4 ea4 hkn) hq51) ?_
  obtain ⟨ad5, W5, hH5, ea5, ag5, wn5, wk5, wd5⟩ := ar_fld (mm := 10) (id := 304) (k := n + 30) hH an4 ea4 hkn (by decide) (fun h9 => hfr30 (by show (W (n + 30)).1; rw [← wo4 (n + 30) (by omega) (by omega) (by omega) (by omega) (by omega)]; exact h9)) (by omega) (by omega) hk30 (by decide) hq51
  refine zgen (P := zH t0 X S0 ad5 W5) hH5 (fun S hH => ?_)
  clear hH5
  rw [wn4] at wn5
  have an5 : oa W5 n := oa_eq wn5 trivial
  have wo5 : ∀ d, d ≠ n → d ≠ n + 22 → d ≠ n + 24 → d ≠ n + 26 → d ≠ n + 28 → d ≠ n + 30 → W5 d = W d := fun d d0 d22 d24 d26 d28 d30 => (wd5 d d0 d30).trans (wo4 d d0 d22 d24 d26 d28)
  have wc5_22 : W5 (n + 22) = eQ (eI eNo 0 0) 1 (some 0) := (wd5 (n + 22) (by omega) (by omega)).trans wc4_22
  have wc5_24 : W5 (n + 24) = eQ (eI eNo 0 0) 1 (some 0) := (wd5 (n + 24) (by omega) (by omega)).trans wc4_24
  have wc5_26 : W5 (n + 26) = eQ (eI eNo 0 0) 1 (some 0) := (wd5 (n + 26) (by omega) (by omega)).trans wc4_26
  have wc5_28 : W5 (n + 28) = eQ (eI eNo 0 0) 1 (some 0) := (wd5 (n + 28) (by omega) (by omega)).trans wc4_28
  have wc5_30 : W5 (n + 30) = eNa 10 := wk5
  have gg5 : ∀ d, d ≠ n + 22 → d ≠ n + 24 → d ≠ n + 26 → d ≠ n + 28 → d ≠ n + 30 → ad5 d = ad d := fun d d22 d24 d26 d28 d30 => (ag5 d d30).trans (gg4 d d22 d24 d26 d28)
  refine r_aload_n F dX2_init_56 rfl ?_
  refine r_bipush (v := 10) F dX2_init_57 (by decide) ?_
  refine r_newI (n' := 10) F G (zin ka_int) (by decide) (by decide) (by decide) (by decide) (by decide) dX2_init_59 (fun q59 hq59 => ?_)
  refine r_putFq (v := some q59) (ci := 3) (k := 5) (id := 305) (C := RX2) (T := TX2) (N := 8) (ty := (.array .int)) (ty0 := tyX2) F G rfl (by decide) (by decide) rfl (zinL inG3) (zin kf_X2_31) (fun _ h9 => h9) tyX2_ok nmX2 rfl hnm rfl pd3_5 rfl rfl dX2_init_61 (zA.na (hH.al an5 ea5 hkn) hq59) ?_
  obtain ⟨ad6, W6, hH6, ea6, ag6, wn6, wk6, wd6⟩ := ar_fld (mm := 10) (id := 305) (k := n + 32) hH an5 ea5 hkn (by decide) (fun h9 => hfr32 (by show (W (n + 32)).1; rw [← wo5 (n + 32) (by omega) (by omega) (by omega) (by omega) (by omega) (by omega)]; exact h9)) (by omega) (by omega) hk32 (by decide) hq59
  refine zgen (P := zH t0 X S0 ad6 W6) hH6 (fun S hH => ?_)
  clear hH6
  rw [wn5] at wn6
  have an6 : oa W6 n := oa_eq wn6 trivial
  have wo6 : ∀ d, d ≠ n → d ≠ n + 22 → d ≠ n + 24 → d ≠ n + 26 → d ≠ n + 28 → d ≠ n + 30 → d ≠ n + 32 → W6 d = W d := fun d d0 d22 d24 d26 d28 d30 d32 => (wd6 d d0 d32).trans (wo5 d d0 d22 d24 d26 d28 d30)
  have wc6_22 : W6 (n + 22) = eQ (eI eNo 0 0) 1 (some 0) := (wd6 (n + 22) (by omega) (by omega)).trans wc5_22
  have wc6_24 : W6 (n + 24) = eQ (eI eNo 0 0) 1 (some 0) := (wd6 (n + 24) (by omega) (by omega)).trans wc5_24
  have wc6_26 : W6 (n + 26) = eQ (eI eNo 0 0) 1 (some 0) := (wd6 (n + 26) (by omega) (by omega)).trans wc5_26
  have wc6_28 : W6 (n + 28) = eQ (eI eNo 0 0) 1 (some 0) := (wd6 (n + 28) (by omega) (by omega)).trans wc5_28
  have wc6_30 : W6 (n + 30) = eNa 10 := (wd6 (n + 30) (by omega) (by omega)).trans wc5_30
  have wc6_32 : W6 (n + 32) = eNa 10 := wk6
  have gg6 : ∀ d, d ≠ n + 22 → d ≠ n + 24 → d ≠ n + 26 → d ≠ n + 28 → d ≠ n + 30 → d ≠ n + 32 → ad6 d = ad d := fun d d22 d24 d26 d28 d30 d32 => (ag6 d d32).trans (gg5 d d22 d24 d26 d28 d30)
  exact e_vret F hr hlk ⟨ad6, W6, hH, gg6, wo6, wn6, wc6_22, wc6_24, wc6_26, wc6_28, wc6_30, wc6_32⟩ (by first | decide | exact Nat.le_refl _ | omega) (by first | decide | exact Nat.le_of_eq (Nat.zero_add _) | omega) dX2_init_64
set_option maxRecDepth 100000 in
set_option maxHeartbeats 4000000 in
theorem c_MachineInit {l : Launch} {N0 t0 : Nat} {D : va_G} {cy : Nat → ClassId} {S : zS} {X : Nat → Prop} {S0 : zS} {ad : Nat → Nat} {W : zO} (hH : zH t0 X S0 ad W S) {n a : Nat} (ea : ad n = a) (hkn : kd n = 4) (hev : n % 2 = 0) (hW : W n = eNo) (hfr36 : ¬ oa W (n + 36)) (hfr38 : ¬ oa W (n + 38)) (hfr40 : ¬ oa W (n + 40)) (hfr42 : ¬ oa W (n + 42)) (hfr44 : ¬ oa W (n + 44)) (hk36 : kd (n + 36) = 15) (hk38 : kd (n + 38) = 17) (hk40 : kd (n + 40) = 14) (hk42 : kd (n + 42) = 14) (hk44 : kd (n + 44) = 13) : zMv l yX3_init (zws yX3_init cX3_init 1 none) { frames := 1, cells := 5, slots := 3864, locals := 12 } N0 t0 D cy S [.ref a] (fun S' => ∃ (ad' : Nat → Nat) (W' : zO), zH t0 X S0 ad' W' S' ∧ (∀ d, d ≠ n + 36 → d ≠ n + 38 → d ≠ n + 40 → d ≠ n + 42 → d ≠ n + 44 → ad' d = ad d) ∧ (∀ d, d ≠ n → d ≠ n + 36 → d ≠ n + 38 → d ≠ n + 40 → d ≠ n + 42 → d ≠ n + 44 → W' d = W d) ∧ W' n = eQ (eQ (eQ (eQ (eQ (eQ (eNo) 400 (some (n + 36))) 401 (some (n + 38))) 402 (some (n + 40))) 403 (some (n + 42))) 404 (some (n + 44))) 405 none ∧ W' (n + 36) = eNa 2720 ∧ W' (n + 38) = eNa 40 ∧ W' (n + 40) = eNa 40 ∧ W' (n + 42) = eNa 40 ∧ W' (n + 44) = eNa 1024) 5 3864 := by
  refine zMv.of (cc := cX3_init) (maxL := 1) (ret := none) (by decide) rfl (Nat.le_of_ble_eq_true rfl) ?_
  intro p e s m args below meth c F G hr hlk hnm
  refine r_aload_n F dX3_init_0 rfl ?_
  refine r_objInit F (zin km_X3_3) (zin ki_Object_init) (zin ko_Object_init) dX3_init_1 (Nat.le_of_ble_eq_true rfl) (Nat.le_of_ble_eq_true rfl) ?_
  have an : oa W n := oa_eq hW trivial
  refine r_aload_n F dX3_init_4 rfl ?_
  refine r_sipush (v := 2720) F dX3_init_5 (by decide) ?_
  refine r_newJ (n' := 2720) F G (zin ka_long) (by decide) (by decide) (by decide) (by decide) (by decide) dX3_init_8 (fun q8 hq8 => ?_)
  refine r_putFq (v := some q8) (ci := 4) (k := 0) (id := 400) (C := RX3) (T := TX3) (N := 12) (ty := (.array .long)) (ty0 := tyX3) F G rfl (by decide) (by decide) rfl (zinL inG4) (zin kf_X3_9) (fun _ h9 => h9) tyX3_ok nmX3 rfl hnm rfl pd4_0 rfl rfl dX3_init_10 (zA.na (hH.al an ea hkn) hq8) ?_
  obtain ⟨ad1, W1, hH1, ea1, ag1, wn1, wk1, wd1⟩ := ar_fld (mm := 2720) (id := 400) (k := n + 36) hH an ea hkn (by decide) hfr36 (by omega) (by omega) hk36 (by decide) hq8
  refine zgen (P := zH t0 X S0 ad1 W1) hH1 (fun S hH => ?_)
  clear hH1
  rw [hW] at wn1
  have an1 : oa W1 n := oa_eq wn1 trivial
  have wo1 : ∀ d, d ≠ n → d ≠ n + 36 → W1 d = W d := fun d d0 d36 => wd1 d d0 d36
  have wc1_36 : W1 (n + 36) = eNa 2720 := wk1
  have gg1 : ∀ d, d ≠ n + 36 → ad1 d = ad d := ag1
  refine r_aload_n F dX3_init_13 rfl ?_
  refine r_bipush (v := 40) F dX3_init_14 (by decide) ?_
  refine r_newR (n' := 40) F G (zin kc_X3_15) (by decide) (by decide) (by decide) (by decide) (by decide) dX3_init_16 (fun q16 hq16 => ?_)
  refine r_putFq (v := some q16) (ci := 4) (k := 1) (id := 401) (C := RX3) (T := TX3) (N := 12) (ty := (.array (.object "ObjectLinker$Routine"))) (ty0 := tyX3) F G rfl (by decide) (by decide) rfl (zinL inG4) (zin kf_X3_17) (fun _ h9 => h9) tyX3_ok nmX3 rfl hnm rfl pd4_1 rfl rfl dX3_init_19 (zA.na (hH.al an1 ea1 hkn) hq16) ?_
  obtain ⟨ad2, W2, hH2, ea2, ag2, wn2, wk2, wd2⟩ := ar_fld (mm := 40) (id := 401) (k := n + 38) hH an1 ea1 hkn (by decide) (fun h9 => hfr38 (by show (W (n + 38)).1; rw [← wo1 (n + 38) (by omega) (by omega)]; exact h9)) (by omega) (by omega) hk38 (by decide) hq16
  refine zgen (P := zH t0 X S0 ad2 W2) hH2 (fun S hH => ?_)
  clear hH2
  rw [wn1] at wn2
  have an2 : oa W2 n := oa_eq wn2 trivial
  have wo2 : ∀ d, d ≠ n → d ≠ n + 36 → d ≠ n + 38 → W2 d = W d := fun d d0 d36 d38 => (wd2 d d0 d38).trans (wo1 d d0 d36)
  have wc2_36 : W2 (n + 36) = eNa 2720 := (wd2 (n + 36) (by omega) (by omega)).trans wc1_36
  have wc2_38 : W2 (n + 38) = eNa 40 := wk2
  have gg2 : ∀ d, d ≠ n + 36 → d ≠ n + 38 → ad2 d = ad d := fun d d36 d38 => (ag2 d d38).trans (gg1 d d36)
  refine r_aload_n F dX3_init_22 rfl ?_
  refine r_bipush (v := 40) F dX3_init_23 (by decide) ?_
  refine r_newI (n' := 40) F G (zin ka_int) (by decide) (by decide) (by decide) (by decide) (by decide) dX3_init_25 (fun q25 hq25 => ?_)
  refine r_putFq (v := some q25) (ci := 4) (k := 2) (id := 402) (C := RX3) (T := TX3) (N := 12) (ty := (.array .int)) (ty0 := tyX3) F G rfl (by decide) (by decide) rfl (zinL inG4) (zin kf_X3_21) (fun _ h9 => h9) tyX3_ok nmX3 rfl hnm rfl pd4_2 rfl rfl dX3_init_27 (zA.na (hH.al an2 ea2 hkn) hq25) ?_
  obtain ⟨ad3, W3, hH3, ea3, ag3, wn3, wk3, wd3⟩ := ar_fld (mm := 40) (id := 402) (k := n + 40) hH an2 ea2 hkn (by decide) (fun h9 => hfr40 (by show (W (n + 40)).1; rw [← wo2 (n + 40) (by omega) (by omega) (by omega)]; exact h9)) (by omega) (by omega) hk40 (by decide) hq25
  refine zgen (P := zH t0 X S0 ad3 W3) hH3 (fun S hH => ?_)
  clear hH3
  rw [wn2] at wn3
  have an3 : oa W3 n := oa_eq wn3 trivial
  have wo3 : ∀ d, d ≠ n → d ≠ n + 36 → d ≠ n + 38 → d ≠ n + 40 → W3 d = W d := fun d d0 d36 d38 d40 => (wd3 d d0 d40).trans (wo2 d d0 d36 d38)
  have wc3_36 : W3 (n + 36) = eNa 2720 := (wd3 (n + 36) (by omega) (by omega)).trans wc2_36
  have wc3_38 : W3 (n + 38) = eNa 40 := (wd3 (n + 38) (by omega) (by omega)).trans wc2_38
  have wc3_40 : W3 (n + 40) = eNa 40 := wk3
  have gg3 : ∀ d, d ≠ n + 36 → d ≠ n + 38 → d ≠ n + 40 → ad3 d = ad d := fun d d36 d38 d40 => (ag3 d d40).trans (gg2 d d36 d38)
  refine r_aload_n F dX3_init_30 rfl ?_
  refine r_bipush (v := 40) F dX3_init_31 (by decide) ?_
  refine r_newI (n' := 40) F G (zin ka_int) (by decide) (by decide) (by decide) (by decide) (by decide) dX3_init_33 (fun q33 hq33 => ?_)
  refine r_putFq (v := some q33) (ci := 4) (k := 3) (id := 403) (C := RX3) (T := TX3) (N := 12) (ty := (.array .int)) (ty0 := tyX3) F G rfl (by decide) (by decide) rfl (zinL inG4) (zin kf_X3_25) (fun _ h9 => h9) tyX3_ok nmX3 rfl hnm rfl pd4_3 rfl rfl dX3_init_35 (zA.na (hH.al an3 ea3 hkn) hq33) ?_
  obtain ⟨ad4, W4, hH4, ea4, ag4, wn4, wk4, wd4⟩ := ar_fld (mm := 40) (id := 403) (k := n + 42) hH an3 ea3 hkn (by decide) (fun h9 => hfr42 (by show (W (n + 42)).1; rw [← wo3 (n + 42) (by omega) (by omega) (by omega) (by omega)]; exact h9)) (by omega) (by omega) hk42 (by decide) hq33
  refine zgen (P := zH t0 X S0 ad4 W4) hH4 (fun S hH => ?_)
  clear hH4
  rw [wn3] at wn4
  have an4 : oa W4 n := oa_eq wn4 trivial
  have wo4 : ∀ d, d ≠ n → d ≠ n + 36 → d ≠ n + 38 → d ≠ n + 40 → d ≠ n + 42 → W4 d = W d := fun d d0 d36 d38 d40 d42 => (wd4 d d0 d42).trans (wo3 d d0 d36 d38 d40)
  have wc4_36 : W4 (n + 36) = eNa 2720 := (wd4 (n + 36) (by omega) (by omega)).trans wc3_36
  have wc4_38 : W4 (n + 38) = eNa 40 := (wd4 (n + 38) (by omega) (by omega)).trans wc3_38
  have wc4_40 : W4 (n + 40) = eNa 40 := (wd4 (n + 40) (by omega) (by omega)).trans wc3_40
  have wc4_42 : W4 (n + 42) = eNa 40 := wk4
  have gg4 : ∀ d, d ≠ n + 36 → d ≠ n + 38 → d ≠ n + 40 → d ≠ n + 42 → ad4 d = ad d := fun d d36 d38 d40 d42 => (ag4 d d42).trans (gg3 d d36 d38 d40)
  refine r_aload_n F dX3_init_38 rfl ?_
  refine r_sipush (v := 1024) F dX3_init_39 (by decide) ?_
  refine r_newB (n' := 1024) F G (zin ka_byte) (by decide) (by decide) (by decide) (by decide) (by decide) dX3_init_42 (fun q42 hq42 => ?_)
  refine r_putFq (v := some q42) (ci := 4) (k := 4) (id := 404) (C := RX3) (T := TX3) (N := 12) (ty := (.array .byte)) (ty0 := tyX3) F G rfl (by decide) (by decide) rfl (zinL inG4) (zin kf_X3_28) (fun _ h9 => h9) tyX3_ok nmX3 rfl hnm rfl pd4_4 rfl rfl dX3_init_44 (zA.na (hH.al an4 ea4 hkn) hq42) ?_
  obtain ⟨ad5, W5, hH5, ea5, ag5, wn5, wk5, wd5⟩ := ar_fld (mm := 1024) (id := 404) (k := n + 44) hH an4 ea4 hkn (by decide) (fun h9 => hfr44 (by show (W (n + 44)).1; rw [← wo4 (n + 44) (by omega) (by omega) (by omega) (by omega) (by omega)]; exact h9)) (by omega) (by omega) hk44 (by decide) hq42
  refine zgen (P := zH t0 X S0 ad5 W5) hH5 (fun S hH => ?_)
  clear hH5
  rw [wn4] at wn5
  have an5 : oa W5 n := oa_eq wn5 trivial
  have wo5 : ∀ d, d ≠ n → d ≠ n + 36 → d ≠ n + 38 → d ≠ n + 40 → d ≠ n + 42 → d ≠ n + 44 → W5 d = W d := fun d d0 d36 d38 d40 d42 d44 => (wd5 d d0 d44).trans (wo4 d d0 d36 d38 d40 d42)
  have wc5_36 : W5 (n + 36) = eNa 2720 := (wd5 (n + 36) (by omega) (by omega)).trans wc4_36
  have wc5_38 : W5 (n + 38) = eNa 40 := (wd5 (n + 38) (by omega) (by omega)).trans wc4_38
  have wc5_40 : W5 (n + 40) = eNa 40 := (wd5 (n + 40) (by omega) (by omega)).trans wc4_40
  have wc5_42 : W5 (n + 42) = eNa 40 := (wd5 (n + 42) (by omega) (by omega)).trans wc4_42
  have wc5_44 : W5 (n + 44) = eNa 1024 := wk5
  have gg5 : ∀ d, d ≠ n + 36 → d ≠ n + 38 → d ≠ n + 40 → d ≠ n + 42 → d ≠ n + 44 → ad5 d = ad d := fun d d36 d38 d40 d42 d44 => (ag5 d d44).trans (gg4 d d36 d38 d40 d42)
  refine r_aload_n F dX3_init_47 rfl ?_
  refine r_null F dX3_init_48 ?_
  refine r_putq (v := none) (ci := 4) (k := 5) (id := 405) (C := RX3) (T := TX3) (N := 12) (ty := (.object "java/util/List")) (ty0 := tyX3) F G rfl (by decide) (by decide) rfl (zinL inG4) (zin kf_X3_32) (fun _ h9 => h9) tyX3_ok nmX3 rfl pd4_5 rfl rfl dX3_init_49 (hH.al an5 ea5 hkn) ?_
  obtain ⟨W6, hH6, wn6, wd6⟩ := rf_fld (id := 405) (x2 := none) hH an5 ea5 hkn (by decide) none rfl (fun d hd => by cases hd)
  refine zgen (P := zH t0 X S0 ad5 W6) hH6 (fun S hH => ?_)
  clear hH6
  rw [wn5] at wn6
  have an6 : oa W6 n := oa_eq wn6 trivial
  have wo6 : ∀ d, d ≠ n → d ≠ n + 36 → d ≠ n + 38 → d ≠ n + 40 → d ≠ n + 42 → d ≠ n + 44 → W6 d = W d := fun d d0 d36 d38 d40 d42 d44 => (wd6 d d0).trans (wo5 d d0 d36 d38 d40 d42 d44)
  have wc6_36 : W6 (n + 36) = eNa 2720 := (wd6 (n + 36) (by omega)).trans wc5_36
  have wc6_38 : W6 (n + 38) = eNa 40 := (wd6 (n + 38) (by omega)).trans wc5_38
  have wc6_40 : W6 (n + 40) = eNa 40 := (wd6 (n + 40) (by omega)).trans wc5_40
  have wc6_42 : W6 (n + 42) = eNa 40 := (wd6 (n + 42) (by omega)).trans wc5_42
  have wc6_44 : W6 (n + 44) = eNa 1024 := (wd6 (n + 44) (by omega)).trans wc5_44
  exact e_vret F hr hlk ⟨ad5, W6, hH, gg5, wo6, wn6, wc6_36, wc6_38, wc6_40, wc6_42, wc6_44⟩ (by first | decide | exact Nat.le_refl _ | omega) (by first | decide | exact Nat.le_of_eq (Nat.zero_add _) | omega) dX3_init_52
theorem by_fld {t0 : Nat} {X : Nat → Prop} {S0 S : zS} {ad : Nat → Nat} {W : zO} {n a q : Nat} (hH : zH t0 X S0 ad W S) (hW : W n = eNo) (ea : ad n = a) (hkn : kd n = 1) (hev : n % 2 = 0) (hfr : ¬ oa W (n + 1)) (hk1 : kd (n + 1) = 13) (hq : q ∉ zL S) : ∃ (ad' : Nat → Nat) (W' : zO), zH t0 X S0 ad' W' (zPq (zNa S q 13 128) 100 a (some q)) ∧ (∀ d, d ≠ n + 1 → ad' d = ad d) ∧ W' n = eQ eNo 100 (some (n + 1)) ∧ W' (n + 1) = eNa 128 ∧ ∀ d, d ≠ n → d ≠ n + 1 → W' d = W d := by
  subst ea
  have hn : oa W n := oa_eq hW trivial
  have hA := (hH.2.1 n hn).1
  have hc := (hH.2.1 n hn).2.2.1.1 (by rw [hkn]; decide)
  rw [hW] at hc
  have haq : ad n ≠ q := fun e => hq (e ▸ hA.1)
  have h2 := hH.two (c := n) (S' := zPq (zNa S q 13 128) 100 (ad n) (some q)) hn hev (q := q) (e := eQ eNo 100 (some (n + 1))) (e2 := eNa 128) trivial trivial (Or.inl hq) ((zfr.na zfr.rf hq).pq (fun _ => Or.inl rfl)) (by rw [hk1]; exact (zA.naq : zA (zNa S q 13 128) q 13)) ?_ ?_ ?_ ?_
  · refine ⟨_, _, h2, fun d hd => va_up_ne _ _ hd, (va_up_ne _ _ (by omega)).trans (va_up_self _ _ _), va_up_self _ _ _, fun d d1 d2 => (va_up_ne _ _ d2).trans (va_up_ne _ _ d1)⟩
  · refine ⟨fun _ => ⟨fun id => hc.1 id, fun id => ?_, fun id => hc.2.2 id⟩, fun h9 => absurd h9 (by rw [hkn]; decide)⟩
    show z2 (zq S) 100 (ad n) (some q) id (ad n) = (va_up (fun _ => none) 100 (some (n + 1)) id).map (va_up ad (n + 1) q)
    by_cases e : id = 100
    · subst e
      rw [z2_s, va_up_self]
      show some q = some (va_up ad (n + 1) q (n + 1))
      rw [va_up_self]
    · rw [z2_n _ _ (Or.inl e), va_up_ne _ _ e]
      exact hc.2.1 id
  · refine ⟨fun h9 => absurd h9 (by rw [hk1]; decide), fun _ => ⟨va_up_self _ _ _, va_up_self _ _ _, va_up_self _ _ _, fun i => ?_⟩⟩
    show va_up (zrq S) q (fun _ => none) q i = _
    rw [va_up_self]
    rfl
  · refine ⟨fun id d hd => ?_, fun _ _ h1 => (by cases h1)⟩
    have hd2 : va_up (fun _ => (none : Option Nat)) 100 (some (n + 1)) id = some d := hd
    by_cases e : id = 100
    · rw [e, va_up_self] at hd2
      cases hd2
      exact Or.inr ⟨oa_eq (va_up_self _ _ _) trivial, fun _ => rfl⟩
    · rw [va_up_ne _ _ e] at hd2
      cases hd2
  · exact ⟨fun _ _ h1 => (by cases h1), fun _ _ h1 => (by cases h1)⟩
set_option maxRecDepth 100000 in
set_option maxHeartbeats 4000000 in
theorem c_BytesInit {l : Launch} {N0 t0 : Nat} {D : va_G} {cy : Nat → ClassId} {S : zS} {X : Nat → Prop} {S0 : zS} {ad : Nat → Nat} {W : zO} (hH : zH t0 X S0 ad W S) {n a : Nat} (hW : W n = eNo) (ea : ad n = a) (hkn : kd n = 1) (hev : n % 2 = 0) (hfr : ¬ oa W (n + 1)) (hk1 : kd (n + 1) = 13) : zMv l yX0_init (zws yX0_init cX0_init 1 none) { frames := 1, cells := 1, slots := 128, locals := 12 } N0 t0 D cy S [.ref a] (fun S' => ∃ (ad' : Nat → Nat) (W' : zO), zH t0 X S0 ad' W' S' ∧ (∀ d, d ≠ n + 1 → ad' d = ad d) ∧ W' n = eQ eNo 100 (some (n + 1)) ∧ W' (n + 1) = eNa 128 ∧ ∀ d, d ≠ n → d ≠ n + 1 → W' d = W d) 1 128 := by
  refine zMv.of (cc := cX0_init) (maxL := 1) (ret := none) (by decide) rfl (Nat.le_of_ble_eq_true rfl) ?_
  intro p e s m args below meth c F G hr hlk hnm
  have an : oa W n := oa_eq hW trivial
  refine r_aload_n F dX0_init_0 rfl ?_
  refine r_objInit F (zin km_X0_1) (zin ki_Object_init) (zin ko_Object_init) dX0_init_1 (Nat.le_of_ble_eq_true rfl) (Nat.le_of_ble_eq_true rfl) ?_
  refine r_aload_n F dX0_init_4 rfl ?_
  refine r_sipush (v := 128) F dX0_init_5 (by decide) ?_
  refine r_newB (n' := 128) F G (zin ka_byte) (by decide) (by decide) (by decide) (by decide) (by decide) dX0_init_8 (fun q8 hq8 => ?_)
  refine r_putq (v := some q8) (ci := 1) (k := 0) (id := 100) (C := RX0) (T := TX0) (N := 2) (ty := (.array .byte)) (ty0 := tyX0) F G rfl (by decide) (by decide) rfl (zinL inG1) (zin kf_X0_7) (fun _ h9 => h9) tyX0_ok nmX0 rfl pd1_0 rfl rfl dX0_init_10 (zA.na (hH.al an ea hkn) hq8) ?_
  exact e_vret F hr hlk (by_fld hH hW ea hkn hev hfr hk1 hq8) (by decide) (by decide) dX0_init_13
set_option maxRecDepth 100000 in
set_option maxHeartbeats 4000000 in
theorem c_WriterInit {l : Launch} {N0 t0 : Nat} {D : va_G} {cy : Nat → ClassId} {S : zS} {X : Nat → Prop} {S0 : zS} {ad : Nat → Nat} {W : zO} (hH : zH t0 X S0 ad W S) {a : Nat} (hW : W 12 = eNo) (ea : ad 12 = a) (hfr : ∀ d, 44 ≤ d → d < 50 → ¬ oa W d) : zMv l yX4_init (zws yX4_init cX4_init 1 none) { frames := 2, cells := 6, slots := 390, locals := 32 } N0 t0 D cy S [.ref a] (fun S' => ∃ (ad' : Nat → Nat) (W' : zO), zH t0 X S0 ad' W' S' ∧ (∀ d, ¬ (44 ≤ d ∧ d < 50) → ad' d = ad d) ∧ W' 12 = eQ (eQ (eQ eNo 500 (some 44)) 501 (some 46)) 502 (some 48) ∧ (∀ c, c = 44 ∨ c = 46 ∨ c = 48 → W' c = eQ eNo 100 (some (c + 1)) ∧ W' (c + 1) = eNa 128) ∧ ∀ d, d ≠ 12 → ¬ (44 ≤ d ∧ d < 50) → W' d = W d) 6 390 := by
  refine zMv.of (cc := cX4_init) (maxL := 1) (ret := none) (by decide) rfl (Nat.le_of_ble_eq_true rfl) ?_
  intro p e s m args below meth c F G hr hlk hnm
  refine r_aload_n F dX4_init_0 rfl ?_
  refine r_objInit F (zin km_X4_3) (zin ki_Object_init) (zin ko_Object_init) dX4_init_1 (Nat.le_of_ble_eq_true rfl) (Nat.le_of_ble_eq_true rfl) ?_
  refine r_aload_n F dX4_init_4 rfl ?_
  refine r_new (ci := 1) (C := RX0) (T := TX0) (N := 2) (ty0 := tyX0) F G rfl (by decide) (zinL inG1) tyX0_ok dvG1 (zin kc_X4_9) (zin kb_X0) (zin kn_X0) (by decide) (by decide) dX4_init_5 (fun q5 hq5 => ?_)
  have wo0 : ∀ d, d ≠ 12 → ¬ (44 ≤ d ∧ d < 44) → W d = W d := fun _ _ _ => rfl
  have ag0 : ∀ d, ¬ (44 ≤ d ∧ d < 44) → ad d = ad d := fun _ _ => rfl
  have an0 : oa W 12 := oa_eq hW trivial
  have hfr0 : ∀ d, 44 ≤ d → d < 50 → ¬ oa W d := fun d d1 d2 h9 => hfr d (by omega) d2 (by show (W d).1; rw [← wo0 d (by omega) (by omega)]; exact h9)
  have hN0 := hH.newo (n := 44) (hfr0 44 (by decide) (by decide)) (by decide) hq5 rfl (by decide)
  have w0a : va_up W 44 eNo 44 = eNo := va_up_self _ _ _
  have w0b : ∀ d, d ≠ 44 → va_up W 44 eNo d = W d := fun d hd => va_up_ne _ _ hd
  have g0a : va_up ad 44 q5 44 = q5 := va_up_self _ _ _
  have g0b : ∀ d, d ≠ 44 → va_up ad 44 q5 d = ad d := fun d hd => va_up_ne _ _ hd
  refine zgen (P := zH t0 X S0 (va_up ad 44 q5) (va_up W 44 eNo)) hN0 (fun S hH => ?_)
  generalize va_up W 44 eNo = V0 at hH w0a w0b
  generalize va_up ad 44 q5 = B0 at hH g0a g0b
  refine r_dup F dX4_init_8 rfl ?_
  refine c_Nv F G (c_BytesInit hH (n := 44) w0a g0a rfl rfl (fun h9 => hfr0 45 (by decide) (by decide) (by show (W 45).1; rw [← w0b 45 (by decide)]; exact h9)) rfl) ⟨va_cnB 0 F.2.2.2.2 (zgI ko_X0_init) rfl rfl rfl (G.2.2.2.1 (RX4, 11, yX0_init, RX11) (List.mem_of_getElem? (i := 7) rfl)) (F.2.2.2.2 _ (zin kn_X0)) hd_yX0_init ⟨Nat.le_of_ble_eq_true rfl, Nat.le_of_ble_eq_true rfl⟩, rfl, F.2.2.2.2 _ (zin ki_X0_init)⟩ rfl rfl (Nat.le_of_ble_eq_true rfl) dX4_init_9 ⟨Nat.le_of_ble_eq_true rfl, Nat.le_of_ble_eq_true rfl⟩ (fun S9 h9 => ?_)
  obtain ⟨C0, U0, hH, gc0, u0a, u0b, u0c⟩ := h9
  have anU0 : oa U0 12 := oa_eq ((u0c 12 (by decide) (by decide)).trans ((w0b 12 (by decide)).trans hW)) trivial
  have eaU0 : C0 12 = a := (gc0 12 (by decide)).trans ((g0b 12 (by decide)).trans ea)
  have ecU0 : C0 44 = q5 := (gc0 44 (by decide)).trans g0a
  have acU0 : oa U0 44 := oa_eq u0a trivial
  have hA0 : zA S9 a 5 := hH.al anU0 eaU0 rfl
  refine r_putFq (v := some q5) (ci := 5) (k := 0) (id := 500) (C := RX4) (T := TX4) (N := 3) (ty := (.object "ObjectLinker$Bytes")) (ty0 := tyX4) F G rfl (by decide) (by decide) rfl (zinL inG5) (zin kf_X4_12) (fun _ h9 => h9) tyX4_ok nmX4 rfl hnm rfl pd5_0 rfl rfl dX4_init_12 hA0 ?_
  obtain ⟨W1, hH9, wn1, wd1⟩ := rf_fld (id := 500) (x2 := some q5) hH anU0 eaU0 rfl (by decide) (some 44) (by show _ = some (C0 44); rw [ecU0]) (fun d hd => by cases hd; exact Or.inr ⟨acU0, rfl⟩)
  refine zgen (P := zH t0 X S0 C0 W1) hH9 (fun S hH => ?_)
  clear hH9
  have wn1 : W1 12 = eQ (eNo) 500 (some 44) := wn1.trans (congrArg (fun e => eQ e 500 (some 44)) ((u0c 12 (by decide) (by decide)).trans ((w0b 12 (by decide)).trans hW)))
  have wo1 : ∀ d, d ≠ 12 → ¬ (44 ≤ d ∧ d < 46) → W1 d = W d := fun d d1 d2 => (wd1 d d1).trans ((u0c d (by omega) (by omega)).trans ((w0b d (by omega)).trans (wo0 d d1 (by omega))))
  have ag1 : ∀ d, ¬ (44 ≤ d ∧ d < 46) → C0 d = ad d := fun d d2 => (gc0 d (by omega)).trans ((g0b d (by omega)).trans (ag0 d (by omega)))
  have ea1 : C0 12 = a := eaU0
  have wc1_44 : W1 44 = eQ eNo 100 (some 45) ∧ W1 45 = eNa 128 := ⟨(wd1 44 (by decide)).trans u0a, (wd1 45 (by decide)).trans u0b⟩
  refine r_aload_n F dX4_init_15 rfl ?_
  refine r_new (ci := 1) (C := RX0) (T := TX0) (N := 2) (ty0 := tyX0) F G rfl (by decide) (zinL inG1) tyX0_ok dvG1 (zin kc_X4_9) (zin kb_X0) (zin kn_X0) (by decide) (by decide) dX4_init_16 (fun q16 hq16 => ?_)
  have an1 : oa W1 12 := oa_eq wn1 trivial
  have hfr1 : ∀ d, 46 ≤ d → d < 50 → ¬ oa W1 d := fun d d1 d2 h9 => hfr d (by omega) d2 (by show (W d).1; rw [← wo1 d (by omega) (by omega)]; exact h9)
  have hN1 := hH.newo (n := 46) (hfr1 46 (by decide) (by decide)) (by decide) hq16 rfl (by decide)
  have w1a : va_up W1 46 eNo 46 = eNo := va_up_self _ _ _
  have w1b : ∀ d, d ≠ 46 → va_up W1 46 eNo d = W1 d := fun d hd => va_up_ne _ _ hd
  have g1a : va_up C0 46 q16 46 = q16 := va_up_self _ _ _
  have g1b : ∀ d, d ≠ 46 → va_up C0 46 q16 d = C0 d := fun d hd => va_up_ne _ _ hd
  refine zgen (P := zH t0 X S0 (va_up C0 46 q16) (va_up W1 46 eNo)) hN1 (fun S hH => ?_)
  generalize va_up W1 46 eNo = V1 at hH w1a w1b
  generalize va_up C0 46 q16 = B1 at hH g1a g1b
  refine r_dup F dX4_init_19 rfl ?_
  refine c_Nv F G (c_BytesInit hH (n := 46) w1a g1a rfl rfl (fun h9 => hfr1 47 (by decide) (by decide) (by show (W1 47).1; rw [← w1b 47 (by decide)]; exact h9)) rfl) ⟨va_cnB 0 F.2.2.2.2 (zgI ko_X0_init) rfl rfl rfl (G.2.2.2.1 (RX4, 11, yX0_init, RX11) (List.mem_of_getElem? (i := 7) rfl)) (F.2.2.2.2 _ (zin kn_X0)) hd_yX0_init ⟨Nat.le_of_ble_eq_true rfl, Nat.le_of_ble_eq_true rfl⟩, rfl, F.2.2.2.2 _ (zin ki_X0_init)⟩ rfl rfl (Nat.le_of_ble_eq_true rfl) dX4_init_20 ⟨Nat.le_of_ble_eq_true rfl, Nat.le_of_ble_eq_true rfl⟩ (fun S20 h20 => ?_)
  obtain ⟨C1, U1, hH, gc1, u1a, u1b, u1c⟩ := h20
  have anU1 : oa U1 12 := oa_eq ((u1c 12 (by decide) (by decide)).trans ((w1b 12 (by decide)).trans wn1)) trivial
  have eaU1 : C1 12 = a := (gc1 12 (by decide)).trans ((g1b 12 (by decide)).trans ea1)
  have ecU1 : C1 46 = q16 := (gc1 46 (by decide)).trans g1a
  have acU1 : oa U1 46 := oa_eq u1a trivial
  have hA1 : zA S20 a 5 := hH.al anU1 eaU1 rfl
  refine r_putFq (v := some q16) (ci := 5) (k := 1) (id := 501) (C := RX4) (T := TX4) (N := 3) (ty := (.object "ObjectLinker$Bytes")) (ty0 := tyX4) F G rfl (by decide) (by decide) rfl (zinL inG5) (zin kf_X4_18) (fun _ h9 => h9) tyX4_ok nmX4 rfl hnm rfl pd5_1 rfl rfl dX4_init_23 hA1 ?_
  obtain ⟨W2, hH9, wn2, wd2⟩ := rf_fld (id := 501) (x2 := some q16) hH anU1 eaU1 rfl (by decide) (some 46) (by show _ = some (C1 46); rw [ecU1]) (fun d hd => by cases hd; exact Or.inr ⟨acU1, rfl⟩)
  refine zgen (P := zH t0 X S0 C1 W2) hH9 (fun S hH => ?_)
  clear hH9
  have wn2 : W2 12 = eQ (eQ (eNo) 500 (some 44)) 501 (some 46) := wn2.trans (congrArg (fun e => eQ e 501 (some 46)) ((u1c 12 (by decide) (by decide)).trans ((w1b 12 (by decide)).trans wn1)))
  have wo2 : ∀ d, d ≠ 12 → ¬ (44 ≤ d ∧ d < 48) → W2 d = W d := fun d d1 d2 => (wd2 d d1).trans ((u1c d (by omega) (by omega)).trans ((w1b d (by omega)).trans (wo1 d d1 (by omega))))
  have ag2 : ∀ d, ¬ (44 ≤ d ∧ d < 48) → C1 d = ad d := fun d d2 => (gc1 d (by omega)).trans ((g1b d (by omega)).trans (ag1 d (by omega)))
  have ea2 : C1 12 = a := eaU1
  have wc2_44 : W2 44 = eQ eNo 100 (some 45) ∧ W2 45 = eNa 128 := ⟨(wd2 44 (by decide)).trans ((u1c 44 (by decide) (by decide)).trans ((w1b 44 (by decide)).trans wc1_44.1)), (wd2 45 (by decide)).trans ((u1c 45 (by decide) (by decide)).trans ((w1b 45 (by decide)).trans wc1_44.2))⟩
  have wc2_46 : W2 46 = eQ eNo 100 (some 47) ∧ W2 47 = eNa 128 := ⟨(wd2 46 (by decide)).trans u1a, (wd2 47 (by decide)).trans u1b⟩
  refine r_aload_n F dX4_init_26 rfl ?_
  refine r_new (ci := 1) (C := RX0) (T := TX0) (N := 2) (ty0 := tyX0) F G rfl (by decide) (zinL inG1) tyX0_ok dvG1 (zin kc_X4_9) (zin kb_X0) (zin kn_X0) (by decide) (by decide) dX4_init_27 (fun q27 hq27 => ?_)
  have an2 : oa W2 12 := oa_eq wn2 trivial
  have hfr2 : ∀ d, 48 ≤ d → d < 50 → ¬ oa W2 d := fun d d1 d2 h9 => hfr d (by omega) d2 (by show (W d).1; rw [← wo2 d (by omega) (by omega)]; exact h9)
  have hN2 := hH.newo (n := 48) (hfr2 48 (by decide) (by decide)) (by decide) hq27 rfl (by decide)
  have w2a : va_up W2 48 eNo 48 = eNo := va_up_self _ _ _
  have w2b : ∀ d, d ≠ 48 → va_up W2 48 eNo d = W2 d := fun d hd => va_up_ne _ _ hd
  have g2a : va_up C1 48 q27 48 = q27 := va_up_self _ _ _
  have g2b : ∀ d, d ≠ 48 → va_up C1 48 q27 d = C1 d := fun d hd => va_up_ne _ _ hd
  refine zgen (P := zH t0 X S0 (va_up C1 48 q27) (va_up W2 48 eNo)) hN2 (fun S hH => ?_)
  generalize va_up W2 48 eNo = V2 at hH w2a w2b
  generalize va_up C1 48 q27 = B2 at hH g2a g2b
  refine r_dup F dX4_init_30 rfl ?_
  refine c_Nv F G (c_BytesInit hH (n := 48) w2a g2a rfl rfl (fun h9 => hfr2 49 (by decide) (by decide) (by show (W2 49).1; rw [← w2b 49 (by decide)]; exact h9)) rfl) ⟨va_cnB 0 F.2.2.2.2 (zgI ko_X0_init) rfl rfl rfl (G.2.2.2.1 (RX4, 11, yX0_init, RX11) (List.mem_of_getElem? (i := 7) rfl)) (F.2.2.2.2 _ (zin kn_X0)) hd_yX0_init ⟨Nat.le_of_ble_eq_true rfl, Nat.le_of_ble_eq_true rfl⟩, rfl, F.2.2.2.2 _ (zin ki_X0_init)⟩ rfl rfl (Nat.le_of_ble_eq_true rfl) dX4_init_31 ⟨Nat.le_of_ble_eq_true rfl, Nat.le_of_ble_eq_true rfl⟩ (fun S31 h31 => ?_)
  obtain ⟨C2, U2, hH, gc2, u2a, u2b, u2c⟩ := h31
  have anU2 : oa U2 12 := oa_eq ((u2c 12 (by decide) (by decide)).trans ((w2b 12 (by decide)).trans wn2)) trivial
  have eaU2 : C2 12 = a := (gc2 12 (by decide)).trans ((g2b 12 (by decide)).trans ea2)
  have ecU2 : C2 48 = q27 := (gc2 48 (by decide)).trans g2a
  have acU2 : oa U2 48 := oa_eq u2a trivial
  have hA2 : zA S31 a 5 := hH.al anU2 eaU2 rfl
  refine r_putFq (v := some q27) (ci := 5) (k := 2) (id := 502) (C := RX4) (T := TX4) (N := 3) (ty := (.object "ObjectLinker$Bytes")) (ty0 := tyX4) F G rfl (by decide) (by decide) rfl (zinL inG5) (zin kf_X4_21) (fun _ h9 => h9) tyX4_ok nmX4 rfl hnm rfl pd5_2 rfl rfl dX4_init_34 hA2 ?_
  obtain ⟨W3, hH9, wn3, wd3⟩ := rf_fld (id := 502) (x2 := some q27) hH anU2 eaU2 rfl (by decide) (some 48) (by show _ = some (C2 48); rw [ecU2]) (fun d hd => by cases hd; exact Or.inr ⟨acU2, rfl⟩)
  refine zgen (P := zH t0 X S0 C2 W3) hH9 (fun S hH => ?_)
  clear hH9
  have wn3 : W3 12 = eQ (eQ (eQ (eNo) 500 (some 44)) 501 (some 46)) 502 (some 48) := wn3.trans (congrArg (fun e => eQ e 502 (some 48)) ((u2c 12 (by decide) (by decide)).trans ((w2b 12 (by decide)).trans wn2)))
  have wo3 : ∀ d, d ≠ 12 → ¬ (44 ≤ d ∧ d < 50) → W3 d = W d := fun d d1 d2 => (wd3 d d1).trans ((u2c d (by omega) (by omega)).trans ((w2b d (by omega)).trans (wo2 d d1 (by omega))))
  have ag3 : ∀ d, ¬ (44 ≤ d ∧ d < 50) → C2 d = ad d := fun d d2 => (gc2 d (by omega)).trans ((g2b d (by omega)).trans (ag2 d (by omega)))
  have ea3 : C2 12 = a := eaU2
  have wc3_44 : W3 44 = eQ eNo 100 (some 45) ∧ W3 45 = eNa 128 := ⟨(wd3 44 (by decide)).trans ((u2c 44 (by decide) (by decide)).trans ((w2b 44 (by decide)).trans wc2_44.1)), (wd3 45 (by decide)).trans ((u2c 45 (by decide) (by decide)).trans ((w2b 45 (by decide)).trans wc2_44.2))⟩
  have wc3_46 : W3 46 = eQ eNo 100 (some 47) ∧ W3 47 = eNa 128 := ⟨(wd3 46 (by decide)).trans ((u2c 46 (by decide) (by decide)).trans ((w2b 46 (by decide)).trans wc2_46.1)), (wd3 47 (by decide)).trans ((u2c 47 (by decide) (by decide)).trans ((w2b 47 (by decide)).trans wc2_46.2))⟩
  have wc3_48 : W3 48 = eQ eNo 100 (some 49) ∧ W3 49 = eNa 128 := ⟨(wd3 48 (by decide)).trans u2a, (wd3 49 (by decide)).trans u2b⟩
  exact e_vret F hr hlk ⟨C2, W3, hH, ag3, wn3, fun c hc => (by rcases hc with e | e | e <;> subst e; exact wc3_44; exact wc3_46; exact wc3_48), wo3⟩ (by decide) (by decide) dX4_init_37
