theorem fst_i {v : zV} {bad : Nat → Prop} {t M i : Nat} (hM : 0 < M) (hc : ∀ o, o < 6 → cn v t o ≤ M) (hi : i < pS v t 6) (h : ∀ z, z < 6 * M → z % M < cn v t (z / M) → pN v t M z < i → ¬ bad z) : ∀ z, z < eN v t M i → ¬ (z % M < cn v t (z / M) ∧ bad z) := fun z hz h9 => by
  obtain ⟨h1, h2, h3⟩ := eN_t hM hc hi
  exact h z (by omega) h9.1 (by have := pN_lt hM hz h9.1; omega) h9.2
theorem fst_s {v : zV} {bad : Nat → Prop} {t M i : Nat} (hM : 0 < M) (hc : ∀ o, o < 6 → cn v t o ≤ M) (h : ∀ z, z < 6 * M → z % M < cn v t (z / M) → pN v t M z < i → ¬ bad z) (hb : ¬ bad (eN v t M i)) : ∀ z, z < 6 * M → z % M < cn v t (z / M) → pN v t M z < i + 1 → ¬ bad z := fun z h1 h2 h3 => by
  rcases Nat.lt_or_ge (pN v t M z) i with h4 | h4
  · exact h z h1 h2 h4
  · have e : eN v t M i = z := by rw [show i = pN v t M z by omega]; exact eN_at hM h1 h2
    rw [← e]
    exact hb
theorem sD_iff {v : zV} {y : Nat} (hy : y < 96) (h : ySt v (v.1 1214 y) y = true) : fnd (ySt v (v.1 1214 y)) 96 = some y ↔ fnd (ySt v (v.1 1214 y)) y = none := by
  constructor
  · intro h9
    exact fnd_none.mpr (fnd_iff.mp h9).2.2
  · intro h9
    exact fnd_iff.mpr ⟨hy, h, fnd_none.mp h9⟩
theorem mng_or {v : zV} {y : Nat} (h : ¬ v.1 1216 y = 2) : mng v y = (fnd (ySt v (v.1 1214 y)) 96).or (fnd (yWk v (v.1 1214 y)) 96) := by
  unfold mng
  rw [if_neg h]
  cases fnd (ySt v (v.1 1214 y)) 96 <;> rfl
theorem oK_iff {v : zV} {y z : Nat} (hy : y < 96) (h2 : ¬ v.1 1216 y = 2) (h : yFi v (v.1 1214 y) y = true) (hz : fnd (yFi v (v.1 1214 y)) 96 = some z) : oK v y ↔ ¬ v.1 1215 z = v.1 1215 y := by
  obtain ⟨h3, h4, h5⟩ := fnd_iff.mp hz
  have hzy : z ≤ y := by
    rcases Nat.lt_or_ge y z with h9 | h9
    · have := h5 y h9; rw [h] at this; cases this
    · exact h9
  constructor
  · rintro ⟨-, x, hx, hk⟩
    obtain ⟨x1, x2, x3⟩ := fnd_iff.mp hx
    have e : x = z := by
      rcases Nat.lt_trichotomy x z with q | q | q
      · have := h5 x q; rw [x2] at this; cases this
      · exact q
      · have := x3 z q; rw [h4] at this; cases this
    rw [← e]
    exact hk
  · intro hk
    have hne : z ≠ y := fun e => hk (by rw [e])
    exact ⟨h2, z, fnd_iff.mpr ⟨by omega, h4, h5⟩, hk⟩
set_option maxRecDepth 100000 in
set_option maxHeartbeats 4000000 in
theorem c_doubled {l : Launch} {N0 t0 : Nat} {D : va_G} {cy : Nat → ClassId} {S : zS} {X : Nat → Prop} {S0 : zS} {ad : Nat → Nat} {W : zO} (hH : zH t0 X S0 ad W S) {v : zV} {a b : Nat} (hw : wr W) (hv : vRg v) (a6 : oa W 6) (hYs : ∀ y, y < 96 → y % 16 < cn v 1204 (y / 16) → rpY v W y) (hN : nmS v W 96) (ea : ad 6 = a) (eb : ad 36 = b) (hL : vl W 36 (pS v 1204 6) (fun i => 900 + 2 * eN v 1204 16 i)) : zMi l yX5_doubled (zws yX5_doubled cX5_doubled 4 (some .int)) { frames := 3, cells := 0, slots := 0, locals := 65 } N0 t0 D cy S [.ref a, .ref b] (fun r S' => S' = S ∧ ((r = -1 ∧ ∀ z, z < 96 → ¬ (z % 16 < cn v 1204 (z / 16) ∧ sD v z)) ∨ ∃ y, y < 96 ∧ (y % 16 < cn v 1204 (y / 16) ∧ sD v y) ∧ (∀ z, z < y → ¬ (z % 16 < cn v 1204 (z / 16) ∧ sD v z)) ∧ r = nI (plY y))) 0 0 := by
  refine zMi.of (cc := cX5_doubled) (maxL := 4) (ret := (some .int)) (by decide) rfl (Nat.le_of_ble_eq_true rfl) ?_
  intro p e s m args below meth c F G hr hlk hnm
  subst ea
  subst eb
  have hc : ∀ o, o < 6 → cn v 1204 o ≤ 16 := fun o ho => (rg_1204 hv ho).2
  have hNb := pS_b (v := v) (t := 1204) (M := 16) hc 6 (Nat.le_refl _)
  have A0 : zA S (ad 6) 6 := hH.al a6 rfl rfl
  have L0 : zA S (ad 36) 0 := hL.al hH rfl rfl
  have L1 : zi S 2 (ad 36) = nI (pS v 1204 6) := hL.z hH rfl rfl
  have L2 : zq S 1 (ad 36) = some (vlq t0 ad W 36) := hL.E hH rfl rfl
  have a18 : oa W 18 := hw.a a6 (id := 601) (by decide) rfl
  have n18 : onn W 18 = 31 := hw.n a6 (id := 601) (by decide) rfl (by decide)
  have Q1 : zq S 601 (ad 6) = some (ad 18) := hH.qS a6 rfl (by decide) (hw.q a6 (by decide) rfl) rfl
  refine r_iconst (v := 0) F dX5_doubled_0 (by decide) ?_
  refine r_istore_n F dX5_doubled_1 (by decide) ?_
  refine z_loop (fun n S9 lv => ∃ i, i + n = pS v 1204 6 ∧ S = S9 ∧ (∀ z, z < 6 * 16 → z % 16 < cn v 1204 (z / 16) → pN v 1204 16 z < i → ¬ sD v z) ∧ lv = [(2, .int (nI i)), (0, .ref (ad 6)), (1, .ref (ad 36))]) (pS v 1204 6) ?_ ⟨0, by omega, rfl, fun z _ _ h9 => absurd h9 (Nat.not_lt_zero _), rfl⟩
  rintro n S9 lv ⟨i, hn9, rfl, hst, rfl⟩ ih
  refine r_iload_n F dX5_doubled_2 rfl ?_
  refine r_aload_n F dX5_doubled_3 rfl ?_
  refine c_Fi (ci := 0) F G (k_ListSize L0) (va_cwF 0 F.2.2.2.2 (zgF km_X5_23 ke_Jx4a65c_Jxbd725_size ki_Jx4a65c_size_8abf5 kn_Jx4a65c ko_Jx4a65c_size_8abf5) rfl rfl rfl (G.2.2.2.2.1 (⟨"java/util/List", "size", "()I"⟩, yJx4a65c_size_8abf5) (List.mem_of_getElem? (i := 0) rfl)) hdF_size ⟨Nat.le_of_ble_eq_true rfl, Nat.le_of_ble_eq_true rfl⟩) rfl (by decide) L0 rfl rfl (Nat.le_of_ble_eq_true rfl) dX5_doubled_4 ⟨Nat.le_of_ble_eq_true rfl, Nat.le_of_ble_eq_true rfl⟩ (fun r4 S4 h4 => ?_)
  obtain ⟨h4a, h4b⟩ := h4
  have h4c := h4b.symm
  subst h4c
  rw [L1] at h4a
  subst h4a
  refine r_icmp_ge (tgt := 61) F dX5_doubled_9 (by decide) (fun c9 => ?_) (fun c9 => ?_)
  · refine r_iconst (v := -1) F dX5_doubled_61 (by decide) ?_
    exact e_iret F hr hlk ⟨rfl, Or.inl ⟨rfl, fun z hz h9 => hst z hz h9.1 (by have h8 := pN_top (v := v) (t := 1204) (M := 16) (by decide) hz h9.1; rw [nI_leI (by omega) (by omega)] at c9; omega) h9.2⟩⟩ (by decide) (by decide) dX5_doubled_62
  · have hi : i < pS v 1204 6 := by rw [nI_leI (by omega) (by omega)] at c9; omega
    obtain ⟨hy, ht, hp⟩ := eN_t (v := v) (t := 1204) (M := 16) (by decide) hc hi
    have gg := hL.get hH rfl hi
    have hYi := hYs (eN v 1204 16 i) hy ht
    have gA : zA S (ad (cY (eN v 1204 16 i))) 9 := hH.al hYi.1 rfl (kd_y _ hy)
    have k9 : kd (cY (eN v 1204 16 i)) < 13 := by rw [kd_y _ hy]; decide
    have J0 : zi S 903 (ad (cY (eN v 1204 16 i))) = v.1 1216 (eN v 1204 16 i) := (hH.i hYi.1 rfl k9).trans hYi.2.2.2.2.1
    have hnm := rg_1214 hv hy
    have hnm2 := hnm.2
    have J1 : zi S 901 (ad (cY (eN v 1204 16 i))) = nI (cn v 1214 (eN v 1204 16 i)) := (hH.i hYi.1 rfl k9).trans (hYi.2.2.1.trans hnm.1)
    have J2 : zi S 900 (ad (cY (eN v 1204 16 i))) = nI (plY (eN v 1204 16 i)) := (hH.i hYi.1 rfl k9).trans hYi.2.1
    have J3 : zi S 902 (ad (cY (eN v 1204 16 i))) = v.1 1215 (eN v 1204 16 i) := (hH.i hYi.1 rfl k9).trans hYi.2.2.2.1
    refine r_aload_n F dX5_doubled_12 rfl ?_
    refine r_iload_n F dX5_doubled_13 rfl ?_
    refine c_Fq (ci := 0) F G (k_get L0 L2 gg.1 L1 hi gg.2.1 gg.2.2.1) (va_cwF 1 F.2.2.2.2 (zgF km_X5_29 ke_Jx4a65c_Jxbd725_get ki_Jx4a65c_get_915e3 kn_Jx4a65c ko_Jx4a65c_get_915e3) rfl rfl rfl (G.2.2.2.2.1 (⟨"java/util/List", "get", "(I)Ljava/lang/Object;"⟩, yJx4a65c_get_915e3) (List.mem_of_getElem? (i := 2) rfl)) hdF_get ⟨Nat.le_of_ble_eq_true rfl, Nat.le_of_ble_eq_true rfl⟩) rfl (by decide) L0 rfl rfl (Nat.le_of_ble_eq_true rfl) dX5_doubled_14 ⟨Nat.le_of_ble_eq_true rfl, Nat.le_of_ble_eq_true rfl⟩ (fun r14 S14 h14 => ?_)
    obtain ⟨h14a, h14b⟩ := h14
    have h14c := h14b.symm
    subst h14c
    rw [gg.2.2.2] at h14a
    subst h14a
    refine r_cast (a := ad (cY (eN v 1204 16 i))) (ci := 9) F G gA (by decide) rfl (List.mem_of_getElem? (i := 4) rfl) (zin kc_X5_9) dX5_doubled_19 ?_
    refine r_astore_n (x := ad (cY (eN v 1204 16 i))) F dX5_doubled_22 (by decide) ?_
    refine r_aload_n F dX5_doubled_23 rfl ?_
    refine r_getiS (ci := 9) (k := 3) (id := 903) (C := RX8) (T := TX8) (N := 8) F G rfl (by decide) (by decide) rfl (zinL inG9) (zin kf_X5_37) (fun _ h9 => h9) dX5_doubled_24 gA J0 ?_
    refine r_if_ne (tgt := 55) F dX5_doubled_27 (by decide) (fun c27 => ?_) (fun c27 => ?_)
    · have hnb : ¬ sD v (eN v 1204 16 i) := fun h => c27 h.1
      refine r_iinc F dX5_doubled_55 rfl (by decide) ?_
      refine r_goto (tgt := 2) F dX5_doubled_58 (by decide) ?_
      refine zsub (lv' := [(2, .int (nI (i + 1))), (0, .ref (ad 6)), (1, .ref (ad 36))]) (by rw [show nI (i + 1) = nI i + Int32.ofInt 1 from (nI_add i 1).symm]; simp [zs1, Value.category, show ((1 : Fin 4) : Nat) = 1 from rfl, show ((2 : Fin 4) : Nat) = 2 from rfl, show ((3 : Fin 4) : Nat) = 3 from rfl]) ?_
      exact ih (n - 1) _ _ (by omega) ⟨i + 1, by omega, rfl, fst_s (by decide) hc hst hnb, rfl⟩
    · refine r_aload_n F dX5_doubled_30 rfl ?_
      refine c_Vi (ci := 9) F G (c_defines hH hYi hy rfl) (cwV 0 F.2.2.2.2 (zgV km_X5_56 ki_X8_defines ke_X8_X8_defines kn_X8 ko_X8_defines) rfl rfl rfl ⟨rfl, hd_yX8_defines⟩ ⟨Nat.le_of_ble_eq_true rfl, Nat.le_of_ble_eq_true rfl⟩) rfl (by decide) gA rfl rfl (Nat.le_of_ble_eq_true rfl) dX5_doubled_31 ⟨Nat.le_of_ble_eq_true rfl, Nat.le_of_ble_eq_true rfl⟩ (fun r31 S31 h31 => ?_)
      obtain ⟨a31, e31⟩ := h31
      have hs31 := e31.symm
      subst hs31
      refine r_if_eq (tgt := 55) F dX5_doubled_34 (by decide) (fun c34 => ?_) (fun c34 => ?_)
      · have hnb : ¬ sD v (eN v 1204 16 i) := fun h => a31.f c34 h.2.1
        refine r_iinc F dX5_doubled_55 rfl (by decide) ?_
        refine r_goto (tgt := 2) F dX5_doubled_58 (by decide) ?_
        refine zsub (lv' := [(2, .int (nI (i + 1))), (0, .ref (ad 6)), (1, .ref (ad 36))]) (by rw [show nI (i + 1) = nI i + Int32.ofInt 1 from (nI_add i 1).symm]; simp [zs1, Value.category, show ((1 : Fin 4) : Nat) = 1 from rfl, show ((2 : Fin 4) : Nat) = 2 from rfl, show ((3 : Fin 4) : Nat) = 3 from rfl]) ?_
        exact ih (n - 1) _ _ (by omega) ⟨i + 1, by omega, rfl, fst_s (by decide) hc hst hnb, rfl⟩
      · refine r_aload_n F dX5_doubled_37 rfl ?_
        refine r_getS (ci := 6) (k := 1) (id := 601) (C := RX5) (T := TX5) (N := 3) F G rfl (by decide) (by decide) rfl (zinL inG6) (zin kf_X5_17) (fun _ h9 => h9) dX5_doubled_38 A0 Q1 ?_
        refine r_aload_n F dX5_doubled_41 rfl ?_
        refine r_getiS (ci := 9) (k := 1) (id := 901) (C := RX8) (T := TX8) (N := 8) F G rfl (by decide) (by decide) rfl (zinL inG9) (zin kf_X5_41) (fun _ h9 => h9) dX5_doubled_42 gA J1 ?_
        refine v_aldS F G hH a18 rfl rfl (by omega) (by omega) dX5_doubled_45 ?_
        have t18 : orq W 18 (cn v 1214 (eN v 1204 16 i)) = (fnd (ySt v (nI (cn v 1214 (eN v 1204 16 i)))) 96).map cY := hN.2.1 (cn v 1214 (eN v 1204 16 i)) (by omega)
        rw [t18, ← hnm.1]
        have hyt := ySt_t ht c27 rfl (a31.t c34)
        have hsd := sD_iff hy hyt
        refine r_aload_n F dX5_doubled_46 rfl ?_
        refine r_acmp_eq (rx := ((fnd (ySt v (v.1 1214 (eN v 1204 16 i))) 96).map cY).map ad) (ry := some (ad (cY (eN v 1204 16 i)))) (tgt := 55) F dX5_doubled_47 (by decide) (fun heq => ?_) (fun hne => ?_)
        · have hno : fnd (ySt v (v.1 1214 (eN v 1204 16 i))) (eN v 1204 16 i) = none := hsd.mp (by
            cases hf : fnd (ySt v (v.1 1214 (eN v 1204 16 i))) 96 with
            | none => rw [hf] at heq; cases heq
            | some z =>
              rw [hf] at heq
              obtain ⟨z1, z2, z3⟩ := fnd_iff.mp hf
              have z4 : z % 16 < cn v 1204 (z / 16) := by unfold ySt at z2; simp at z2; exact z2.1.1.1
              have h9 : ad (cY z) = ad (cY (eN v 1204 16 i)) := Option.some.inj heq
              have h8 : 900 + 2 * z = 900 + 2 * (eN v 1204 16 i) := hH.2.2.1 _ _ (hYs z z1 z4).1 hYi.1 h9
              rw [show z = (eN v 1204 16 i) by omega])
          have hnb : ¬ sD v (eN v 1204 16 i) := fun h => h.2.2 hno
          refine r_iinc F dX5_doubled_55 rfl (by decide) ?_
          refine r_goto (tgt := 2) F dX5_doubled_58 (by decide) ?_
          refine zsub (lv' := [(2, .int (nI (i + 1))), (0, .ref (ad 6)), (1, .ref (ad 36))]) (by rw [show nI (i + 1) = nI i + Int32.ofInt 1 from (nI_add i 1).symm]; simp [zs1, Value.category, show ((1 : Fin 4) : Nat) = 1 from rfl, show ((2 : Fin 4) : Nat) = 2 from rfl, show ((3 : Fin 4) : Nat) = 3 from rfl]) ?_
          exact ih (n - 1) _ _ (by omega) ⟨i + 1, by omega, rfl, fst_s (by decide) hc hst hnb, rfl⟩
        · have hyes : ¬ fnd (ySt v (v.1 1214 (eN v 1204 16 i))) (eN v 1204 16 i) = none := fun h9 => hne (by rw [hsd.mpr h9]; rfl)
          refine r_aload_n F dX5_doubled_50 rfl ?_
          refine r_getiS (ci := 9) (k := 0) (id := 900) (C := RX8) (T := TX8) (N := 8) F G rfl (by decide) (by decide) rfl (zinL inG9) (zin kf_X5_60) (fun _ h9 => h9) dX5_doubled_51 gA J2 ?_
          exact e_iret F hr hlk ⟨rfl, Or.inr ⟨(eN v 1204 16 i), hy, ⟨ht, ⟨c27, a31.t c34, hyes⟩⟩, fst_i (by decide) hc hi hst, rfl⟩⟩ (by decide) (by decide) dX5_doubled_54
set_option maxRecDepth 100000 in
set_option maxHeartbeats 4000000 in
theorem c_missing {l : Launch} {N0 t0 : Nat} {D : va_G} {cy : Nat → ClassId} {S : zS} {X : Nat → Prop} {S0 : zS} {ad : Nat → Nat} {W : zO} (hH : zH t0 X S0 ad W S) {v : zV} {a b : Nat} (hw : wr W) (hv : vRg v) (a6 : oa W 6) (hYs : ∀ y, y < 96 → y % 16 < cn v 1204 (y / 16) → rpY v W y) (hN : nmS v W 96) (ea : ad 6 = a) (eb : ad 36 = b) (hL : vl W 36 (pS v 1204 6) (fun i => 900 + 2 * eN v 1204 16 i)) : zMi l yX5_missing (zws yX5_missing cX5_missing 5 (some .int)) { frames := 3, cells := 0, slots := 0, locals := 65 } N0 t0 D cy S [.ref a, .ref b] (fun r S' => S' = S ∧ ((r = -1 ∧ ∀ z, z < 96 → ¬ (z % 16 < cn v 1204 (z / 16) ∧ mS v z)) ∨ ∃ y, y < 96 ∧ (y % 16 < cn v 1204 (y / 16) ∧ mS v y) ∧ (∀ z, z < y → ¬ (z % 16 < cn v 1204 (z / 16) ∧ mS v z)) ∧ r = nI (plY y))) 0 0 := by
  refine zMi.of (cc := cX5_missing) (maxL := 5) (ret := (some .int)) (by decide) rfl (Nat.le_of_ble_eq_true rfl) ?_
  intro p e s m args below meth c F G hr hlk hnm
  subst ea
  subst eb
  have hc : ∀ o, o < 6 → cn v 1204 o ≤ 16 := fun o ho => (rg_1204 hv ho).2
  have hNb := pS_b (v := v) (t := 1204) (M := 16) hc 6 (Nat.le_refl _)
  have A0 : zA S (ad 6) 6 := hH.al a6 rfl rfl
  have L0 : zA S (ad 36) 0 := hL.al hH rfl rfl
  have L1 : zi S 2 (ad 36) = nI (pS v 1204 6) := hL.z hH rfl rfl
  have L2 : zq S 1 (ad 36) = some (vlq t0 ad W 36) := hL.E hH rfl rfl
  refine r_iconst (v := 0) F dX5_missing_0 (by decide) ?_
  refine r_istore_n F dX5_missing_1 (by decide) ?_
  refine z_loop (fun n S9 lv => ∃ i, i + n = pS v 1204 6 ∧ S = S9 ∧ (∀ z, z < 6 * 16 → z % 16 < cn v 1204 (z / 16) → pN v 1204 16 z < i → ¬ mS v z) ∧ lv = [(2, .int (nI i)), (0, .ref (ad 6)), (1, .ref (ad 36))]) (pS v 1204 6) ?_ ⟨0, by omega, rfl, fun z _ _ h9 => absurd h9 (Nat.not_lt_zero _), rfl⟩
  rintro n S9 lv ⟨i, hn9, rfl, hst, rfl⟩ ih
  refine r_iload_n F dX5_missing_2 rfl ?_
  refine r_aload_n F dX5_missing_3 rfl ?_
  refine c_Fi (ci := 0) F G (k_ListSize L0) (va_cwF 0 F.2.2.2.2 (zgF km_X5_23 ke_Jx4a65c_Jxbd725_size ki_Jx4a65c_size_8abf5 kn_Jx4a65c ko_Jx4a65c_size_8abf5) rfl rfl rfl (G.2.2.2.2.1 (⟨"java/util/List", "size", "()I"⟩, yJx4a65c_size_8abf5) (List.mem_of_getElem? (i := 0) rfl)) hdF_size ⟨Nat.le_of_ble_eq_true rfl, Nat.le_of_ble_eq_true rfl⟩) rfl (by decide) L0 rfl rfl (Nat.le_of_ble_eq_true rfl) dX5_missing_4 ⟨Nat.le_of_ble_eq_true rfl, Nat.le_of_ble_eq_true rfl⟩ (fun r4 S4 h4 => ?_)
  obtain ⟨h4a, h4b⟩ := h4
  have h4c := h4b.symm
  subst h4c
  rw [L1] at h4a
  subst h4a
  refine r_icmp_ge (tgt := 79) F dX5_missing_9 (by decide) (fun c9 => ?_) (fun c9 => ?_)
  · refine r_iconst (v := -1) F dX5_missing_79 (by decide) ?_
    exact e_iret F hr hlk ⟨rfl, Or.inl ⟨rfl, fun z hz h9 => hst z hz h9.1 (by have h8 := pN_top (v := v) (t := 1204) (M := 16) (by decide) hz h9.1; rw [nI_leI (by omega) (by omega)] at c9; omega) h9.2⟩⟩ (by decide) (by decide) dX5_missing_80
  · have hi : i < pS v 1204 6 := by rw [nI_leI (by omega) (by omega)] at c9; omega
    obtain ⟨hy, ht, hp⟩ := eN_t (v := v) (t := 1204) (M := 16) (by decide) hc hi
    have gg := hL.get hH rfl hi
    have hYi := hYs (eN v 1204 16 i) hy ht
    have gA : zA S (ad (cY (eN v 1204 16 i))) 9 := hH.al hYi.1 rfl (kd_y _ hy)
    have k9 : kd (cY (eN v 1204 16 i)) < 13 := by rw [kd_y _ hy]; decide
    have J0 : zi S 903 (ad (cY (eN v 1204 16 i))) = v.1 1216 (eN v 1204 16 i) := (hH.i hYi.1 rfl k9).trans hYi.2.2.2.2.1
    have hnm := rg_1214 hv hy
    have hnm2 := hnm.2
    have J1 : zi S 901 (ad (cY (eN v 1204 16 i))) = nI (cn v 1214 (eN v 1204 16 i)) := (hH.i hYi.1 rfl k9).trans (hYi.2.2.1.trans hnm.1)
    have J2 : zi S 900 (ad (cY (eN v 1204 16 i))) = nI (plY (eN v 1204 16 i)) := (hH.i hYi.1 rfl k9).trans hYi.2.1
    have J3 : zi S 902 (ad (cY (eN v 1204 16 i))) = v.1 1215 (eN v 1204 16 i) := (hH.i hYi.1 rfl k9).trans hYi.2.2.2.1
    refine r_aload_n F dX5_missing_12 rfl ?_
    refine r_iload_n F dX5_missing_13 rfl ?_
    refine c_Fq (ci := 0) F G (k_get L0 L2 gg.1 L1 hi gg.2.1 gg.2.2.1) (va_cwF 1 F.2.2.2.2 (zgF km_X5_29 ke_Jx4a65c_Jxbd725_get ki_Jx4a65c_get_915e3 kn_Jx4a65c ko_Jx4a65c_get_915e3) rfl rfl rfl (G.2.2.2.2.1 (⟨"java/util/List", "get", "(I)Ljava/lang/Object;"⟩, yJx4a65c_get_915e3) (List.mem_of_getElem? (i := 2) rfl)) hdF_get ⟨Nat.le_of_ble_eq_true rfl, Nat.le_of_ble_eq_true rfl⟩) rfl (by decide) L0 rfl rfl (Nat.le_of_ble_eq_true rfl) dX5_missing_14 ⟨Nat.le_of_ble_eq_true rfl, Nat.le_of_ble_eq_true rfl⟩ (fun r14 S14 h14 => ?_)
    obtain ⟨h14a, h14b⟩ := h14
    have h14c := h14b.symm
    subst h14c
    rw [gg.2.2.2] at h14a
    subst h14a
    refine r_cast (a := ad (cY (eN v 1204 16 i))) (ci := 9) F G gA (by decide) rfl (List.mem_of_getElem? (i := 4) rfl) (zin kc_X5_9) dX5_missing_19 ?_
    refine r_astore_n (x := ad (cY (eN v 1204 16 i))) F dX5_missing_22 (by decide) ?_
    refine r_aload_n F dX5_missing_23 rfl ?_
    refine r_getiS (ci := 9) (k := 3) (id := 903) (C := RX8) (T := TX8) (N := 8) F G rfl (by decide) (by decide) rfl (zinL inG9) (zin kf_X5_37) (fun _ h9 => h9) dX5_missing_24 gA J0 ?_
    refine r_iconst (v := 2) F dX5_missing_27 (by decide) ?_
    refine r_icmp_eq (tgt := 49) F dX5_missing_28 (by decide) (fun c28 => ?_) (fun c28 => ?_)
    · refine r_iconst (v := 1) F dX5_missing_49 (by decide) ?_
      refine r_goto (tgt := 54) F dX5_missing_50 (by decide) ?_
      refine r_istore F dX5_missing_54 (by decide) ?_
      refine r_iload F dX5_missing_56 rfl ?_
      refine r_if_eq (tgt := 73) F dX5_missing_58 (by decide) (fun h9 => absurd h9 (by decide)) (fun _ => ?_)
      refine r_aload_n F dX5_missing_61 rfl ?_
      refine c_Vi (ci := 9) F G (c_defines hH hYi hy rfl) (cwV 0 F.2.2.2.2 (zgV km_X5_56 ki_X8_defines ke_X8_X8_defines kn_X8 ko_X8_defines) rfl rfl rfl ⟨rfl, hd_yX8_defines⟩ ⟨Nat.le_of_ble_eq_true rfl, Nat.le_of_ble_eq_true rfl⟩) rfl (by decide) gA rfl rfl (Nat.le_of_ble_eq_true rfl) dX5_missing_62 ⟨Nat.le_of_ble_eq_true rfl, Nat.le_of_ble_eq_true rfl⟩ (fun r62 S62 h62 => ?_)
      obtain ⟨a62, e62⟩ := h62
      have hs62 := e62.symm
      subst hs62
      refine r_if_ne (tgt := 73) F dX5_missing_65 (by decide) (fun c65 => ?_) (fun c65 => ?_)
      · have hnb : ¬ mS v (eN v 1204 16 i) := fun h => a62.t c65 h.1
        refine r_iinc F dX5_missing_73 rfl (by decide) ?_
        refine r_goto (tgt := 2) F dX5_missing_76 (by decide) ?_
        refine zsub (lv' := [(2, .int (nI (i + 1))), (0, .ref (ad 6)), (1, .ref (ad 36))]) (by rw [show nI (i + 1) = nI i + Int32.ofInt 1 from (nI_add i 1).symm]; simp [zs1, Value.category, show ((1 : Fin 4) : Nat) = 1 from rfl, show ((2 : Fin 4) : Nat) = 2 from rfl, show ((3 : Fin 4) : Nat) = 3 from rfl]) ?_
        exact ih (n - 1) _ _ (by omega) ⟨i + 1, by omega, rfl, fst_s (by decide) hc hst hnb, rfl⟩
      · refine r_aload_n F dX5_missing_68 rfl ?_
        refine r_getiS (ci := 9) (k := 0) (id := 900) (C := RX8) (T := TX8) (N := 8) F G rfl (by decide) (by decide) rfl (zinL inG9) (zin kf_X5_60) (fun _ h9 => h9) dX5_missing_69 gA J2 ?_
        exact e_iret F hr hlk ⟨rfl, Or.inr ⟨(eN v 1204 16 i), hy, ⟨ht, ⟨Decidable.not_not.mp (a62.f c65), Or.inl c28⟩⟩, fst_i (by decide) hc hi hst, rfl⟩⟩ (by decide) (by decide) dX5_missing_72
    · refine r_aload_n F dX5_missing_31 rfl ?_
      refine r_getiS (ci := 9) (k := 3) (id := 903) (C := RX8) (T := TX8) (N := 8) F G rfl (by decide) (by decide) rfl (zinL inG9) (zin kf_X5_37) (fun _ h9 => h9) dX5_missing_32 gA J0 ?_
      refine r_if_ne (tgt := 53) F dX5_missing_35 (by decide) (fun c35 => ?_) (fun c35 => ?_)
      · refine r_iconst (v := 0) F dX5_missing_53 (by decide) ?_
        refine r_istore F dX5_missing_54 (by decide) ?_
        refine r_iload F dX5_missing_56 rfl ?_
        refine r_if_eq (tgt := 73) F dX5_missing_58 (by decide) (fun _ => ?_) (fun h9 => absurd rfl h9)
        have hnb : ¬ mS v (eN v 1204 16 i) := fun h => h.2.elim (fun q => c28 q) (fun q => c35 q.1)
        refine r_iinc F dX5_missing_73 rfl (by decide) ?_
        refine r_goto (tgt := 2) F dX5_missing_76 (by decide) ?_
        refine zsub (lv' := [(2, .int (nI (i + 1))), (0, .ref (ad 6)), (1, .ref (ad 36))]) (by rw [show nI (i + 1) = nI i + Int32.ofInt 1 from (nI_add i 1).symm]; simp [zs1, Value.category, show ((1 : Fin 4) : Nat) = 1 from rfl, show ((2 : Fin 4) : Nat) = 2 from rfl, show ((3 : Fin 4) : Nat) = 3 from rfl]) ?_
        exact ih (n - 1) _ _ (by omega) ⟨i + 1, by omega, rfl, fst_s (by decide) hc hst hnb, rfl⟩
      · refine r_aload_n F dX5_missing_38 rfl ?_
        refine r_aload_n F dX5_missing_39 rfl ?_
        refine r_getiS (ci := 9) (k := 1) (id := 901) (C := RX8) (T := TX8) (N := 8) F G rfl (by decide) (by decide) rfl (zinL inG9) (zin kf_X5_41) (fun _ h9 => h9) dX5_missing_40 gA J1 ?_
        refine c_Vq (ci := 6) F G (c_definer hH hw a6 rfl (by omega)) (cwV 1 F.2.2.2.2 (zgV km_X5_44 ki_X5_definer ke_X5_X5_definer kn_X5 ko_X5_definer) rfl rfl rfl ⟨rfl, hd_yX5_definer⟩ ⟨Nat.le_of_ble_eq_true rfl, Nat.le_of_ble_eq_true rfl⟩) rfl (by decide) A0 rfl rfl (Nat.le_of_ble_eq_true rfl) dX5_missing_43 ⟨Nat.le_of_ble_eq_true rfl, Nat.le_of_ble_eq_true rfl⟩ (fun r43 S43 h43 => ?_)
        obtain ⟨h43a, h43b⟩ := h43
        have h43c := h43b.symm
        subst h43c
        subst h43a
        have t18 : orq W 18 (cn v 1214 (eN v 1204 16 i)) = (fnd (ySt v (nI (cn v 1214 (eN v 1204 16 i)))) 96).map cY := hN.2.1 (cn v 1214 (eN v 1204 16 i)) (by omega)
        have t20 : orq W 20 (cn v 1214 (eN v 1204 16 i)) = (fnd (yWk v (nI (cn v 1214 (eN v 1204 16 i)))) 96).map cY := hN.2.2 (cn v 1214 (eN v 1204 16 i)) (by omega)
        rw [t18, t20, ← hnm.1]
        refine r_ifnonnullO (tgt := 53) F dX5_missing_46 (by decide) (fun b1 hb1 => ?_) (fun hb1 => ?_)
        · obtain ⟨z, hsome⟩ : ∃ z, ((fnd (ySt v (v.1 1214 (eN v 1204 16 i))) 96).or (fnd (yWk v (v.1 1214 (eN v 1204 16 i))) 96)) = some z := by
            cases hs : fnd (ySt v (v.1 1214 (eN v 1204 16 i))) 96 with
            | some z => exact ⟨z, rfl⟩
            | none =>
              cases hk : fnd (yWk v (v.1 1214 (eN v 1204 16 i))) 96 with
              | some z => exact ⟨z, rfl⟩
              | none => rw [hs, hk] at hb1; cases hb1
          refine r_iconst (v := 0) F dX5_missing_53 (by decide) ?_
          refine r_istore F dX5_missing_54 (by decide) ?_
          refine r_iload F dX5_missing_56 rfl ?_
          refine r_if_eq (tgt := 73) F dX5_missing_58 (by decide) (fun _ => ?_) (fun h9 => absurd rfl h9)
          have hnb : ¬ mS v (eN v 1204 16 i) := fun h => h.2.elim (fun q => c28 q) (fun q => by rw [mng_or c28] at q; rw [hsome] at q; cases q.2)
          refine r_iinc F dX5_missing_73 rfl (by decide) ?_
          refine r_goto (tgt := 2) F dX5_missing_76 (by decide) ?_
          refine zsub (lv' := [(2, .int (nI (i + 1))), (0, .ref (ad 6)), (1, .ref (ad 36))]) (by rw [show nI (i + 1) = nI i + Int32.ofInt 1 from (nI_add i 1).symm]; simp [zs1, Value.category, show ((1 : Fin 4) : Nat) = 1 from rfl, show ((2 : Fin 4) : Nat) = 2 from rfl, show ((3 : Fin 4) : Nat) = 3 from rfl]) ?_
          exact ih (n - 1) _ _ (by omega) ⟨i + 1, by omega, rfl, fst_s (by decide) hc hst hnb, rfl⟩
        · have hnone : ((fnd (ySt v (v.1 1214 (eN v 1204 16 i))) 96).or (fnd (yWk v (v.1 1214 (eN v 1204 16 i))) 96)) = none := by
            cases hs : fnd (ySt v (v.1 1214 (eN v 1204 16 i))) 96 with
            | some z => rw [hs] at hb1; cases hb1
            | none =>
              cases hk : fnd (yWk v (v.1 1214 (eN v 1204 16 i))) 96 with
              | some z => rw [hs, hk] at hb1; cases hb1
              | none => rfl
          refine r_iconst (v := 1) F dX5_missing_49 (by decide) ?_
          refine r_goto (tgt := 54) F dX5_missing_50 (by decide) ?_
          refine r_istore F dX5_missing_54 (by decide) ?_
          refine r_iload F dX5_missing_56 rfl ?_
          refine r_if_eq (tgt := 73) F dX5_missing_58 (by decide) (fun h9 => absurd h9 (by decide)) (fun _ => ?_)
          refine r_aload_n F dX5_missing_61 rfl ?_
          refine c_Vi (ci := 9) F G (c_defines hH hYi hy rfl) (cwV 0 F.2.2.2.2 (zgV km_X5_56 ki_X8_defines ke_X8_X8_defines kn_X8 ko_X8_defines) rfl rfl rfl ⟨rfl, hd_yX8_defines⟩ ⟨Nat.le_of_ble_eq_true rfl, Nat.le_of_ble_eq_true rfl⟩) rfl (by decide) gA rfl rfl (Nat.le_of_ble_eq_true rfl) dX5_missing_62 ⟨Nat.le_of_ble_eq_true rfl, Nat.le_of_ble_eq_true rfl⟩ (fun r62 S62 h62 => ?_)
          obtain ⟨a62, e62⟩ := h62
          have hs62 := e62.symm
          subst hs62
          refine r_if_ne (tgt := 73) F dX5_missing_65 (by decide) (fun c65 => ?_) (fun c65 => ?_)
          · have hnb : ¬ mS v (eN v 1204 16 i) := fun h => a62.t c65 h.1
            refine r_iinc F dX5_missing_73 rfl (by decide) ?_
            refine r_goto (tgt := 2) F dX5_missing_76 (by decide) ?_
            refine zsub (lv' := [(2, .int (nI (i + 1))), (0, .ref (ad 6)), (1, .ref (ad 36))]) (by rw [show nI (i + 1) = nI i + Int32.ofInt 1 from (nI_add i 1).symm]; simp [zs1, Value.category, show ((1 : Fin 4) : Nat) = 1 from rfl, show ((2 : Fin 4) : Nat) = 2 from rfl, show ((3 : Fin 4) : Nat) = 3 from rfl]) ?_
            exact ih (n - 1) _ _ (by omega) ⟨i + 1, by omega, rfl, fst_s (by decide) hc hst hnb, rfl⟩
          · refine r_aload_n F dX5_missing_68 rfl ?_
            refine r_getiS (ci := 9) (k := 0) (id := 900) (C := RX8) (T := TX8) (N := 8) F G rfl (by decide) (by decide) rfl (zinL inG9) (zin kf_X5_60) (fun _ h9 => h9) dX5_missing_69 gA J2 ?_
            exact e_iret F hr hlk ⟨rfl, Or.inr ⟨(eN v 1204 16 i), hy, ⟨ht, ⟨Decidable.not_not.mp (a62.f c65), Or.inr ⟨c35, by rw [mng_or c28]; exact hnone⟩⟩⟩, fst_i (by decide) hc hi hst, rfl⟩⟩ (by decide) (by decide) dX5_missing_72
set_option maxRecDepth 100000 in
set_option maxHeartbeats 4000000 in
theorem c_otherKind {l : Launch} {N0 t0 : Nat} {D : va_G} {cy : Nat → ClassId} {S : zS} {X : Nat → Prop} {S0 : zS} {ad : Nat → Nat} {W : zO} (hH : zH t0 X S0 ad W S) {v : zV} {a b : Nat} (hw : wr W) (hv : vRg v) (a6 : oa W 6) (hYs : ∀ y, y < 96 → y % 16 < cn v 1204 (y / 16) → rpY v W y) (hN : nmS v W 96) (ea : ad 6 = a) (eb : ad 36 = b) (hL : vl W 36 (pS v 1204 6) (fun i => 900 + 2 * eN v 1204 16 i)) : zMi l yX5_otherKind (zws yX5_otherKind cX5_otherKind 5 (some .int)) { frames := 3, cells := 0, slots := 0, locals := 65 } N0 t0 D cy S [.ref a, .ref b] (fun r S' => S' = S ∧ ((r = -1 ∧ ∀ z, z < 96 → ¬ (z % 16 < cn v 1204 (z / 16) ∧ oK v z)) ∨ ∃ y, y < 96 ∧ (y % 16 < cn v 1204 (y / 16) ∧ oK v y) ∧ (∀ z, z < y → ¬ (z % 16 < cn v 1204 (z / 16) ∧ oK v z)) ∧ r = nI (plY y))) 0 0 := by
  refine zMi.of (cc := cX5_otherKind) (maxL := 5) (ret := (some .int)) (by decide) rfl (Nat.le_of_ble_eq_true rfl) ?_
  intro p e s m args below meth c F G hr hlk hnm
  subst ea
  subst eb
  have hc : ∀ o, o < 6 → cn v 1204 o ≤ 16 := fun o ho => (rg_1204 hv ho).2
  have hNb := pS_b (v := v) (t := 1204) (M := 16) hc 6 (Nat.le_refl _)
  have A0 : zA S (ad 6) 6 := hH.al a6 rfl rfl
  have L0 : zA S (ad 36) 0 := hL.al hH rfl rfl
  have L1 : zi S 2 (ad 36) = nI (pS v 1204 6) := hL.z hH rfl rfl
  have L2 : zq S 1 (ad 36) = some (vlq t0 ad W 36) := hL.E hH rfl rfl
  have a16 : oa W 16 := hw.a a6 (id := 600) (by decide) rfl
  have n16 : onn W 16 = 31 := hw.n a6 (id := 600) (by decide) rfl (by decide)
  have Q1 : zq S 600 (ad 6) = some (ad 16) := hH.qS a6 rfl (by decide) (hw.q a6 (by decide) rfl) rfl
  refine r_iconst (v := 0) F dX5_otherKind_0 (by decide) ?_
  refine r_istore_n F dX5_otherKind_1 (by decide) ?_
  refine z_loop (fun n S9 lv => ∃ i, i + n = pS v 1204 6 ∧ S = S9 ∧ (∀ z, z < 6 * 16 → z % 16 < cn v 1204 (z / 16) → pN v 1204 16 z < i → ¬ oK v z) ∧ lv = [(2, .int (nI i)), (0, .ref (ad 6)), (1, .ref (ad 36))]) (pS v 1204 6) ?_ ⟨0, by omega, rfl, fun z _ _ h9 => absurd h9 (Nat.not_lt_zero _), rfl⟩
  rintro n S9 lv ⟨i, hn9, rfl, hst, rfl⟩ ih
  refine r_iload_n F dX5_otherKind_2 rfl ?_
  refine r_aload_n F dX5_otherKind_3 rfl ?_
  refine c_Fi (ci := 0) F G (k_ListSize L0) (va_cwF 0 F.2.2.2.2 (zgF km_X5_23 ke_Jx4a65c_Jxbd725_size ki_Jx4a65c_size_8abf5 kn_Jx4a65c ko_Jx4a65c_size_8abf5) rfl rfl rfl (G.2.2.2.2.1 (⟨"java/util/List", "size", "()I"⟩, yJx4a65c_size_8abf5) (List.mem_of_getElem? (i := 0) rfl)) hdF_size ⟨Nat.le_of_ble_eq_true rfl, Nat.le_of_ble_eq_true rfl⟩) rfl (by decide) L0 rfl rfl (Nat.le_of_ble_eq_true rfl) dX5_otherKind_4 ⟨Nat.le_of_ble_eq_true rfl, Nat.le_of_ble_eq_true rfl⟩ (fun r4 S4 h4 => ?_)
  obtain ⟨h4a, h4b⟩ := h4
  have h4c := h4b.symm
  subst h4c
  rw [L1] at h4a
  subst h4a
  refine r_icmp_ge (tgt := 70) F dX5_otherKind_9 (by decide) (fun c9 => ?_) (fun c9 => ?_)
  · refine r_iconst (v := -1) F dX5_otherKind_70 (by decide) ?_
    exact e_iret F hr hlk ⟨rfl, Or.inl ⟨rfl, fun z hz h9 => hst z hz h9.1 (by have h8 := pN_top (v := v) (t := 1204) (M := 16) (by decide) hz h9.1; rw [nI_leI (by omega) (by omega)] at c9; omega) h9.2⟩⟩ (by decide) (by decide) dX5_otherKind_71
  · have hi : i < pS v 1204 6 := by rw [nI_leI (by omega) (by omega)] at c9; omega
    obtain ⟨hy, ht, hp⟩ := eN_t (v := v) (t := 1204) (M := 16) (by decide) hc hi
    have gg := hL.get hH rfl hi
    have hYi := hYs (eN v 1204 16 i) hy ht
    have gA : zA S (ad (cY (eN v 1204 16 i))) 9 := hH.al hYi.1 rfl (kd_y _ hy)
    have k9 : kd (cY (eN v 1204 16 i)) < 13 := by rw [kd_y _ hy]; decide
    have J0 : zi S 903 (ad (cY (eN v 1204 16 i))) = v.1 1216 (eN v 1204 16 i) := (hH.i hYi.1 rfl k9).trans hYi.2.2.2.2.1
    have hnm := rg_1214 hv hy
    have hnm2 := hnm.2
    have J1 : zi S 901 (ad (cY (eN v 1204 16 i))) = nI (cn v 1214 (eN v 1204 16 i)) := (hH.i hYi.1 rfl k9).trans (hYi.2.2.1.trans hnm.1)
    have J2 : zi S 900 (ad (cY (eN v 1204 16 i))) = nI (plY (eN v 1204 16 i)) := (hH.i hYi.1 rfl k9).trans hYi.2.1
    have J3 : zi S 902 (ad (cY (eN v 1204 16 i))) = v.1 1215 (eN v 1204 16 i) := (hH.i hYi.1 rfl k9).trans hYi.2.2.2.1
    refine r_aload_n F dX5_otherKind_12 rfl ?_
    refine r_iload_n F dX5_otherKind_13 rfl ?_
    refine c_Fq (ci := 0) F G (k_get L0 L2 gg.1 L1 hi gg.2.1 gg.2.2.1) (va_cwF 1 F.2.2.2.2 (zgF km_X5_29 ke_Jx4a65c_Jxbd725_get ki_Jx4a65c_get_915e3 kn_Jx4a65c ko_Jx4a65c_get_915e3) rfl rfl rfl (G.2.2.2.2.1 (⟨"java/util/List", "get", "(I)Ljava/lang/Object;"⟩, yJx4a65c_get_915e3) (List.mem_of_getElem? (i := 2) rfl)) hdF_get ⟨Nat.le_of_ble_eq_true rfl, Nat.le_of_ble_eq_true rfl⟩) rfl (by decide) L0 rfl rfl (Nat.le_of_ble_eq_true rfl) dX5_otherKind_14 ⟨Nat.le_of_ble_eq_true rfl, Nat.le_of_ble_eq_true rfl⟩ (fun r14 S14 h14 => ?_)
    obtain ⟨h14a, h14b⟩ := h14
    have h14c := h14b.symm
    subst h14c
    rw [gg.2.2.2] at h14a
    subst h14a
    refine r_cast (a := ad (cY (eN v 1204 16 i))) (ci := 9) F G gA (by decide) rfl (List.mem_of_getElem? (i := 4) rfl) (zin kc_X5_9) dX5_otherKind_19 ?_
    refine r_astore_n (x := ad (cY (eN v 1204 16 i))) F dX5_otherKind_22 (by decide) ?_
    refine r_aload_n F dX5_otherKind_23 rfl ?_
    refine r_getS (ci := 6) (k := 0) (id := 600) (C := RX5) (T := TX5) (N := 3) F G rfl (by decide) (by decide) rfl (zinL inG6) (zin kf_X5_11) (fun _ h9 => h9) dX5_otherKind_24 A0 Q1 ?_
    refine r_aload_n F dX5_otherKind_27 rfl ?_
    refine r_getiS (ci := 9) (k := 1) (id := 901) (C := RX8) (T := TX8) (N := 8) F G rfl (by decide) (by decide) rfl (zinL inG9) (zin kf_X5_41) (fun _ h9 => h9) dX5_otherKind_28 gA J1 ?_
    refine v_aldS F G hH a16 rfl rfl (by omega) (by omega) dX5_otherKind_31 ?_
    have t16 : orq W 16 (cn v 1214 (eN v 1204 16 i)) = (fnd (yFi v (nI (cn v 1214 (eN v 1204 16 i)))) 96).map cY := hN.1 (cn v 1214 (eN v 1204 16 i)) (by omega)
    rw [t16, ← hnm.1]
    refine r_astoreQ (x := ((fnd (yFi v (v.1 1214 (eN v 1204 16 i))) 96).map cY).map ad) F dX5_otherKind_32 (by decide) ?_
    refine r_aload_n F dX5_otherKind_34 rfl ?_
    refine r_getiS (ci := 9) (k := 3) (id := 903) (C := RX8) (T := TX8) (N := 8) F G rfl (by decide) (by decide) rfl (zinL inG9) (zin kf_X5_37) (fun _ h9 => h9) dX5_otherKind_35 gA J0 ?_
    refine r_iconst (v := 2) F dX5_otherKind_38 (by decide) ?_
    refine r_icmp_eq (tgt := 64) F dX5_otherKind_39 (by decide) (fun c39 => ?_) (fun c39 => ?_)
    · have hnb : ¬ oK v (eN v 1204 16 i) := fun h => h.1 c39
      refine r_iinc F dX5_otherKind_64 rfl (by decide) ?_
      refine r_goto (tgt := 2) F dX5_otherKind_67 (by decide) ?_
      refine zsub (lv' := [(2, .int (nI (i + 1))), (0, .ref (ad 6)), (1, .ref (ad 36))]) (by rw [show nI (i + 1) = nI i + Int32.ofInt 1 from (nI_add i 1).symm]; simp [zs1, Value.category, show ((1 : Fin 4) : Nat) = 1 from rfl, show ((2 : Fin 4) : Nat) = 2 from rfl, show ((3 : Fin 4) : Nat) = 3 from rfl]) ?_
      exact ih (n - 1) _ _ (by omega) ⟨i + 1, by omega, rfl, fst_s (by decide) hc hst hnb, rfl⟩
    · refine r_aloadQ (x := ((fnd (yFi v (v.1 1214 (eN v 1204 16 i))) 96).map cY).map ad) F dX5_otherKind_42 rfl ?_
      refine r_ifnullO (tgt := 64) F dX5_otherKind_44 (by decide) (fun hb1 => ?_) (fun b1 hb1 => ?_)
      · have hnone : (fnd (yFi v (v.1 1214 (eN v 1204 16 i))) 96) = none := by
          cases hs : (fnd (yFi v (v.1 1214 (eN v 1204 16 i))) 96) with
          | some z => rw [hs] at hb1; cases hb1
          | none => rfl
        have hnb : ¬ oK v (eN v 1204 16 i) := fun h => by obtain ⟨_, z, h1, _⟩ := h; have h2 := fnd_iff.mp h1; rw [fnd_none.mp hnone z (by omega)] at h2; cases h2.2.1
        refine r_iinc F dX5_otherKind_64 rfl (by decide) ?_
        refine r_goto (tgt := 2) F dX5_otherKind_67 (by decide) ?_
        refine zsub (lv' := [(2, .int (nI (i + 1))), (0, .ref (ad 6)), (1, .ref (ad 36))]) (by rw [show nI (i + 1) = nI i + Int32.ofInt 1 from (nI_add i 1).symm]; simp [zs1, Value.category, show ((1 : Fin 4) : Nat) = 1 from rfl, show ((2 : Fin 4) : Nat) = 2 from rfl, show ((3 : Fin 4) : Nat) = 3 from rfl]) ?_
        exact ih (n - 1) _ _ (by omega) ⟨i + 1, by omega, rfl, fst_s (by decide) hc hst hnb, rfl⟩
      · obtain ⟨z, hz⟩ : ∃ z, (fnd (yFi v (v.1 1214 (eN v 1204 16 i))) 96) = some z := by
          cases hs : (fnd (yFi v (v.1 1214 (eN v 1204 16 i))) 96) with
          | some z => exact ⟨z, rfl⟩
          | none => rw [hs] at hb1; cases hb1
        obtain ⟨z1, z2, z3⟩ := fnd_iff.mp hz
        have z4 : z % 16 < cn v 1204 (z / 16) := by unfold yFi at z2; simp at z2; exact z2.1.1
        have hZi := hYs z z1 z4
        have gZ : zA S (ad (cY z)) 9 := hH.al hZi.1 rfl (kd_y _ z1)
        have K3 : zi S 902 (ad (cY z)) = v.1 1215 z := (hH.i hZi.1 rfl (by rw [kd_y _ z1]; decide)).trans hZi.2.2.2.1
        have hyf := yFi_t ht c39 rfl
        refine r_aloadQ (x := (((fnd (yFi v (v.1 1214 (eN v 1204 16 i))) 96)).map cY).map ad) F dX5_otherKind_47 rfl ?_
        rw [hz]
        show zW p l e _ s m args below meth c _ N0 D cy _ _ _ S _ _ (.ref (ad (cY z)) :: _)
        refine r_getiS (ci := 9) (k := 2) (id := 902) (C := RX8) (T := TX8) (N := 8) F G rfl (by decide) (by decide) rfl (zinL inG9) (zin kf_X5_63) (fun _ h9 => h9) dX5_otherKind_49 gZ K3 ?_
        refine r_aload_n F dX5_otherKind_52 rfl ?_
        refine r_getiS (ci := 9) (k := 2) (id := 902) (C := RX8) (T := TX8) (N := 8) F G rfl (by decide) (by decide) rfl (zinL inG9) (zin kf_X5_63) (fun _ h9 => h9) dX5_otherKind_53 gA J3 ?_
        refine r_icmp_eq (tgt := 64) F dX5_otherKind_56 (by decide) (fun c56 => ?_) (fun c56 => ?_)
        · have hnb : ¬ oK v (eN v 1204 16 i) := fun h => (oK_iff hy c39 hyf hz).mp h c56
          refine r_iinc F dX5_otherKind_64 rfl (by decide) ?_
          refine r_goto (tgt := 2) F dX5_otherKind_67 (by decide) ?_
          refine zsub (lv' := [(2, .int (nI (i + 1))), (0, .ref (ad 6)), (1, .ref (ad 36))]) (by rw [show nI (i + 1) = nI i + Int32.ofInt 1 from (nI_add i 1).symm]; simp [zs1, Value.category, show ((1 : Fin 4) : Nat) = 1 from rfl, show ((2 : Fin 4) : Nat) = 2 from rfl, show ((3 : Fin 4) : Nat) = 3 from rfl]) ?_
          exact ih (n - 1) _ _ (by omega) ⟨i + 1, by omega, rfl, fst_s (by decide) hc hst hnb, rfl⟩
        · refine r_aload_n F dX5_otherKind_59 rfl ?_
          refine r_getiS (ci := 9) (k := 0) (id := 900) (C := RX8) (T := TX8) (N := 8) F G rfl (by decide) (by decide) rfl (zinL inG9) (zin kf_X5_60) (fun _ h9 => h9) dX5_otherKind_60 gA J2 ?_
          exact e_iret F hr hlk ⟨rfl, Or.inr ⟨(eN v 1204 16 i), hy, ⟨ht, (oK_iff hy c39 hyf hz).mpr c56⟩, fst_i (by decide) hc hi hst, rfl⟩⟩ (by decide) (by decide) dX5_otherKind_63
