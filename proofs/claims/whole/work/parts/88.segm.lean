theorem sz_of {x : Int32} (h : pIn x 1 64) : ∃ z, z ≤ 64 ∧ 1 ≤ z ∧ x = nI z := by
  have h1 : ¬ x < 0 := fun h9 => h.1 (by
    rw [Int32.lt_iff_toInt_lt] at h9 ⊢
    have : (0 : Int32).toInt = 0 := by decide
    have : (1 : Int32).toInt = 1 := by decide
    omega)
  obtain ⟨z, hz, e⟩ := (pIn_iff (n := 64) (by decide)).mp ⟨h1, h.2⟩
  refine ⟨z, hz, ?_, e⟩
  have h2 := h.1
  rw [e, nl1, nI_ltI (by omega) (by omega)] at h2
  omega
set_option maxRecDepth 100000 in
set_option maxHeartbeats 4000000 in
theorem c_segment {l : Launch} {N0 t0 : Nat} {D : va_G} {cy : Nat → ClassId} {S : zS} (hl : l.stackTraces = false) {X : Nat → Prop} {S0 : zS} {ad : Nat → Nat} {W : zO} (hH : zH t0 X S0 ad W S) {v : zV} (hR : Rep v W) (hv : vRg v) (hZ : vZ v) {a : Nat} {o x1 x2 : Int32} (ea : ad 2 = a) : zTi l yX11_segment (zws yX11_segment cX11_segment 6 (some .int)) { frames := 8, cells := 9, slots := 140, locals := 169 } N0 t0 D cy S [.ref a, .int o, .int x1, .int x2] (fun r S' => (gO v o ∧ pIn x1 1 64 ∧ pIn x2 0 4) ∧ ∃ i, i < cn v 1201 0 ∧ o = nI i ∧ ¬ v.1 1203 i = 4 ∧ r = v.1 1203 i ∧ ∃ (ad' : Nat → Nat) (W' : zO), zH t0 X S0 ad' W' S' ∧ keepA W ad ad' ∧ Rep (vSeg v i x1 x2) W' ∧ ∀ d, 44 ≤ d → d < 50 → W' d = W d) (fun E S' => S' = S ∧ ((¬ (gO v o ∧ pIn x1 1 64 ∧ pIn x2 0 4) ∧ E = zIAE) ∨ ((gO v o ∧ pIn x1 1 64 ∧ pIn x2 0 4) ∧ (∃ i, i < cn v 1201 0 ∧ o = nI i ∧ v.1 1203 i = 4) ∧ E = zISE))) 9 140 := by
  refine zTi.of (cc := cX11_segment) (maxL := 6) (ret := (some .int)) (by decide) rfl (Nat.le_of_ble_eq_true rfl) ?_
  intro p e s m args below meth c F G hr hlk hnm htb
  subst ea
  obtain ⟨A0, Q0, L0, L1, L2⟩ := hR.lin hH
  have hn0 := (rg_1201 hv (k := 0) (by decide)).2
  refine r_aload_n F dX11_segment_0 rfl ?_
  refine r_iload_n F dX11_segment_1 rfl ?_
  refine t_Vq (ci := 11) F G htb hlk (c_unitAt hl hH hR hv rfl) (cwV 1 F.2.2.2.2 (zgV km_X11_76 ki_X11_unitAt ke_X11_X11_unitAt kn_X11 ko_X11_unitAt) rfl rfl rfl ⟨rfl, hd_yX11_unitAt⟩ ⟨Nat.le_of_ble_eq_true rfl, Nat.le_of_ble_eq_true rfl⟩) rfl (by decide) A0 rfl rfl (Nat.le_of_ble_eq_true rfl) dX11_segment_2 ⟨Nat.le_of_ble_eq_true rfl, Nat.le_of_ble_eq_true rfl⟩ (fun E S' h => ⟨h.2.2, Or.inl ⟨fun q => h.1 q.1, h.2.1⟩⟩) (Nat.le_of_ble_eq_true rfl) (Nat.le_of_ble_eq_true rfl) (fun r2 S2 h2 => ?_)
  obtain ⟨h2a, i, hi, ei, h2b⟩ := h2
  have h2c := h2a.symm
  subst h2c
  subst ei
  subst h2b
  have hi6 : i < 6 := by omega
  have hg := rg_1203 hv hi6
  obtain ⟨n, en⟩ : ∃ n, cn v 1203 i = n := ⟨_, rfl⟩
  have hn : v.1 1203 i = nI n := by rw [← en]; exact hg.1
  have hnM := hg.2
  rw [en] at hnM
  have hk := kd_u i hi6
  have hU := hR.2.2.2.1 i hi
  have U0 : zA S (ad (100 + 8 * i)) 10 := hH.al hU.1 rfl hk.1
  have Q1 : zq S 1001 (ad (100 + 8 * i)) = some (ad ((100 + 8 * i) + 4)) := hH.qS hU.1 rfl (by rw [hk.1]; decide) (hR.1.q hU.1 (by decide) hk.1) rfl
  have M0 : zA S (ad ((100 + 8 * i) + 4)) 0 := hU.2.2.1.al hH hk.2.2.2.1 rfl
  have M1 : zi S 2 (ad ((100 + 8 * i) + 4)) = nI n := by rw [← en]; exact hU.2.2.1.z hH hk.2.2.2.1 rfl
  refine r_astore (x := ad (100 + 8 * i)) F dX11_segment_5 (by decide) ?_
  refine r_iload_n F dX11_segment_7 rfl ?_
  refine r_iconst (v := 1) F dX11_segment_8 (by decide) ?_
  refine r_icmp_lt (tgt := 22) F dX11_segment_9 (by decide) (fun c9 => ?_) (fun c9 => ?_)
  · refine r_iconst (v := 0) F dX11_segment_22 (by decide) ?_
    refine t_Sv F G htb hlk (k_require hl _) (va_cwS 1 F.2.2.2.2 (zgS km_X11_102 ks_X11_require kn_X11 ko_X11_require) rfl rfl rfl hd_yX11_require ⟨Nat.le_of_ble_eq_true rfl, Nat.le_of_ble_eq_true rfl⟩) rfl rfl (Nat.le_of_ble_eq_true rfl) dX11_segment_23 ⟨Nat.le_of_ble_eq_true rfl, Nat.le_of_ble_eq_true rfl⟩ (fun E S' h => ⟨h.2.2, Or.inl ⟨fun q => q.2.1.1 c9, h.2.1⟩⟩) (Nat.le_of_ble_eq_true rfl) (Nat.le_of_ble_eq_true rfl) (fun S23 h23 => ?_)
    exact absurd rfl h23.1
  · refine r_iload_n F dX11_segment_12 rfl ?_
    refine r_bipush (v := 64) F dX11_segment_13 (by decide) ?_
    refine r_icmp_gt (tgt := 22) F dX11_segment_15 (by decide) (fun c15 => ?_) (fun c15 => ?_)
    · refine r_iconst (v := 0) F dX11_segment_22 (by decide) ?_
      refine t_Sv F G htb hlk (k_require hl _) (va_cwS 1 F.2.2.2.2 (zgS km_X11_102 ks_X11_require kn_X11 ko_X11_require) rfl rfl rfl hd_yX11_require ⟨Nat.le_of_ble_eq_true rfl, Nat.le_of_ble_eq_true rfl⟩) rfl rfl (Nat.le_of_ble_eq_true rfl) dX11_segment_23 ⟨Nat.le_of_ble_eq_true rfl, Nat.le_of_ble_eq_true rfl⟩ (fun E S' h => ⟨h.2.2, Or.inl ⟨fun q => absurd c15 (Int32.not_lt.mpr q.2.1.2), h.2.1⟩⟩) (Nat.le_of_ble_eq_true rfl) (Nat.le_of_ble_eq_true rfl) (fun S23 h23 => ?_)
      exact absurd rfl h23.1
    · refine r_iconst (v := 1) F dX11_segment_18 (by decide) ?_
      refine r_goto (tgt := 23) F dX11_segment_19 (by decide) ?_
      refine t_Sv F G htb hlk (k_require hl _) (va_cwS 1 F.2.2.2.2 (zgS km_X11_102 ks_X11_require kn_X11 ko_X11_require) rfl rfl rfl hd_yX11_require ⟨Nat.le_of_ble_eq_true rfl, Nat.le_of_ble_eq_true rfl⟩) rfl rfl (Nat.le_of_ble_eq_true rfl) dX11_segment_23 ⟨Nat.le_of_ble_eq_true rfl, Nat.le_of_ble_eq_true rfl⟩ (fun E S' h => absurd h.1 (by decide)) (Nat.le_of_ble_eq_true rfl) (Nat.le_of_ble_eq_true rfl) (fun S23 h23 => ?_)
      obtain ⟨h23a, h23b⟩ := h23
      have h23c := h23b.symm
      subst h23c
      have hsz : pIn x1 1 64 := ⟨c9, Int32.not_lt.mp c15⟩
      obtain ⟨z, hz64, hz1, ez⟩ := sz_of hsz
      subst ez
      refine r_iload_n F dX11_segment_26 rfl ?_
      refine r_iconst (v := 4) F dX11_segment_27 (by decide) ?_
      refine t_Sv F G htb hlk (k_requireWithin hl _ _) (va_cwS 2 F.2.2.2.2 (zgS km_X11_80 ks_X11_requireWithin kn_X11 ko_X11_requireWithin) rfl rfl rfl hd_yX11_requireWithin ⟨Nat.le_of_ble_eq_true rfl, Nat.le_of_ble_eq_true rfl⟩) rfl rfl (Nat.le_of_ble_eq_true rfl) dX11_segment_28 ⟨Nat.le_of_ble_eq_true rfl, Nat.le_of_ble_eq_true rfl⟩ (fun E S' h => ⟨h.2.2, Or.inl ⟨fun q => h.1 q.2.2, h.2.1⟩⟩) (Nat.le_of_ble_eq_true rfl) (Nat.le_of_ble_eq_true rfl) (fun S28 h28 => ?_)
      obtain ⟨h28a, h28b⟩ := h28
      have h28c := h28b.symm
      subst h28c
      refine r_aload F dX11_segment_31 rfl ?_
      refine r_getS (ci := 10) (k := 1) (id := 1001) (C := RX9) (T := TX9) (N := 3) F G rfl (by decide) (by decide) rfl (zinL inG10) (zin kf_X11_106) (fun _ h9 => h9) dX11_segment_33 U0 Q1 ?_
      refine c_Fi (ci := 0) F G (k_ListSize M0) (va_cwF 0 F.2.2.2.2 (zgF km_X11_59 ke_Jx4a65c_Jxbd725_size ki_Jx4a65c_size_8abf5 kn_Jx4a65c ko_Jx4a65c_size_8abf5) rfl rfl rfl (G.2.2.2.2.1 (⟨"java/util/List", "size", "()I"⟩, yJx4a65c_size_8abf5) (List.mem_of_getElem? (i := 0) rfl)) hdF_size ⟨Nat.le_of_ble_eq_true rfl, Nat.le_of_ble_eq_true rfl⟩) rfl (by decide) M0 rfl rfl (Nat.le_of_ble_eq_true rfl) dX11_segment_36 ⟨Nat.le_of_ble_eq_true rfl, Nat.le_of_ble_eq_true rfl⟩ (fun r36 S36 h36 => ?_)
      obtain ⟨h36a, h36b⟩ := h36
      have h36c := h36b.symm
      subst h36c
      rw [M1] at h36a
      subst h36a
      refine r_istore F dX11_segment_41 (by decide) ?_
      refine r_iload F dX11_segment_43 rfl ?_
      refine r_iconst (v := 4) F dX11_segment_45 (by decide) ?_
      refine t_Sv F G htb hlk (k_requireRoom hl _ _) (va_cwS 2 F.2.2.2.2 (zgS km_X11_65 ks_X11_requireRoom kn_X11 ko_X11_requireRoom) rfl rfl rfl hd_yX11_requireRoom ⟨Nat.le_of_ble_eq_true rfl, Nat.le_of_ble_eq_true rfl⟩) rfl rfl (Nat.le_of_ble_eq_true rfl) dX11_segment_46 ⟨Nat.le_of_ble_eq_true rfl, Nat.le_of_ble_eq_true rfl⟩ (fun E S' h => ⟨h.2.2, Or.inr ⟨⟨⟨i, hi, rfl⟩, hsz, h28a⟩, ⟨i, hi, rfl, by have h9 := h.1; rw [nl4, nI_leI (by omega) (by omega)] at h9; rw [hn, nl4, show n = 4 by omega]⟩, h.2.1⟩⟩) (Nat.le_of_ble_eq_true rfl) (Nat.le_of_ble_eq_true rfl) (fun S46 h46 => ?_)
      obtain ⟨h46a, h46b⟩ := h46
      have h46c := h46b.symm
      subst h46c
      have hn7 : n < 4 := by rw [nl4, nI_leI (by omega) (by omega)] at h46a; omega
      refine r_aload_n F dX11_segment_49 rfl ?_
      refine r_iconst (v := 0) F dX11_segment_50 (by decide) ?_
      refine r_puti (ci := 11) (k := 6) (id := 1106) (C := RX11) (T := TX11) (N := 8) (ty := .boolean) (ty0 := tyX11) F G rfl (by decide) (by decide) rfl (zinL inG11) (zin kf_X11_51) (fun _ h9 => h9) tyX11_ok nmX11 rfl pd11_6 rfl rfl dX11_segment_51 A0 ?_
      refine zgen (P := zH t0 X S0 ad (oI W 2 1106 0)) (hH.pi (id := 1106) hR.2.1 rfl rfl (by decide) 0) (fun S hH => ?_)
      have hR1 : Rep (u1 (u1 v 1200 0 0) 1219 0 0) (oI W 2 1106 0) := hR.unl
      obtain ⟨W1, eW⟩ : ∃ W1, W1 = (oI W 2 1106 0) := ⟨_, rfl⟩
      rw [← eW] at hH hR1
      have hZ1 : vZ (u1 (u1 v 1200 0 0) 1219 0 0) := hZ
      have hn1 : ((u1 (u1 v 1200 0 0) 1219 0 0)).1 1203 i = nI n := hn
      have hO1 : cn (u1 (u1 v 1200 0 0) 1219 0 0) 1201 0 ≤ 6 := hn0
      have hi1 : i < cn (u1 (u1 v 1200 0 0) 1219 0 0) 1201 0 := hi
      have hU1 := hR1.2.2.2.1 i hi
      have en1 : cn (u1 (u1 v 1200 0 0) 1219 0 0) 1203 i = n := en
      rw [rpU, en1] at hU1
      have U1 : zA S (ad (100 + 8 * i)) 10 := hH.al hU1.1 rfl hk.1
      have Q2 : zq S 1001 (ad (100 + 8 * i)) = some (ad ((100 + 8 * i) + 4)) := hH.qS hU1.1 rfl (by rw [hk.1]; decide) (hR1.1.q hU1.1 (by decide) hk.1) rfl
      have hfree : ∀ k, k < 4 → ¬ oa W1 ((800 + 4 * (4 * i + n)) + k) := fun k hk9 h9 => by
        rcases hR1.2.2.2.2.2.2.2.1 _ h9 with q | q | q | q | q
        · omega
        · omega
        · omega
        · have q3 := q.2.2
          rw [show ((800 + 4 * (4 * i + n)) + k - 800) / 4 = 4 * i + n by omega, show (4 * i + n) % 4 = n by omega, show (4 * i + n) / 4 = i by omega, en1] at q3
          omega
        · omega
      have hkr := kd_g (4 * i + n) (by omega)
      have hkr0 := hkr.1
      refine r_aload F dX11_segment_54 rfl ?_
      refine r_getS (ci := 10) (k := 1) (id := 1001) (C := RX9) (T := TX9) (N := 3) F G rfl (by decide) (by decide) rfl (zinL inG10) (zin kf_X11_106) (fun _ h9 => h9) dX11_segment_56 U1 Q2 ?_
      refine r_new (ci := 8) (C := RX7) (T := TX7) (N := 3) (ty0 := tyX7) F G rfl (by decide) (zinL inG8) tyX7_ok dvG8 (zin kc_X11_109) (zin kb_X7) (zin kn_X7) (by decide) (by decide) dX11_segment_59 (fun q59 hq59 => ?_)
      have hB0 : ¬ oa W1 (800 + 4 * (4 * i + n)) := hfree 0 (by omega)
      have hH2 := hH.newo hB0 (by omega) hq59 hkr0 (by decide)
      obtain ⟨ad2, ead2⟩ : ∃ x, x = va_up ad (800 + 4 * (4 * i + n)) q59 := ⟨_, rfl⟩
      obtain ⟨W2, eW2⟩ : ∃ x, x = va_up W1 (800 + 4 * (4 * i + n)) eNo := ⟨_, rfl⟩
      rw [← ead2, ← eW2] at hH2
      have a2B : ad2 (800 + 4 * (4 * i + n)) = q59 := by rw [ead2]; exact va_up_self _ _ _
      have a2o : ∀ d, d ≠ (800 + 4 * (4 * i + n)) → ad d = ad2 d := fun d hd => by rw [ead2]; exact (va_up_ne _ _ hd).symm
      have w2B : W2 (800 + 4 * (4 * i + n)) = eNo := by rw [eW2]; exact va_up_self _ _ _
      have w2o : ∀ d, d ≠ (800 + 4 * (4 * i + n)) → W2 d = W1 d := fun d hd => by rw [eW2]; exact va_up_ne _ _ hd
      rw [a2o 2 (by omega), a2o (100 + 8 * i) (by omega), a2o ((100 + 8 * i) + 4) (by omega)]
      refine zgen (P := zH t0 X S0 ad2 W2) hH2 (fun S hH => ?_)
      have hf2 : ¬ oa W2 ((800 + 4 * (4 * i + n)) + 2) := fun h9 => hfree 2 (by omega) (oa_same (w2o _ (by omega)) h9)
      refine r_dup F dX11_segment_62 rfl ?_
      refine r_iload_n F dX11_segment_63 rfl ?_
      refine r_iload_n F dX11_segment_64 rfl ?_
      refine c_Iv F G (c_SegmentInit hH (n := (800 + 4 * (4 * i + n))) (z := z) a2B hkr.1 (by omega) w2B hf2 hkr.2 hz64) (cwI 2 F.2.2.2.2 (zgI ko_X7_init) rfl rfl rfl (F.2.2.2.2 _ (zin kn_X7)) (F.2.2.2.2 _ (zin km_X11_111)) (F.2.2.2.2 _ (zin ki_X7_init)) rfl hd_yX7_init ⟨Nat.le_of_ble_eq_true rfl, Nat.le_of_ble_eq_true rfl⟩) rfl rfl (Nat.le_of_ble_eq_true rfl) dX11_segment_65 ⟨by show _ + 1 ≤ 9; omega, by show _ + z ≤ 140; omega⟩ (fun S65 h65 => ?_)
      obtain ⟨ad3, W3, hH3, g3, w3o, w3B, c2⟩ := h65
      have a3B : ad3 (800 + 4 * (4 * i + n)) = q59 := (g3 (800 + 4 * (4 * i + n)) (by omega)).trans a2B
      have hl3 : vl W3 ((100 + 8 * i) + 4) n (fun j => 800 + 4 * (4 * i + j)) := hU1.2.2.1.same ((w3o _ (by omega) (by omega)).trans (w2o _ (by omega))) ((w3o _ (by omega) (by omega)).trans (w2o _ (by omega)))
      have hB3 : oa W3 (800 + 4 * (4 * i + n)) := oa_eq w3B trivial
      have hm : ad2 ((100 + 8 * i) + 4) = ad3 ((100 + 8 * i) + 4) := (g3 _ (by omega)).symm
      rw [hm, ← a3B]
      have M3 : zA S65 (ad3 ((100 + 8 * i) + 4)) 0 := hl3.al hH3 hk.2.2.2.1 rfl
      have hrow := hl3.row hH3 hk.2.2.2.2.1 (ci := 8) (fun j hj => (kd_g (4 * i + j) (by omega)).1) (by omega)
      have hch := chb n (by omega)
      refine c_Fi (ci := 0) F G (k_add M3 (hl3.E hH3 hk.2.2.2.1 rfl) (hl3.z hH3 hk.2.2.2.1 rfl) (ci := 8) (by decide) rfl (List.mem_of_getElem? (i := 7) rfl) (hH3.al hB3 rfl hkr.1) hrow) (va_cwF 1 F.2.2.2.2 (zgF km_X11_72 ke_Jx4a65c_Jxbd725_add ki_Jx4a65c_add_9ea2d kn_Jx4a65c ko_Jx4a65c_add_9ea2d) rfl rfl rfl (G.2.2.2.2.1 (⟨"java/util/List", "add", "(Ljava/lang/Object;)Z"⟩, yJx4a65c_add_9ea2d) (List.mem_of_getElem? (i := 3) rfl)) hdF_add ⟨Nat.le_of_ble_eq_true rfl, Nat.le_of_ble_eq_true rfl⟩) rfl (by decide) M3 rfl rfl (Nat.le_of_ble_eq_true rfl) dX11_segment_68 ⟨by show _ + chC n ≤ 9; omega, by show _ + chS n ≤ 140; omega⟩ (fun r68 S68 h68 => ?_)
      obtain ⟨q1, h68⟩ := h68
      obtain ⟨ad4, W4, hH4, g4, hl4, w4o⟩ := hl3.add hH3 (by omega) hk.2.2.2.1 hk.2.2.2.2.1 hB3 (by omega) rfl rfl h68
      refine r_pop F dX11_segment_73 rfl ?_
      refine r_iload F dX11_segment_74 rfl ?_
      have hR4 := hR1.seg hO1 hZ1 (z := z) (w := x2) hz64 hi1 hn1 hn7 (fun d d0 d2 e1 e2 => (w4o d e1 e2).trans ((w3o d d0 d2).trans (w2o d d0))) (hl4.cg (fun j hj => by
        by_cases e9 : j = n
        · subst e9; exact va_up_self _ _ _
        · exact va_up_ne _ _ e9)) ((w4o _ (by omega) (by omega)).trans w3B) ((w4o _ (by omega) (by omega)).trans c2)
      have e9 : v.1 1203 i + 1 = nI (n + 1) := by rw [hn]; exact nI_add _ 1
      have hkeep : keepA W ad ad4 := fun d hd hev => by
        have hd1 : oa W1 d := by rw [eW]; exact (oaI hR.2.1).mpr hd
        have h9 : ∀ k, k < 4 → d ≠ (800 + 4 * (4 * i + n)) + k := fun k hk9 e9 => hfree k hk9 (e9 ▸ hd1)
        rw [g4 d (by omega), g3 d (h9 2 (by omega)), a2o d (h9 0 (by omega))]
      refine x_iret F hr hlk ⟨⟨⟨i, hi, rfl⟩, hsz, h28a⟩, i, hi, rfl, fun h9 => by rw [hn, nl4, nI_eq (by omega) (by omega)] at h9; omega, hn.symm, ad4, W4, hH4, hkeep, ?_, fun d q1 q2 => ((w4o d (by omega) (by omega)).trans ((w3o d (by omega) (by omega)).trans (w2o d (by omega)))).trans (by rw [eW]; exact va_up_ne _ _ (by omega))⟩ (by show _ + chC n ≤ 9; omega) (by show _ + chS n ≤ 140; omega) dX11_segment_76
      show Rep (u1 (u1 (u1 (u1 (u1 v 1200 0 0) 1219 0 0) 1211 (4 * i + cn v 1203 i) (nI z)) 1212 (4 * i + cn v 1203 i) x2) 1203 i (v.1 1203 i + 1)) W4
      rw [e9, en]
      exact hR4
