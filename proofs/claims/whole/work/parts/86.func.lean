theorem chb : ∀ k, k < 16 → chC k ≤ 1 ∧ chS k ≤ 22 := by decide
/-- addresses stay -/
def keepA (W : zO) (ad ad' : Nat → Nat) : Prop := ∀ d, oa W d → d % 2 = 0 → ad' d = ad d
set_option maxRecDepth 100000 in
set_option maxHeartbeats 4000000 in
theorem c_function {l : Launch} {N0 t0 : Nat} {D : va_G} {cy : Nat → ClassId} {S : zS} (hl : l.stackTraces = false) {X : Nat → Prop} {S0 : zS} {ad : Nat → Nat} {W : zO} (hH : zH t0 X S0 ad W S) {v : zV} (hR : Rep v W) (hv : vRg v) (hZ : vZ v) {a : Nat} {o x1 x2 x3 : Int32} (ea : ad 2 = a) : zTi l yX11_function (zws yX11_function cX11_function 7 (some .int)) { frames := 8, cells := 14, slots := 400, locals := 169 } N0 t0 D cy S [.ref a, .int o, .int x1, .int x2, .int x3] (fun r S' => (gO v o ∧ pIn x1 0 4 ∧ pIn x2 0 1 ∧ pIn x3 0 4) ∧ ∃ i, i < cn v 1201 0 ∧ o = nI i ∧ ¬ v.1 1202 i = 8 ∧ r = v.1 1202 i ∧ ∃ (ad' : Nat → Nat) (W' : zO), zH t0 X S0 ad' W' S' ∧ keepA W ad ad' ∧ Rep (vFun v i x1 x2 x3) W' ∧ ∀ d, 44 ≤ d → d < 50 → W' d = W d) (fun E S' => S' = S ∧ ((¬ (gO v o ∧ pIn x1 0 4 ∧ pIn x2 0 1 ∧ pIn x3 0 4) ∧ E = zIAE) ∨ ((gO v o ∧ pIn x1 0 4 ∧ pIn x2 0 1 ∧ pIn x3 0 4) ∧ (∃ i, i < cn v 1201 0 ∧ o = nI i ∧ v.1 1202 i = 8) ∧ E = zISE))) 14 400 := by
  refine zTi.of (cc := cX11_function) (maxL := 7) (ret := (some .int)) (by decide) rfl (Nat.le_of_ble_eq_true rfl) ?_
  intro p e s m args below meth c F G hr hlk hnm htb
  subst ea
  obtain ⟨A0, Q0, L0, L1, L2⟩ := hR.lin hH
  have hn0 := (rg_1201 hv (k := 0) (by decide)).2
  refine r_aload_n F dX11_function_0 rfl ?_
  refine r_iload_n F dX11_function_1 rfl ?_
  refine t_Vq (ci := 11) F G htb hlk (c_unitAt hl hH hR hv rfl) (cwV 1 F.2.2.2.2 (zgV km_X11_76 ki_X11_unitAt ke_X11_X11_unitAt kn_X11 ko_X11_unitAt) rfl rfl rfl ⟨rfl, hd_yX11_unitAt⟩ ⟨Nat.le_of_ble_eq_true rfl, Nat.le_of_ble_eq_true rfl⟩) rfl (by decide) A0 rfl rfl (Nat.le_of_ble_eq_true rfl) dX11_function_2 ⟨Nat.le_of_ble_eq_true rfl, Nat.le_of_ble_eq_true rfl⟩ (fun E S' h => ⟨h.2.2, Or.inl ⟨fun q => h.1 q.1, h.2.1⟩⟩) (Nat.le_of_ble_eq_true rfl) (Nat.le_of_ble_eq_true rfl) (fun r2 S2 h2 => ?_)
  obtain ⟨h2a, i, hi, ei, h2b⟩ := h2
  have h2c := h2a.symm
  subst h2c
  subst ei
  subst h2b
  have hi6 : i < 6 := by omega
  have hg := rg_1202 hv hi6
  obtain ⟨n, en⟩ : ∃ n, cn v 1202 i = n := ⟨_, rfl⟩
  have hn : v.1 1202 i = nI n := by rw [← en]; exact hg.1
  have hn8 : n ≤ 8 := by rw [← en]; exact hg.2
  have hk := kd_u i hi6
  have hU := hR.2.2.2.1 i hi
  have U0 : zA S (ad (100 + 8 * i)) 10 := hH.al hU.1 rfl hk.1
  have Q1 : zq S 1000 (ad (100 + 8 * i)) = some (ad ((100 + 8 * i) + 2)) := hH.qS hU.1 rfl (by rw [hk.1]; decide) (hR.1.q hU.1 (by decide) hk.1) rfl
  have M0 : zA S (ad ((100 + 8 * i) + 2)) 0 := hU.2.1.al hH hk.2.1 rfl
  have M1 : zi S 2 (ad ((100 + 8 * i) + 2)) = nI n := by rw [← en]; exact hU.2.1.z hH hk.2.1 rfl
  refine r_astore (x := ad (100 + 8 * i)) F dX11_function_5 (by decide) ?_
  refine r_iload_n F dX11_function_7 rfl ?_
  refine r_iconst (v := 4) F dX11_function_8 (by decide) ?_
  refine t_Sv F G htb hlk (k_requireWithin hl _ _) (va_cwS 2 F.2.2.2.2 (zgS km_X11_80 ks_X11_requireWithin kn_X11 ko_X11_requireWithin) rfl rfl rfl hd_yX11_requireWithin ⟨Nat.le_of_ble_eq_true rfl, Nat.le_of_ble_eq_true rfl⟩) rfl rfl (Nat.le_of_ble_eq_true rfl) dX11_function_9 ⟨Nat.le_of_ble_eq_true rfl, Nat.le_of_ble_eq_true rfl⟩ (fun E S' h => ⟨h.2.2, Or.inl ⟨fun q => h.1 q.2.1, h.2.1⟩⟩) (Nat.le_of_ble_eq_true rfl) (Nat.le_of_ble_eq_true rfl) (fun S9 h9 => ?_)
  obtain ⟨h9a, h9b⟩ := h9
  have h9c := h9b.symm
  subst h9c
  refine r_iload_n F dX11_function_12 rfl ?_
  refine r_iconst (v := 1) F dX11_function_13 (by decide) ?_
  refine t_Sv F G htb hlk (k_requireWithin hl _ _) (va_cwS 2 F.2.2.2.2 (zgS km_X11_80 ks_X11_requireWithin kn_X11 ko_X11_requireWithin) rfl rfl rfl hd_yX11_requireWithin ⟨Nat.le_of_ble_eq_true rfl, Nat.le_of_ble_eq_true rfl⟩) rfl rfl (Nat.le_of_ble_eq_true rfl) dX11_function_14 ⟨Nat.le_of_ble_eq_true rfl, Nat.le_of_ble_eq_true rfl⟩ (fun E S' h => ⟨h.2.2, Or.inl ⟨fun q => h.1 q.2.2.1, h.2.1⟩⟩) (Nat.le_of_ble_eq_true rfl) (Nat.le_of_ble_eq_true rfl) (fun S14 h14 => ?_)
  obtain ⟨h14a, h14b⟩ := h14
  have h14c := h14b.symm
  subst h14c
  refine r_iload F dX11_function_17 rfl ?_
  refine r_iconst (v := 4) F dX11_function_19 (by decide) ?_
  refine t_Sv F G htb hlk (k_requireWithin hl _ _) (va_cwS 2 F.2.2.2.2 (zgS km_X11_80 ks_X11_requireWithin kn_X11 ko_X11_requireWithin) rfl rfl rfl hd_yX11_requireWithin ⟨Nat.le_of_ble_eq_true rfl, Nat.le_of_ble_eq_true rfl⟩) rfl rfl (Nat.le_of_ble_eq_true rfl) dX11_function_20 ⟨Nat.le_of_ble_eq_true rfl, Nat.le_of_ble_eq_true rfl⟩ (fun E S' h => ⟨h.2.2, Or.inl ⟨fun q => h.1 q.2.2.2, h.2.1⟩⟩) (Nat.le_of_ble_eq_true rfl) (Nat.le_of_ble_eq_true rfl) (fun S20 h20 => ?_)
  obtain ⟨h20a, h20b⟩ := h20
  have h20c := h20b.symm
  subst h20c
  refine r_aload F dX11_function_23 rfl ?_
  refine r_getS (ci := 10) (k := 0) (id := 1000) (C := RX9) (T := TX9) (N := 3) F G rfl (by decide) (by decide) rfl (zinL inG10) (zin kf_X11_83) (fun _ h9 => h9) dX11_function_25 U0 Q1 ?_
  refine c_Fi (ci := 0) F G (k_ListSize M0) (va_cwF 0 F.2.2.2.2 (zgF km_X11_59 ke_Jx4a65c_Jxbd725_size ki_Jx4a65c_size_8abf5 kn_Jx4a65c ko_Jx4a65c_size_8abf5) rfl rfl rfl (G.2.2.2.2.1 (⟨"java/util/List", "size", "()I"⟩, yJx4a65c_size_8abf5) (List.mem_of_getElem? (i := 0) rfl)) hdF_size ⟨Nat.le_of_ble_eq_true rfl, Nat.le_of_ble_eq_true rfl⟩) rfl (by decide) M0 rfl rfl (Nat.le_of_ble_eq_true rfl) dX11_function_28 ⟨Nat.le_of_ble_eq_true rfl, Nat.le_of_ble_eq_true rfl⟩ (fun r28 S28 h28 => ?_)
  obtain ⟨h28a, h28b⟩ := h28
  have h28c := h28b.symm
  subst h28c
  rw [M1] at h28a
  subst h28a
  refine r_istore F dX11_function_33 (by decide) ?_
  refine r_iload F dX11_function_35 rfl ?_
  refine r_bipush (v := 8) F dX11_function_37 (by decide) ?_
  refine t_Sv F G htb hlk (k_requireRoom hl _ _) (va_cwS 2 F.2.2.2.2 (zgS km_X11_65 ks_X11_requireRoom kn_X11 ko_X11_requireRoom) rfl rfl rfl hd_yX11_requireRoom ⟨Nat.le_of_ble_eq_true rfl, Nat.le_of_ble_eq_true rfl⟩) rfl rfl (Nat.le_of_ble_eq_true rfl) dX11_function_39 ⟨Nat.le_of_ble_eq_true rfl, Nat.le_of_ble_eq_true rfl⟩ (fun E S' h => ⟨h.2.2, Or.inr ⟨⟨⟨i, hi, rfl⟩, h9a, h14a, h20a⟩, ⟨i, hi, rfl, by have h9 := h.1; rw [nl8, nI_leI (by omega) (by omega)] at h9; rw [hn, nl8, show n = 8 by omega]⟩, h.2.1⟩⟩) (Nat.le_of_ble_eq_true rfl) (Nat.le_of_ble_eq_true rfl) (fun S39 h39 => ?_)
  obtain ⟨h39a, h39b⟩ := h39
  have h39c := h39b.symm
  subst h39c
  have hn7 : n < 8 := by rw [nl8, nI_leI (by omega) (by omega)] at h39a; omega
  refine r_aload_n F dX11_function_42 rfl ?_
  refine r_iconst (v := 0) F dX11_function_43 (by decide) ?_
  refine r_puti (ci := 11) (k := 6) (id := 1106) (C := RX11) (T := TX11) (N := 8) (ty := .boolean) (ty0 := tyX11) F G rfl (by decide) (by decide) rfl (zinL inG11) (zin kf_X11_51) (fun _ h9 => h9) tyX11_ok nmX11 rfl pd11_6 rfl rfl dX11_function_44 A0 ?_
  refine zgen (P := zH t0 X S0 ad (oI W 2 1106 0)) (hH.pi (id := 1106) hR.2.1 rfl rfl (by decide) 0) (fun S hH => ?_)
  have hR1 : Rep (u1 (u1 v 1200 0 0) 1219 0 0) (oI W 2 1106 0) := hR.unl
  obtain ⟨W1, eW⟩ : ∃ W1, W1 = (oI W 2 1106 0) := ⟨_, rfl⟩
  rw [← eW] at hH hR1
  have hZ1 : vZ (u1 (u1 v 1200 0 0) 1219 0 0) := hZ
  have hn1 : ((u1 (u1 v 1200 0 0) 1219 0 0)).1 1202 i = nI n := hn
  have hO1 : cn (u1 (u1 v 1200 0 0) 1219 0 0) 1201 0 ≤ 6 := hn0
  have hi1 : i < cn (u1 (u1 v 1200 0 0) 1219 0 0) 1201 0 := hi
  have hU1 := hR1.2.2.2.1 i hi
  have en1 : cn (u1 (u1 v 1200 0 0) 1219 0 0) 1202 i = n := en
  rw [rpU, en1] at hU1
  have U1 : zA S (ad (100 + 8 * i)) 10 := hH.al hU1.1 rfl hk.1
  have Q2 : zq S 1000 (ad (100 + 8 * i)) = some (ad ((100 + 8 * i) + 2)) := hH.qS hU1.1 rfl (by rw [hk.1]; decide) (hR1.1.q hU1.1 (by decide) hk.1) rfl
  have hkr := kd_r (8 * i + n) (by omega)
  have hfree : ∀ k, k < 12 → ¬ oa W1 ((200 + 12 * (8 * i + n)) + k) := fun k hk9 h9 => by
    rcases hR1.2.2.2.2.2.2.2.1 _ h9 with q | q | q | q | q
    · omega
    · omega
    · have q3 := q.2.2
      rw [show ((200 + 12 * (8 * i + n)) + k - 200) / 12 = 8 * i + n by omega, show (8 * i + n) % 8 = n by omega, show (8 * i + n) / 8 = i by omega, en1] at q3
      omega
    · omega
    · omega
  refine r_aload F dX11_function_47 rfl ?_
  refine r_getS (ci := 10) (k := 0) (id := 1000) (C := RX9) (T := TX9) (N := 3) F G rfl (by decide) (by decide) rfl (zinL inG10) (zin kf_X11_83) (fun _ h9 => h9) dX11_function_49 U1 Q2 ?_
  refine r_new (ci := 7) (C := RX6) (T := TX6) (N := 13) (ty0 := tyX6) F G rfl (by decide) (zinL inG7) tyX6_ok dvG7 (zin kc_X11_86) (zin kb_X6) (zin kn_X6) (by decide) (by decide) dX11_function_52 (fun q52 hq52 => ?_)
  have hB0 : ¬ oa W1 (200 + 12 * (8 * i + n)) := hfree 0 (by omega)
  have hH2 := hH.newo hB0 (by omega) hq52 hkr.1 (by decide)
  obtain ⟨ad2, ead2⟩ : ∃ x, x = va_up ad (200 + 12 * (8 * i + n)) q52 := ⟨_, rfl⟩
  obtain ⟨W2, eW2⟩ : ∃ x, x = va_up W1 (200 + 12 * (8 * i + n)) eNo := ⟨_, rfl⟩
  rw [← ead2, ← eW2] at hH2
  have a2B : ad2 (200 + 12 * (8 * i + n)) = q52 := by rw [ead2]; exact va_up_self _ _ _
  have a2o : ∀ d, d ≠ (200 + 12 * (8 * i + n)) → ad d = ad2 d := fun d hd => by rw [ead2]; exact (va_up_ne _ _ hd).symm
  have w2B : W2 (200 + 12 * (8 * i + n)) = eNo := by rw [eW2]; exact va_up_self _ _ _
  have w2o : ∀ d, d ≠ (200 + 12 * (8 * i + n)) → W2 d = W1 d := fun d hd => by rw [eW2]; exact va_up_ne _ _ hd
  rw [a2o 2 (by omega), a2o (100 + 8 * i) (by omega), a2o ((100 + 8 * i) + 2) (by omega)]
  refine zgen (P := zH t0 X S0 ad2 W2) hH2 (fun S hH => ?_)
  have hf2 : ∀ k, 0 < k → k < 12 → ¬ oa W2 ((200 + 12 * (8 * i + n)) + k) := fun k h0 hk9 h9 => hfree k hk9 (oa_same (w2o _ (by omega)) h9)
  have U2 : oa W2 (100 + 8 * i) := oa_eq (w2o _ (by omega)) hU1.1
  refine r_dup F dX11_function_55 rfl ?_
  refine r_aload F dX11_function_56 rfl ?_
  refine r_sipush (v := 1000) F dX11_function_58 (by decide) ?_
  refine r_iload_n F dX11_function_61 rfl ?_
  refine r_imul F dX11_function_62 ?_
  refine r_bipush (v := 100) F dX11_function_63 (by decide) ?_
  refine r_iload F dX11_function_65 rfl ?_
  refine r_imul F dX11_function_67 ?_
  refine r_iadd F dX11_function_68 ?_
  refine r_iload_n F dX11_function_69 rfl ?_
  refine r_iload_n F dX11_function_70 rfl ?_
  refine r_iload F dX11_function_71 rfl ?_
  rw [show (1000 : Int32) * nI i + 100 * nI n = nI (1000 * i + 100 * n) by rw [show (1000 : Int32) = nI 1000 from rfl, show (100 : Int32) = nI 100 from rfl, nI_mul, nI_mul, nI_add]]
  refine c_Iv F G (c_RoutineInit hH (n := (200 + 12 * (8 * i + n))) (b := (100 + 8 * i)) a2B hkr.1 (by omega) w2B (hf2 2 (by omega) (by omega)) (hf2 4 (by omega) (by omega)) (hf2 6 (by omega) (by omega)) (hf2 8 (by omega) (by omega)) (hf2 10 (by omega) (by omega)) hkr.2.1 hkr.2.2.1 hkr.2.2.2.1 hkr.2.2.2.2.1 hkr.2.2.2.2.2 U2 (by omega) (by omega)) (cwI 5 F.2.2.2.2 (zgI ko_X6_init) rfl rfl rfl (F.2.2.2.2 _ (zin kn_X6)) (F.2.2.2.2 _ (zin km_X11_88)) (F.2.2.2.2 _ (zin ki_X6_init)) rfl hd_yX6_init ⟨Nat.le_of_ble_eq_true rfl, Nat.le_of_ble_eq_true rfl⟩) rfl rfl (Nat.le_of_ble_eq_true rfl) dX11_function_73 ⟨Nat.le_of_ble_eq_true rfl, Nat.le_of_ble_eq_true rfl⟩ (fun S73 h73 => ?_)
  obtain ⟨ad3, W3, hH3, g3, w3o, w3B, c2, c4, c6, c8, c10⟩ := h73
  have a3B : ad3 (200 + 12 * (8 * i + n)) = q52 := (g3 (200 + 12 * (8 * i + n)) (by omega) (by omega) (by omega) (by omega) (by omega)).trans a2B
  have w3k : ∀ d, oa W1 d → W3 d = W1 d := fun d hd => by
    have h9 : ∀ k, k < 12 → d ≠ (200 + 12 * (8 * i + n)) + k := fun k hk9 e9 => hfree k hk9 (e9 ▸ hd)
    exact (w3o d (h9 0 (by omega)) (h9 2 (by omega)) (h9 4 (by omega)) (h9 6 (by omega)) (h9 8 (by omega)) (h9 10 (by omega))).trans (w2o d (h9 0 (by omega)))
  have hl3 : vl W3 ((100 + 8 * i) + 2) n (fun j => 200 + 12 * (8 * i + j)) := hU1.2.1.same ((w3o _ (by omega) (by omega) (by omega) (by omega) (by omega) (by omega)).trans (w2o _ (by omega))) ((w3o _ (by omega) (by omega) (by omega) (by omega) (by omega) (by omega)).trans (w2o _ (by omega)))
  have hB3 : oa W3 (200 + 12 * (8 * i + n)) := oa_eq w3B trivial
  have hm : ad2 ((100 + 8 * i) + 2) = ad3 ((100 + 8 * i) + 2) := (g3 _ (by omega) (by omega) (by omega) (by omega) (by omega)).symm
  rw [hm, ← a3B]
  have M3 : zA S73 (ad3 ((100 + 8 * i) + 2)) 0 := hl3.al hH3 hk.2.1 rfl
  have hrow := hl3.row hH3 hk.2.2.1 (ci := 7) (fun j hj => (kd_r (8 * i + j) (by omega)).1) (by omega)
  have hch := chb n (by omega)
  refine c_Fi (ci := 0) F G (k_add M3 (hl3.E hH3 hk.2.1 rfl) (hl3.z hH3 hk.2.1 rfl) (ci := 7) (by decide) rfl (List.mem_of_getElem? (i := 6) rfl) (hH3.al hB3 rfl hkr.1) hrow) (va_cwF 1 F.2.2.2.2 (zgF km_X11_72 ke_Jx4a65c_Jxbd725_add ki_Jx4a65c_add_9ea2d kn_Jx4a65c ko_Jx4a65c_add_9ea2d) rfl rfl rfl (G.2.2.2.2.1 (⟨"java/util/List", "add", "(Ljava/lang/Object;)Z"⟩, yJx4a65c_add_9ea2d) (List.mem_of_getElem? (i := 3) rfl)) hdF_add ⟨Nat.le_of_ble_eq_true rfl, Nat.le_of_ble_eq_true rfl⟩) rfl (by decide) M3 rfl rfl (Nat.le_of_ble_eq_true rfl) dX11_function_76 ⟨by show _ + chC n ≤ 14; omega, by show _ + chS n ≤ 400; omega⟩ (fun r76 S76 h76 => ?_)
  obtain ⟨q1, h76⟩ := h76
  obtain ⟨ad4, W4, hH4, g4, hl4, w4o⟩ := hl3.add hH3 (by omega) hk.2.1 hk.2.2.1 hB3 (by omega) rfl rfl h76
  refine r_pop F dX11_function_81 rfl ?_
  refine r_iload F dX11_function_82 rfl ?_
  have hR4 := hR1.fun hO1 hZ1 hi1 hn1 hn7 (p := x1) (q := x2) (w := x3) (fun d d0 d2 d4 d6 d8 d10 e1 e2 => (w4o d e1 e2).trans ((w3o d d0 d2 d4 d6 d8 d10).trans (w2o d d0))) (hl4.cg (fun j hj => by
    by_cases e9 : j = n
    · subst e9; exact va_up_self _ _ _
    · exact va_up_ne _ _ e9)) ((w4o _ (by omega) (by omega)).trans w3B) ((w4o _ (by omega) (by omega)).trans c2) ((w4o _ (by omega) (by omega)).trans c4) ((w4o _ (by omega) (by omega)).trans c6) ((w4o _ (by omega) (by omega)).trans c8) ((w4o _ (by omega) (by omega)).trans c10)
  have e9 : v.1 1202 i + 1 = nI (n + 1) := by rw [hn]; exact nI_add _ 1
  have hkeep : keepA W ad ad4 := fun d hd hev => by
    have hd1 : oa W1 d := by rw [eW]; exact (oaI hR.2.1).mpr hd
    have h9 : ∀ k, k < 12 → d ≠ (200 + 12 * (8 * i + n)) + k := fun k hk9 e9 => hfree k hk9 (e9 ▸ hd1)
    rw [g4 d (by omega), g3 d (h9 2 (by omega)) (h9 4 (by omega)) (h9 6 (by omega)) (h9 8 (by omega)) (h9 10 (by omega)), a2o d (h9 0 (by omega))]
  refine x_iret F hr hlk ⟨⟨⟨i, hi, rfl⟩, h9a, h14a, h20a⟩, i, hi, rfl, fun h9 => by rw [hn, nl8, nI_eq (by omega) (by omega)] at h9; omega, hn.symm, ad4, W4, hH4, hkeep, ?_, fun d q1 q2 => ((w4o d (by omega) (by omega)).trans ((w3o d (by omega) (by omega) (by omega) (by omega) (by omega) (by omega)).trans (w2o d (by omega)))).trans (by rw [eW]; exact va_up_ne _ _ (by omega))⟩ (by show _ + chC n ≤ 14; omega) (by show _ + chS n ≤ 400; omega) dX11_function_84
  show Rep (u1 (u1 (u1 (u1 (u1 (u1 v 1200 0 0) 1219 0 0) 1205 (8 * i + cn v 1202 i) x1) 1206 (8 * i + cn v 1202 i) x2) 1207 (8 * i + cn v 1202 i) x3) 1202 i (v.1 1202 i + 1)) W4
  rw [e9, en]
  exact hR4
