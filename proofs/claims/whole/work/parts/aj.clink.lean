set_option maxRecDepth 100000 in
set_option maxHeartbeats 4000000 in
theorem c_link0 {l : Launch} {N0 t0 : Nat} {D : va_G} {cy : Nat → ClassId} {S : zS} (hl : l.stackTraces = false) {X : Nat → Prop} {S0 : zS} {ad : Nat → Nat} {W : zO} (hH : zH t0 X S0 ad W S) {v : zV} (hR : Rep v W) (hv : vRg v) (hA : vA v) (hD : vD v) {a : Nat} (ea : ad 2 = a) (h0 : cn v 1201 0 = 0) : zTi l yX11_link (zws yX11_link cX11_link 3 (some .int)) { frames := 10, cells := 1, slots := 6, locals := 235 } N0 t0 D cy S [.ref a] (fun r S' => False) (fun E S' => S' = S ∧ E = zISE) 1 6 := by
  refine zTi.of (cc := cX11_link) (maxL := 3) (ret := (some .int)) (by decide) rfl (Nat.le_of_ble_eq_true rfl) ?_
  intro p e s m args below meth c F G hr hlk hnm htb
  subst ea
  obtain ⟨A0, Q0, L0, L1, L2⟩ := hR.lin hH
  refine r_aload_n F dX11_link_0 rfl ?_
  refine r_getS (ci := 11) (k := 0) (id := 1100) (C := RX11) (T := TX11) (N := 8) F G rfl (by decide) (by decide) rfl (zinL inG11) (zin kf_X11_10) (fun _ h9 => h9) dX11_link_1 A0 Q0 ?_
  refine c_Fi (ci := 0) F G (k_ListIsEmpty L0) (va_cwF 0 F.2.2.2.2 (zgF km_X11_146 ke_Jx4a65c_Jxbd725_isEmpty ki_Jx4a65c_isEmpty_aae02 kn_Jx4a65c ko_Jx4a65c_isEmpty_aae02) rfl rfl rfl (G.2.2.2.2.1 (⟨"java/util/List", "isEmpty", "()Z"⟩, yJx4a65c_isEmpty_aae02) (List.mem_of_getElem? (i := 1) rfl)) hdF_isEmpty ⟨Nat.le_of_ble_eq_true rfl, Nat.le_of_ble_eq_true rfl⟩) rfl (by decide) L0 rfl rfl (Nat.le_of_ble_eq_true rfl) dX11_link_4 ⟨Nat.le_of_ble_eq_true rfl, Nat.le_of_ble_eq_true rfl⟩ (fun r4 S4 h4 => ?_)
  obtain ⟨h4a, h4b⟩ := h4
  have h4c := h4b.symm
  subst h4c
  rw [L1] at h4a
  refine r_if_ne (tgt := 16) F dX11_link_9 (by decide) (fun _ => ?_) (fun h9 => absurd h9 (by rw [h4a, h0]; decide))
  refine r_iconst (v := 0) F dX11_link_16 (by decide) ?_
  refine t_Sv F G htb hlk (k_requireState hl _) (va_cwS 1 F.2.2.2.2 (zgS km_X11_150 ks_X11_requireState kn_X11 ko_X11_requireState) rfl rfl rfl hd_yX11_requireState ⟨Nat.le_of_ble_eq_true rfl, Nat.le_of_ble_eq_true rfl⟩) rfl rfl (Nat.le_of_ble_eq_true rfl) dX11_link_17 ⟨Nat.le_of_ble_eq_true rfl, Nat.le_of_ble_eq_true rfl⟩ (fun E S' h => ⟨h.2.2, h.2.1⟩) (Nat.le_of_ble_eq_true rfl) (Nat.le_of_ble_eq_true rfl) (fun S17 h17 => ?_)
  exact absurd rfl h17.1
theorem nI_m1 {n : Nat} (h : n < 10000) : ¬ nI n = -1 := fun h8 => by
  have h7 : (nI n).toInt = (-1 : Int32).toInt := by rw [h8]
  rw [nI_toInt (by omega)] at h7
  have h6 : (-1 : Int32).toInt = -1 := rfl
  omega
theorem Bld.I2 {v : zV} {W : zO} (h : Bld v W) (hO : cn v 1201 0 ≤ 6) (a2 : oa W 2) {id : Nat} {x : Int32} : Bld v (oI W 2 id x) := h.ext hO (h.1.I a2) (fun c hc _ => va_up_ne _ _ (by omega))
set_option maxRecDepth 100000 in
set_option maxHeartbeats 4000000 in
theorem c_linkF {l : Launch} {N0 t0 : Nat} {D : va_G} {cy : Nat → ClassId} {S : zS} (hl : l.stackTraces = false) {X : Nat → Prop} {S0 : zS} {ad : Nat → Nat} {W : zO} (hH : zH t0 X S0 ad W S) {v : zV} (hR : Rep v W) (hv : vRg v) (hA : vA v) (hD : vD v) {a : Nat} (ea : ad 2 = a) (hob : ¬ cn v 1201 0 = 0) (hn8 : ¬ nB v 8) : zTi l yX11_link (zws yX11_link cX11_link 3 (some .int)) { frames := 10, cells := 22, slots := 939, locals := 235 } N0 t0 D cy S [.ref a] (fun r S' => ∃ w pl, lk v w pl ∧ r = nI w ∧ ∃ (ad' : Nat → Nat) (W' : zO), zH t0 X S0 ad' W' S' ∧ keepA W ad ad' ∧ (∀ v1, lkF v v1 w pl → Rep v1 W') ∧ ∀ d, 44 ≤ d → d < 50 → W' d = W d) (fun E S' => False) 22 939 := by
  refine zTi.of (cc := cX11_link) (maxL := 3) (ret := (some .int)) (by decide) rfl (Nat.le_of_ble_eq_true rfl) ?_
  intro p e s m args below meth c F G hr hlk hnm htb
  subst ea
  obtain ⟨A0, Q0, L0, L1, L2⟩ := hR.lin hH
  have hO := (rg_1201 hv (k := 0) (by decide)).2
  have hw := hR.1
  have a2 := hR.2.1
  have a10 : oa W 10 := hw.a a2 (id := 1103) (by decide) rfl
  have A10 : zA S (ad 10) 3 := hH.al a10 rfl rfl
  have Q10 : zq S 1103 (ad 2) = some (ad 10) := hH.qS a2 rfl (by decide) (hw.q a2 (by decide) rfl) rfl
  refine r_aload_n F dX11_link_0 rfl ?_
  refine r_getS (ci := 11) (k := 0) (id := 1100) (C := RX11) (T := TX11) (N := 8) F G rfl (by decide) (by decide) rfl (zinL inG11) (zin kf_X11_10) (fun _ h9 => h9) dX11_link_1 A0 Q0 ?_
  refine c_Fi (ci := 0) F G (k_ListIsEmpty L0) (va_cwF 0 F.2.2.2.2 (zgF km_X11_146 ke_Jx4a65c_Jxbd725_isEmpty ki_Jx4a65c_isEmpty_aae02 kn_Jx4a65c ko_Jx4a65c_isEmpty_aae02) rfl rfl rfl (G.2.2.2.2.1 (⟨"java/util/List", "isEmpty", "()Z"⟩, yJx4a65c_isEmpty_aae02) (List.mem_of_getElem? (i := 1) rfl)) hdF_isEmpty ⟨Nat.le_of_ble_eq_true rfl, Nat.le_of_ble_eq_true rfl⟩) rfl (by decide) L0 rfl rfl (Nat.le_of_ble_eq_true rfl) dX11_link_4 ⟨by show 0 + 0 ≤ 22; omega, by show 0 + 0 ≤ 939; omega⟩ (fun r4 S4 h4 => ?_)
  obtain ⟨h4a, h4b⟩ := h4
  have h4c := h4b.symm
  subst h4c
  rw [L1] at h4a
  refine r_if_ne (tgt := 16) F dX11_link_9 (by decide) (fun h9 => absurd (by rw [h4a]; exact if_neg (by rw [nl0, nI_eq (by omega) (by omega)]; exact hob)) h9) (fun _ => ?_)
  refine r_iconst (v := 1) F dX11_link_12 (by decide) ?_
  refine r_goto (tgt := 17) F dX11_link_13 (by decide) ?_
  refine t_Sv F G htb hlk (k_requireState hl _) (va_cwS 1 F.2.2.2.2 (zgS km_X11_150 ks_X11_requireState kn_X11 ko_X11_requireState) rfl rfl rfl hd_yX11_requireState ⟨Nat.le_of_ble_eq_true rfl, Nat.le_of_ble_eq_true rfl⟩) rfl rfl (Nat.le_of_ble_eq_true rfl) dX11_link_17 ⟨by show 0 + 0 + 1 ≤ 22; omega, by show 0 + 0 + 6 ≤ 939; omega⟩ (fun E S' h => absurd h.1 (by decide)) (by show 0 + 0 + 1 ≤ 22; omega) (by show 0 + 0 + 6 ≤ 939; omega) (fun S17 h17 => ?_)
  obtain ⟨h17a, h17b⟩ := h17
  have h17c := h17b.symm
  subst h17c
  refine r_aload_n F dX11_link_20 rfl ?_
  refine r_getS (ci := 11) (k := 3) (id := 1103) (C := RX11) (T := TX11) (N := 8) F G rfl (by decide) (by decide) rfl (zinL inG11) (zin kf_X11_33) (fun _ h9 => h9) dX11_link_21 A0 Q10 ?_
  refine r_aload_n F dX11_link_24 rfl ?_
  refine r_getS (ci := 11) (k := 0) (id := 1100) (C := RX11) (T := TX11) (N := 8) F G rfl (by decide) (by decide) rfl (zinL inG11) (zin kf_X11_10) (fun _ h9 => h9) dX11_link_25 A0 Q0 ?_
  refine c_Vv (ci := 3) F G (c_gather hH hR hv rfl rfl) (cwV 1 F.2.2.2.2 (zgV km_X11_153 ki_X2_gather ke_X2_X2_gather kn_X2 ko_X2_gather) rfl rfl rfl ⟨rfl, hd_yX2_gather⟩ ⟨Nat.le_of_ble_eq_true rfl, Nat.le_of_ble_eq_true rfl⟩) rfl (by decide) A10 rfl rfl (Nat.le_of_ble_eq_true rfl) dX11_link_28 ⟨by show 0 + 0 + 1 + 21 ≤ 22; omega, by show 0 + 0 + 6 + 933 ≤ 939; omega⟩ (fun S28 h28 => ?_)
  obtain ⟨ad1, W1, hH1, ka, hs1, hg1⟩ := h28
  clear A0 Q0 L0 L1 L2 A10 Q10
  rw [show ad 2 = ad1 2 from (ka 2 rfl).symm]
  unfold gth at hg1
  have t2 := pS_top hA (t := 1202) (o := 6) (Or.inl rfl) (by omega) (Nat.le_refl _)
  have t3 := pS_top hA (t := 1203) (o := 6) (Or.inr (Or.inl rfl)) (by omega) (Nat.le_refl _)
  have t4 := pS_top hA (t := 1204) (o := 6) (Or.inr (Or.inr rfl)) (by omega) (Nat.le_refl _)
  rw [← t2, ← t3, ← t4] at hg1
  have c1 : ∀ o, o < 6 → cn v 1202 o ≤ 8 := fun o ho => (rg_1202 hv ho).2
  have c2 : ∀ o, o < 6 → cn v 1203 o ≤ 4 := fun o ho => (rg_1203 hv ho).2
  have c3 : ∀ o, o < 6 → cn v 1204 o ≤ 16 := fun o ho => (rg_1204 hv ho).2
  obtain ⟨n38, f38, x1, x2, x3⟩ := hR.2.2.2.2.2.2.2.2.2.2.2.2.2.2.2.2.2.1
  have hR1 : Rep v W1 := hR.img (fun d hd => hs1 d (by omega)) ⟨pS_b c1 6 (Nat.le_refl _), hg1.1, fun i hi => (kd_r _ (eN_t (by decide) c1 hi).1).1⟩ ⟨pS_b c2 6 (Nat.le_refl _), hg1.2.1, fun i hi => (kd_g _ (eN_t (by decide) c2 hi).1).1⟩ ⟨pS_b c3 6 (Nat.le_refl _), hg1.2.2, fun i hi => kd_y _ (eN_t (by decide) c3 hi).1⟩ ⟨x1, x2.same (hs1 _ (by decide)) (hs1 _ (by decide)), x3⟩
  have a21 := hR1.2.1
  have a61 : oa W1 6 := hR1.1.a a21 (id := 1101) (by decide) rfl
  have a101 : oa W1 10 := hR1.1.a a21 (id := 1103) (by decide) rfl
  have A0 : zA S28 (ad1 2) 11 := hH1.al a21 rfl rfl
  have A6 : zA S28 (ad1 6) 6 := hH1.al a61 rfl rfl
  have A10 : zA S28 (ad1 10) 3 := hH1.al a101 rfl rfl
  have Q6 : zq S28 1101 (ad1 2) = some (ad1 6) := hH1.qS a21 rfl (by decide) (hR1.1.q a21 (by decide) rfl) rfl
  have Q10 : zq S28 1103 (ad1 2) = some (ad1 10) := hH1.qS a21 rfl (by decide) (hR1.1.q a21 (by decide) rfl) rfl
  have Q36 : zq S28 302 (ad1 10) = some (ad1 36) := hH1.qS a101 rfl (by decide) (hR1.1.q a101 (by decide) rfl) rfl
  refine r_aload_n F dX11_link_31 rfl ?_
  refine r_getS (ci := 11) (k := 1) (id := 1101) (C := RX11) (T := TX11) (N := 8) F G rfl (by decide) (by decide) rfl (zinL inG11) (zin kf_X11_19) (fun _ h9 => h9) dX11_link_32 A0 Q6 ?_
  refine r_aload_n F dX11_link_35 rfl ?_
  refine r_getS (ci := 11) (k := 3) (id := 1103) (C := RX11) (T := TX11) (N := 8) F G rfl (by decide) (by decide) rfl (zinL inG11) (zin kf_X11_33) (fun _ h9 => h9) dX11_link_36 A0 Q10 ?_
  refine r_getS (ci := 3) (k := 2) (id := 302) (C := RX2) (T := TX2) (N := 8) F G rfl (by decide) (by decide) rfl (zinL inG3) (zin kf_X11_157) (fun _ h9 => h9) dX11_link_39 A10 Q36 ?_
  refine c_Vv (ci := 6) F G (c_join hH1 hR1 hv rfl rfl hg1.2.2) (cwV 1 F.2.2.2.2 (zgV km_X11_158 ki_X5_join ke_X5_X5_join kn_X5 ko_X5_join) rfl rfl rfl ⟨rfl, hd_yX5_join⟩ ⟨Nat.le_of_ble_eq_true rfl, Nat.le_of_ble_eq_true rfl⟩) rfl (by decide) A6 rfl rfl (Nat.le_of_ble_eq_true rfl) dX11_link_42 ⟨by show 0 + 0 + 1 + 21 + 0 ≤ 22; omega, by show 0 + 0 + 6 + 933 + 0 ≤ 939; omega⟩ (fun S42 h42 => ?_)
  obtain ⟨W2, hH2, hw2, hN2, hsq⟩ := h42
  have hQ2 : lnQ v W W2 := lnQ.of hR hv hO hs1 hR1 hg1 hw2 hN2 hsq
  clear A0 A6 A10 Q6 Q10 Q36
  have A0 : zA S42 (ad1 2) 11 := hH2.al hQ2.2.1 rfl rfl
  refine r_iconst (v := 0) F dX11_link_45 (by decide) ?_
  refine r_istore_n F dX11_link_46 (by decide) ?_
  refine r_aload_n F dX11_link_47 rfl ?_
  refine r_iconst (v := -1) F dX11_link_48 (by decide) ?_
  refine r_puti (ci := 11) (k := 7) (id := 1107) (C := RX11) (T := TX11) (N := 8) (ty := .int) (ty0 := tyX11) F G rfl (by decide) (by decide) rfl (zinL inG11) (zin kf_X11_55) (fun _ h9 => h9) tyX11_ok nmX11 rfl pd11_7 rfl rfl dX11_link_49 A0 ?_
  refine zgen (P := zH t0 X S0 ad1 (oI W2 2 1107 (-1))) (hH2.pi hQ2.2.1 rfl rfl (by decide) _) (fun S hH => ?_)
  clear A0
  have hQ3 : lnQ v W (oI W2 2 1107 (-1)) := hQ2.same (hQ2.1.I2 hO hQ2.2.1) (by show (oI W2 2 1107 (-1) 2).1; rw [show oI W2 2 1107 (-1) 2 = eI (W2 2) 1107 (-1) from va_up_self _ _ _]; exact hQ2.2.1) (fun c hc h9 => by have e9 : oI W2 2 1107 (-1) c = W2 c := va_up_ne _ _ (by omega); show (W2 c).1; rw [← e9]; exact h9) (fun c hc => va_up_ne _ _ (by omega))
  have e1107 : oi (oI W2 2 1107 (-1)) 2 1107 = -1 := oI_s
  refine r_iconst (v := 1) F dX11_link_52 (by decide) ?_
  refine r_istore_n F dX11_link_53 (by decide) ?_
  refine zsub (lv' := [(1, .int 0), (2, .int (nI 1)), (0, .ref (ad1 2))]) (by rw [show nI 1 = (1 : Int32) from rfl]; simp [zs1, lv_args, Value.category, show ((1 : Fin 4) : Nat) = 1 from rfl, show ((2 : Fin 4) : Nat) = 2 from rfl, show ((3 : Fin 4) : Nat) = 3 from rfl, show nI 0 = (0 : Int32) from rfl]) ?_
  refine z_loop (fun n S9 lv => ∃ (w : Nat) (W1 : zO), w + n = 8 ∧ 1 ≤ w ∧ zH t0 X S0 ad1 W1 S9 ∧ lnQ v W W1 ∧ ((oi W1 2 1107 = -1 ∧ nB v w ∧ lnS v W1 w ∧ lv = [(1, .int 0), (2, .int (nI w)), (0, .ref (ad1 2))]) ∨ ∃ w9 pl, w = w9 + 1 ∧ lk v w9 pl ∧ oi W1 2 1107 = nI pl ∧ lv = [(1, .int (nI w9)), (2, .int (nI w)), (0, .ref (ad1 2))])) 7 ?_ ⟨1, _, rfl, Nat.le_refl _, hH, hQ3, Or.inl ⟨e1107, ⟨fun h => absurd h (by decide), fun h => absurd h (by decide), fun h => absurd h (by decide), fun h => absurd h (by decide), fun h => absurd h (by decide), fun h => absurd h (by decide), fun h => absurd h (by decide)⟩, ⟨fun h => absurd h (by decide), fun h => absurd h (by decide)⟩, rfl⟩⟩
  clear hH hQ3 e1107 hH1 hH2
  rintro n S lv ⟨w, W3, hwn, hw1, hH, hQ, hcase⟩ ih
  have a23 := hQ.2.1
  have hw3 := hQ.1.1
  have A0 : zA S (ad1 2) 11 := hH.al a23 rfl rfl
  rcases hcase with ⟨e7, hnB, hS9, rfl⟩ | ⟨w9, pl, ew, hlk9, e7, rfl⟩
  · 
    refine r_iload_n F dX11_link_54 rfl ?_
    refine r_bipush (v := 7) F dX11_link_55 (by decide) ?_
    refine r_icmp_gt (tgt := 97) F dX11_link_57 (by decide) (fun c57 => ?_) (fun c57 => ?_)
    · have hw8 : w = 8 := by have c9 := c57; rw [show (7 : Int32) = nI 7 from rfl, nI_ltI (by omega) (by omega)] at c9; omega
      rw [hw8] at hnB
      exact absurd hnB hn8
    · refine r_aload_n F dX11_link_60 rfl ?_
      refine r_getiS (ci := 11) (k := 7) (id := 1107) (C := RX11) (T := TX11) (N := 8) F G rfl (by decide) (by decide) rfl (zinL inG11) (zin kf_X11_55) (fun _ h9 => h9) dX11_link_61 A0 (show zi S 1107 (ad1 2) = -1 from (hH.i a23 rfl (by decide)).trans e7) ?_
      refine r_iconst (v := -1) F dX11_link_64 (by decide) ?_
      refine r_icmp_ne (tgt := 97) F dX11_link_65 (by decide) (fun h9 => absurd (show (-1 : Int32) = -1 from rfl) h9) (fun _ => ?_)
      have hw7 : w ≤ 7 := by have c9 := c57; rw [show (7 : Int32) = nI 7 from rfl, nI_ltI (by omega) (by omega)] at c9; omega
      refine r_aload_n F dX11_link_68 rfl ?_
      refine r_aload_n F dX11_link_69 rfl ?_
      refine r_iload_n F dX11_link_70 rfl ?_
      refine c_Vi (ci := 11) F G (c_placeOf hH hv hA hD hO hQ hw1 (by omega) hnB hS9) (cwV 1 F.2.2.2.2 (zgV km_X11_161 ki_X11_placeOf ke_X11_X11_placeOf kn_X11 ko_X11_placeOf) rfl rfl rfl ⟨rfl, hd_yX11_placeOf⟩ ⟨Nat.le_of_ble_eq_true rfl, Nat.le_of_ble_eq_true rfl⟩) rfl (by decide) A0 rfl rfl (Nat.le_of_ble_eq_true rfl) dX11_link_71 ⟨by show 0 + 0 + 1 + 21 + 0 + 0 ≤ 22; omega, by show 0 + 0 + 6 + 933 + 0 + 0 ≤ 939; omega⟩ (fun r71 S71 h71 => ?_)
      obtain ⟨W4, hH4, hQ4, e42, hres⟩ := h71
      clear A0
      have a24 := hQ4.2.1
      have A0 : zA S71 (ad1 2) 11 := hH4.al a24 rfl rfl
      refine r_puti (ci := 11) (k := 7) (id := 1107) (C := RX11) (T := TX11) (N := 8) (ty := .int) (ty0 := tyX11) F G rfl (by decide) (by decide) rfl (zinL inG11) (zin kf_X11_55) (fun _ h9 => h9) tyX11_ok nmX11 rfl pd11_7 rfl rfl dX11_link_74 A0 ?_
      refine zgen (P := zH t0 X S0 ad1 (oI W4 2 1107 r71)) (hH4.pi a24 rfl rfl (by decide) _) (fun S hH => ?_)
      clear A0
      have a25 : oa (oI W4 2 1107 r71) 2 := by show (oI W4 2 1107 r71 2).1; rw [show oI W4 2 1107 r71 2 = eI (W4 2) 1107 r71 from va_up_self _ _ _]; exact a24
      have hQ5 : lnQ v W (oI W4 2 1107 r71) := hQ4.same (hQ4.1.I2 hO a24) a25 (fun c hc h9 => by have e9 : oI W4 2 1107 r71 c = W4 c := va_up_ne _ _ (by omega); show (W4 c).1; rw [← e9]; exact h9) (fun c hc => va_up_ne _ _ (by omega))
      have e57 : oi (oI W4 2 1107 r71) 2 1107 = r71 := oI_s
      have s5 : ∀ c, c ≠ 2 → oI W4 2 1107 r71 c = W4 c := fun c hc => va_up_ne _ _ hc
      generalize oI W4 2 1107 r71 = W5 at hH hQ5 e57 s5 a25
      have A0 : zA S (ad1 2) 11 := hH.al a25 rfl rfl
      have I7 : zi S 1107 (ad1 2) = r71 := (hH.i a25 rfl (by decide)).trans e57
      refine r_aload_n F dX11_link_77 rfl ?_
      refine r_getiS (ci := 11) (k := 7) (id := 1107) (C := RX11) (T := TX11) (N := 8) F G rfl (by decide) (by decide) rfl (zinL inG11) (zin kf_X11_55) (fun _ h9 => h9) dX11_link_78 A0 I7 ?_
      refine r_iconst (v := -1) F dX11_link_81 (by decide) ?_
      refine r_icmp_ne (tgt := 89) F dX11_link_82 (by decide) (fun c82 => ?_) (fun c82 => ?_)
      · refine r_iload_n F dX11_link_89 rfl ?_
        refine r_istore_n F dX11_link_90 (by decide) ?_
        obtain ⟨pl, er, hlk9⟩ : ∃ pl, r71 = nI pl ∧ lk v w pl := by
          rcases hres with ⟨h1, -⟩ | h1
          · exact absurd h1 c82
          · exact h1
        refine r_iinc F dX11_link_91 rfl (by decide) ?_
        refine r_goto (tgt := 54) F dX11_link_94 (by decide) ?_
        refine zsub (lv' := [(1, .int (nI w)), (2, .int (nI (w + 1))), (0, .ref (ad1 2))]) (by rw [show nI (w + 1) = nI w + Int32.ofInt 1 from (nI_add w 1).symm]; simp [zs1, lv_args, Value.category, show ((1 : Fin 4) : Nat) = 1 from rfl, show ((2 : Fin 4) : Nat) = 2 from rfl, show ((3 : Fin 4) : Nat) = 3 from rfl, show nI 0 = (0 : Int32) from rfl]) ?_
        exact ih (n - 1) _ _ (by omega) ⟨w + 1, W5, by omega, by omega, hH, hQ5, Or.inr ⟨w, pl, rfl, hlk9, e57.trans er, rfl⟩⟩
      · refine r_iconst (v := 0) F dX11_link_85 (by decide) ?_
        refine r_goto (tgt := 90) F dX11_link_86 (by decide) ?_
        refine r_istore_n F dX11_link_90 (by decide) ?_
        obtain ⟨hnB2, hS2⟩ : nB v (w + 1) ∧ lnS v W5 (w + 1) := by
          rcases hres with ⟨h1, h2, h3⟩ | ⟨pl, h1, h2⟩
          · exact ⟨h2, fun h f hf ht => (h3.1 h f hf ht).same (fun c hc => s5 c (by omega)), fun h => ⟨fun g hg ht => by show (W5 (800 + 4 * g)).2.1 802 = _; rw [s5 _ (by omega)]; exact (h3.2 h).1 g hg ht, by show (W5 10).2.1 307 = _; rw [s5 _ (by decide)]; exact (h3.2 h).2⟩⟩
          · exfalso
            have h9 := lk.pl hv h2
            have h8 : nI pl = -1 := by rw [← h1]; exact c82
            have h7 : (nI pl).toInt = (-1 : Int32).toInt := by rw [h8]
            rw [nI_toInt (by omega)] at h7
            have h6 : (-1 : Int32).toInt = -1 := rfl
            omega
        refine r_iinc F dX11_link_91 rfl (by decide) ?_
        refine r_goto (tgt := 54) F dX11_link_94 (by decide) ?_
        refine zsub (lv' := [(1, .int 0), (2, .int (nI (w + 1))), (0, .ref (ad1 2))]) (by rw [show nI (w + 1) = nI w + Int32.ofInt 1 from (nI_add w 1).symm]; simp [zs1, lv_args, Value.category, show ((1 : Fin 4) : Nat) = 1 from rfl, show ((2 : Fin 4) : Nat) = 2 from rfl, show ((3 : Fin 4) : Nat) = 3 from rfl, show nI 0 = (0 : Int32) from rfl]) ?_
        exact ih (n - 1) _ _ (by omega) ⟨w + 1, W5, by omega, by omega, hH, hQ5, Or.inl ⟨e57.trans c82, hnB2, hS2, rfl⟩⟩
  · refine r_iload_n F dX11_link_54 rfl ?_
    refine r_bipush (v := 7) F dX11_link_55 (by decide) ?_
    refine r_icmp_gt (tgt := 97) F dX11_link_57 (by decide) (fun c57 => ?_) (fun c57 => ?_)
    · have hwb := hlk9.b
      clear ih
      refine r_aload_n F dX11_link_97 rfl ?_
      refine r_iload_n F dX11_link_98 rfl ?_
      refine r_if_ne (tgt := 106) F dX11_link_99 (by decide) (fun _ => ?_) (fun h9 => absurd h9 (fun h8 => by rw [nl0, nI_eq (by omega) (by omega)] at h8; omega))
      refine r_iconst (v := 0) F dX11_link_106 (by decide) ?_
      refine r_puti (ci := 11) (k := 6) (id := 1106) (C := RX11) (T := TX11) (N := 8) (ty := .boolean) (ty0 := tyX11) F G rfl (by decide) (by decide) rfl (zinL inG11) (zin kf_X11_51) (fun _ h9 => h9) tyX11_ok nmX11 rfl pd11_6 rfl rfl dX11_link_107 A0 ?_
      refine zgen (P := zH t0 X S0 ad1 (oI W3 2 1106 0)) (hH.pi a23 rfl rfl (by decide) _) (fun S hH => ?_)
      clear A0
      have e6 : oI W3 2 1106 0 2 = eI (W3 2) 1106 0 := va_up_self _ _ _
      have a25 : oa (oI W3 2 1106 0) 2 := by show (oI W3 2 1106 0 2).1; rw [e6]; exact a23
      have hQ5 : lnQ v W (oI W3 2 1106 0) := hQ.same (hQ.1.I2 hO a23) a25 (fun c hc h9 => by have e9 : oI W3 2 1106 0 c = W3 c := va_up_ne _ _ (by omega); show (W3 c).1; rw [← e9]; exact h9) (fun c hc => va_up_ne _ _ (by omega))
      have e56 : oi (oI W3 2 1106 0) 2 1106 = 0 := oI_s
      have e57 : oi (oI W3 2 1106 0) 2 1107 = nI pl := by show (oI W3 2 1106 0 2).2.1 1107 = _; rw [e6]; exact (va_up_ne (W3 2).2.1 0 (show (1107 : Nat) ≠ 1106 by decide)).trans e7
      generalize oI W3 2 1106 0 = W5 at hH hQ5 e56 e57 a25
      clear e6
      have A0 : zA S (ad1 2) 11 := hH.al a25 rfl rfl
      have I6 : zi S 1106 (ad1 2) = 0 := (hH.i a25 rfl (by decide)).trans e56
      refine r_aload_n F dX11_link_110 rfl ?_
      refine r_getiS (ci := 11) (k := 6) (id := 1106) (C := RX11) (T := TX11) (N := 8) F G rfl (by decide) (by decide) rfl (zinL inG11) (zin kf_X11_51) (fun _ h9 => h9) dX11_link_111 A0 I6 ?_
      refine r_if_eq (tgt := 135) F dX11_link_114 (by decide) (fun _ => ?_) (fun h9 => absurd (show (0 : Int32) = 0 from rfl) h9)
      refine r_iload_n F dX11_link_135 rfl ?_
      refine x_iret F hr hlk ⟨w9, pl, hlk9, rfl, ad1, W5, hH, fun d hd he => ka d he, fun v1 h1 => ?_, fun d h1 h2 => hQ5.2.2.2.2.2.2.2.2 d h1 h2⟩ (by decide) (by decide) dX11_link_136
      exact hR.ln hQ5.1 a25 hQ5.2.2.1 hQ5.2.2.2.1.1 hQ5.2.2.2.1.2.1 hQ5.2.2.2.1.2.2.1 hQ5.2.2.2.1.2.2.2 (hQ5.X hv hR.2.2.2.2.2.2.2.2.2.2.2.2.2.2) h1.1 (by rw [e56]; exact h1.2.1.symm) (by rw [e57]; exact h1.2.2.1.symm)
    · refine r_aload_n F dX11_link_60 rfl ?_
      refine r_getiS (ci := 11) (k := 7) (id := 1107) (C := RX11) (T := TX11) (N := 8) F G rfl (by decide) (by decide) rfl (zinL inG11) (zin kf_X11_55) (fun _ h9 => h9) dX11_link_61 A0 (show zi S 1107 (ad1 2) = nI pl from (hH.i a23 rfl (by decide)).trans e7) ?_
      refine r_iconst (v := -1) F dX11_link_64 (by decide) ?_
      refine r_icmp_ne (tgt := 97) F dX11_link_65 (by decide) (fun _ => ?_) (fun h9 => absurd h9 (nI_m1 (lk.pl hv hlk9)))
      have hwb := hlk9.b
      clear ih
      refine r_aload_n F dX11_link_97 rfl ?_
      refine r_iload_n F dX11_link_98 rfl ?_
      refine r_if_ne (tgt := 106) F dX11_link_99 (by decide) (fun _ => ?_) (fun h9 => absurd h9 (fun h8 => by rw [nl0, nI_eq (by omega) (by omega)] at h8; omega))
      refine r_iconst (v := 0) F dX11_link_106 (by decide) ?_
      refine r_puti (ci := 11) (k := 6) (id := 1106) (C := RX11) (T := TX11) (N := 8) (ty := .boolean) (ty0 := tyX11) F G rfl (by decide) (by decide) rfl (zinL inG11) (zin kf_X11_51) (fun _ h9 => h9) tyX11_ok nmX11 rfl pd11_6 rfl rfl dX11_link_107 A0 ?_
      refine zgen (P := zH t0 X S0 ad1 (oI W3 2 1106 0)) (hH.pi a23 rfl rfl (by decide) _) (fun S hH => ?_)
      clear A0
      have e6 : oI W3 2 1106 0 2 = eI (W3 2) 1106 0 := va_up_self _ _ _
      have a25 : oa (oI W3 2 1106 0) 2 := by show (oI W3 2 1106 0 2).1; rw [e6]; exact a23
      have hQ5 : lnQ v W (oI W3 2 1106 0) := hQ.same (hQ.1.I2 hO a23) a25 (fun c hc h9 => by have e9 : oI W3 2 1106 0 c = W3 c := va_up_ne _ _ (by omega); show (W3 c).1; rw [← e9]; exact h9) (fun c hc => va_up_ne _ _ (by omega))
      have e56 : oi (oI W3 2 1106 0) 2 1106 = 0 := oI_s
      have e57 : oi (oI W3 2 1106 0) 2 1107 = nI pl := by show (oI W3 2 1106 0 2).2.1 1107 = _; rw [e6]; exact (va_up_ne (W3 2).2.1 0 (show (1107 : Nat) ≠ 1106 by decide)).trans e7
      generalize oI W3 2 1106 0 = W5 at hH hQ5 e56 e57 a25
      clear e6
      have A0 : zA S (ad1 2) 11 := hH.al a25 rfl rfl
      have I6 : zi S 1106 (ad1 2) = 0 := (hH.i a25 rfl (by decide)).trans e56
      refine r_aload_n F dX11_link_110 rfl ?_
      refine r_getiS (ci := 11) (k := 6) (id := 1106) (C := RX11) (T := TX11) (N := 8) F G rfl (by decide) (by decide) rfl (zinL inG11) (zin kf_X11_51) (fun _ h9 => h9) dX11_link_111 A0 I6 ?_
      refine r_if_eq (tgt := 135) F dX11_link_114 (by decide) (fun _ => ?_) (fun h9 => absurd (show (0 : Int32) = 0 from rfl) h9)
      refine r_iload_n F dX11_link_135 rfl ?_
      refine x_iret F hr hlk ⟨w9, pl, hlk9, rfl, ad1, W5, hH, fun d hd he => ka d he, fun v1 h1 => ?_, fun d h1 h2 => hQ5.2.2.2.2.2.2.2.2 d h1 h2⟩ (by decide) (by decide) dX11_link_136
      exact hR.ln hQ5.1 a25 hQ5.2.2.1 hQ5.2.2.2.1.1 hQ5.2.2.2.1.2.1 hQ5.2.2.2.1.2.2.1 hQ5.2.2.2.1.2.2.2 (hQ5.X hv hR.2.2.2.2.2.2.2.2.2.2.2.2.2.2) h1.1 (by rw [e56]; exact h1.2.1.symm) (by rw [e57]; exact h1.2.2.1.symm)
set_option maxRecDepth 100000 in
set_option maxHeartbeats 4000000 in
theorem c_linkM {l : Launch} {N0 t0 : Nat} {D : va_G} {cy : Nat → ClassId} {S : zS} (hl : l.stackTraces = false) {X : Nat → Prop} {S0 : zS} {ad : Nat → Nat} {W : zO} (hH : zH t0 X S0 ad W S) {v : zV} (hR : Rep v W) (hv : vRg v) (hA : vA v) (hD : vD v) {a : Nat} (ea : ad 2 = a) (hob : ¬ cn v 1201 0 = 0) (hn8 : nB v 8) {Lm Lb : List Int32} {km ks kb : Nat} (hM : bL W 44 Lm km) (hC : bL W 46 [] ks) (hY : bL W 48 Lb kb) : zTi l yX11_link (zws yX11_link cX11_link 3 (some .int)) { frames := 10, cells := (29 + (((gk km ([] : List Int32).length (mdB v (wdF v 48).1 (wdF v 48).2).length) - km) + ((kSd v (wdF v 48).1 (wdF v 48).2 ks) - ks) + ((kbF v (wdF v 48).1 (wdF v 48).2 kb (pS v 1202 6)) - kb))), slots := (1250 + 2 * (((gk km ([] : List Int32).length (mdB v (wdF v 48).1 (wdF v 48).2).length) - km) + ((kSd v (wdF v 48).1 (wdF v 48).2 ks) - ks) + ((kbF v (wdF v 48).1 (wdF v 48).2 kb (pS v 1202 6)) - kb))), locals := 235 } N0 t0 D cy S [.ref a] (fun r S' => r = 0 ∧ ∃ (ad' : Nat → Nat) (W' : zO), zH t0 X S0 ad' W' S' ∧ keepA W ad ad' ∧ LK v W' ∧ (∀ v1, lkM v v1 → Rep v1 W') ∧ bL W' 44 (mdB v (wdF v 48).1 (wdF v 48).2) (gk km ([] : List Int32).length (mdB v (wdF v 48).1 (wdF v 48).2).length) ∧ bL W' 46 [] (kSd v (wdF v 48).1 (wdF v 48).2 ks) ∧ ∃ Lb9, bL W' 48 Lb9 (kbF v (wdF v 48).1 (wdF v 48).2 kb (pS v 1202 6))) (fun E S' => False) (29 + (((gk km ([] : List Int32).length (mdB v (wdF v 48).1 (wdF v 48).2).length) - km) + ((kSd v (wdF v 48).1 (wdF v 48).2 ks) - ks) + ((kbF v (wdF v 48).1 (wdF v 48).2 kb (pS v 1202 6)) - kb))) (1250 + 2 * (((gk km ([] : List Int32).length (mdB v (wdF v 48).1 (wdF v 48).2).length) - km) + ((kSd v (wdF v 48).1 (wdF v 48).2 ks) - ks) + ((kbF v (wdF v 48).1 (wdF v 48).2 kb (pS v 1202 6)) - kb))) := by
  refine zTi.of (cc := cX11_link) (maxL := 3) (ret := (some .int)) (by decide) rfl (Nat.le_of_ble_eq_true rfl) ?_
  intro p e s m args below meth c F G hr hlk hnm htb
  subst ea
  obtain ⟨A0, Q0, L0, L1, L2⟩ := hR.lin hH
  have hO := (rg_1201 hv (k := 0) (by decide)).2
  have hw := hR.1
  have a2 := hR.2.1
  have a10 : oa W 10 := hw.a a2 (id := 1103) (by decide) rfl
  have A10 : zA S (ad 10) 3 := hH.al a10 rfl rfl
  have Q10 : zq S 1103 (ad 2) = some (ad 10) := hH.qS a2 rfl (by decide) (hw.q a2 (by decide) rfl) rfl
  refine r_aload_n F dX11_link_0 rfl ?_
  refine r_getS (ci := 11) (k := 0) (id := 1100) (C := RX11) (T := TX11) (N := 8) F G rfl (by decide) (by decide) rfl (zinL inG11) (zin kf_X11_10) (fun _ h9 => h9) dX11_link_1 A0 Q0 ?_
  refine c_Fi (ci := 0) F G (k_ListIsEmpty L0) (va_cwF 0 F.2.2.2.2 (zgF km_X11_146 ke_Jx4a65c_Jxbd725_isEmpty ki_Jx4a65c_isEmpty_aae02 kn_Jx4a65c ko_Jx4a65c_isEmpty_aae02) rfl rfl rfl (G.2.2.2.2.1 (⟨"java/util/List", "isEmpty", "()Z"⟩, yJx4a65c_isEmpty_aae02) (List.mem_of_getElem? (i := 1) rfl)) hdF_isEmpty ⟨Nat.le_of_ble_eq_true rfl, Nat.le_of_ble_eq_true rfl⟩) rfl (by decide) L0 rfl rfl (Nat.le_of_ble_eq_true rfl) dX11_link_4 ⟨by show 0 + 0 ≤ (29 + (((gk km ([] : List Int32).length (mdB v (wdF v 48).1 (wdF v 48).2).length) - km) + ((kSd v (wdF v 48).1 (wdF v 48).2 ks) - ks) + ((kbF v (wdF v 48).1 (wdF v 48).2 kb (pS v 1202 6)) - kb))); omega, by show 0 + 0 ≤ (1250 + 2 * (((gk km ([] : List Int32).length (mdB v (wdF v 48).1 (wdF v 48).2).length) - km) + ((kSd v (wdF v 48).1 (wdF v 48).2 ks) - ks) + ((kbF v (wdF v 48).1 (wdF v 48).2 kb (pS v 1202 6)) - kb))); omega⟩ (fun r4 S4 h4 => ?_)
  obtain ⟨h4a, h4b⟩ := h4
  have h4c := h4b.symm
  subst h4c
  rw [L1] at h4a
  refine r_if_ne (tgt := 16) F dX11_link_9 (by decide) (fun h9 => absurd (by rw [h4a]; exact if_neg (by rw [nl0, nI_eq (by omega) (by omega)]; exact hob)) h9) (fun _ => ?_)
  refine r_iconst (v := 1) F dX11_link_12 (by decide) ?_
  refine r_goto (tgt := 17) F dX11_link_13 (by decide) ?_
  refine t_Sv F G htb hlk (k_requireState hl _) (va_cwS 1 F.2.2.2.2 (zgS km_X11_150 ks_X11_requireState kn_X11 ko_X11_requireState) rfl rfl rfl hd_yX11_requireState ⟨Nat.le_of_ble_eq_true rfl, Nat.le_of_ble_eq_true rfl⟩) rfl rfl (Nat.le_of_ble_eq_true rfl) dX11_link_17 ⟨by show 0 + 0 + 1 ≤ (29 + (((gk km ([] : List Int32).length (mdB v (wdF v 48).1 (wdF v 48).2).length) - km) + ((kSd v (wdF v 48).1 (wdF v 48).2 ks) - ks) + ((kbF v (wdF v 48).1 (wdF v 48).2 kb (pS v 1202 6)) - kb))); omega, by show 0 + 0 + 6 ≤ (1250 + 2 * (((gk km ([] : List Int32).length (mdB v (wdF v 48).1 (wdF v 48).2).length) - km) + ((kSd v (wdF v 48).1 (wdF v 48).2 ks) - ks) + ((kbF v (wdF v 48).1 (wdF v 48).2 kb (pS v 1202 6)) - kb))); omega⟩ (fun E S' h => absurd h.1 (by decide)) (by show 0 + 0 + 1 ≤ (29 + (((gk km ([] : List Int32).length (mdB v (wdF v 48).1 (wdF v 48).2).length) - km) + ((kSd v (wdF v 48).1 (wdF v 48).2 ks) - ks) + ((kbF v (wdF v 48).1 (wdF v 48).2 kb (pS v 1202 6)) - kb))); omega) (by show 0 + 0 + 6 ≤ (1250 + 2 * (((gk km ([] : List Int32).length (mdB v (wdF v 48).1 (wdF v 48).2).length) - km) + ((kSd v (wdF v 48).1 (wdF v 48).2 ks) - ks) + ((kbF v (wdF v 48).1 (wdF v 48).2 kb (pS v 1202 6)) - kb))); omega) (fun S17 h17 => ?_)
  obtain ⟨h17a, h17b⟩ := h17
  have h17c := h17b.symm
  subst h17c
  refine r_aload_n F dX11_link_20 rfl ?_
  refine r_getS (ci := 11) (k := 3) (id := 1103) (C := RX11) (T := TX11) (N := 8) F G rfl (by decide) (by decide) rfl (zinL inG11) (zin kf_X11_33) (fun _ h9 => h9) dX11_link_21 A0 Q10 ?_
  refine r_aload_n F dX11_link_24 rfl ?_
  refine r_getS (ci := 11) (k := 0) (id := 1100) (C := RX11) (T := TX11) (N := 8) F G rfl (by decide) (by decide) rfl (zinL inG11) (zin kf_X11_10) (fun _ h9 => h9) dX11_link_25 A0 Q0 ?_
  refine c_Vv (ci := 3) F G (c_gather hH hR hv rfl rfl) (cwV 1 F.2.2.2.2 (zgV km_X11_153 ki_X2_gather ke_X2_X2_gather kn_X2 ko_X2_gather) rfl rfl rfl ⟨rfl, hd_yX2_gather⟩ ⟨Nat.le_of_ble_eq_true rfl, Nat.le_of_ble_eq_true rfl⟩) rfl (by decide) A10 rfl rfl (Nat.le_of_ble_eq_true rfl) dX11_link_28 ⟨by show 0 + 0 + 1 + 21 ≤ (29 + (((gk km ([] : List Int32).length (mdB v (wdF v 48).1 (wdF v 48).2).length) - km) + ((kSd v (wdF v 48).1 (wdF v 48).2 ks) - ks) + ((kbF v (wdF v 48).1 (wdF v 48).2 kb (pS v 1202 6)) - kb))); omega, by show 0 + 0 + 6 + 933 ≤ (1250 + 2 * (((gk km ([] : List Int32).length (mdB v (wdF v 48).1 (wdF v 48).2).length) - km) + ((kSd v (wdF v 48).1 (wdF v 48).2 ks) - ks) + ((kbF v (wdF v 48).1 (wdF v 48).2 kb (pS v 1202 6)) - kb))); omega⟩ (fun S28 h28 => ?_)
  obtain ⟨ad1, W1, hH1, ka, hs1, hg1⟩ := h28
  clear A0 Q0 L0 L1 L2 A10 Q10
  rw [show ad 2 = ad1 2 from (ka 2 rfl).symm]
  unfold gth at hg1
  have t2 := pS_top hA (t := 1202) (o := 6) (Or.inl rfl) (by omega) (Nat.le_refl _)
  have t3 := pS_top hA (t := 1203) (o := 6) (Or.inr (Or.inl rfl)) (by omega) (Nat.le_refl _)
  have t4 := pS_top hA (t := 1204) (o := 6) (Or.inr (Or.inr rfl)) (by omega) (Nat.le_refl _)
  rw [← t2, ← t3, ← t4] at hg1
  have c1 : ∀ o, o < 6 → cn v 1202 o ≤ 8 := fun o ho => (rg_1202 hv ho).2
  have c2 : ∀ o, o < 6 → cn v 1203 o ≤ 4 := fun o ho => (rg_1203 hv ho).2
  have c3 : ∀ o, o < 6 → cn v 1204 o ≤ 16 := fun o ho => (rg_1204 hv ho).2
  obtain ⟨n38, f38, x1, x2, x3⟩ := hR.2.2.2.2.2.2.2.2.2.2.2.2.2.2.2.2.2.1
  have hR1 : Rep v W1 := hR.img (fun d hd => hs1 d (by omega)) ⟨pS_b c1 6 (Nat.le_refl _), hg1.1, fun i hi => (kd_r _ (eN_t (by decide) c1 hi).1).1⟩ ⟨pS_b c2 6 (Nat.le_refl _), hg1.2.1, fun i hi => (kd_g _ (eN_t (by decide) c2 hi).1).1⟩ ⟨pS_b c3 6 (Nat.le_refl _), hg1.2.2, fun i hi => kd_y _ (eN_t (by decide) c3 hi).1⟩ ⟨x1, x2.same (hs1 _ (by decide)) (hs1 _ (by decide)), x3⟩
  have a21 := hR1.2.1
  have a61 : oa W1 6 := hR1.1.a a21 (id := 1101) (by decide) rfl
  have a101 : oa W1 10 := hR1.1.a a21 (id := 1103) (by decide) rfl
  have A0 : zA S28 (ad1 2) 11 := hH1.al a21 rfl rfl
  have A6 : zA S28 (ad1 6) 6 := hH1.al a61 rfl rfl
  have A10 : zA S28 (ad1 10) 3 := hH1.al a101 rfl rfl
  have Q6 : zq S28 1101 (ad1 2) = some (ad1 6) := hH1.qS a21 rfl (by decide) (hR1.1.q a21 (by decide) rfl) rfl
  have Q10 : zq S28 1103 (ad1 2) = some (ad1 10) := hH1.qS a21 rfl (by decide) (hR1.1.q a21 (by decide) rfl) rfl
  have Q36 : zq S28 302 (ad1 10) = some (ad1 36) := hH1.qS a101 rfl (by decide) (hR1.1.q a101 (by decide) rfl) rfl
  refine r_aload_n F dX11_link_31 rfl ?_
  refine r_getS (ci := 11) (k := 1) (id := 1101) (C := RX11) (T := TX11) (N := 8) F G rfl (by decide) (by decide) rfl (zinL inG11) (zin kf_X11_19) (fun _ h9 => h9) dX11_link_32 A0 Q6 ?_
  refine r_aload_n F dX11_link_35 rfl ?_
  refine r_getS (ci := 11) (k := 3) (id := 1103) (C := RX11) (T := TX11) (N := 8) F G rfl (by decide) (by decide) rfl (zinL inG11) (zin kf_X11_33) (fun _ h9 => h9) dX11_link_36 A0 Q10 ?_
  refine r_getS (ci := 3) (k := 2) (id := 302) (C := RX2) (T := TX2) (N := 8) F G rfl (by decide) (by decide) rfl (zinL inG3) (zin kf_X11_157) (fun _ h9 => h9) dX11_link_39 A10 Q36 ?_
  refine c_Vv (ci := 6) F G (c_join hH1 hR1 hv rfl rfl hg1.2.2) (cwV 1 F.2.2.2.2 (zgV km_X11_158 ki_X5_join ke_X5_X5_join kn_X5 ko_X5_join) rfl rfl rfl ⟨rfl, hd_yX5_join⟩ ⟨Nat.le_of_ble_eq_true rfl, Nat.le_of_ble_eq_true rfl⟩) rfl (by decide) A6 rfl rfl (Nat.le_of_ble_eq_true rfl) dX11_link_42 ⟨by show 0 + 0 + 1 + 21 + 0 ≤ (29 + (((gk km ([] : List Int32).length (mdB v (wdF v 48).1 (wdF v 48).2).length) - km) + ((kSd v (wdF v 48).1 (wdF v 48).2 ks) - ks) + ((kbF v (wdF v 48).1 (wdF v 48).2 kb (pS v 1202 6)) - kb))); omega, by show 0 + 0 + 6 + 933 + 0 ≤ (1250 + 2 * (((gk km ([] : List Int32).length (mdB v (wdF v 48).1 (wdF v 48).2).length) - km) + ((kSd v (wdF v 48).1 (wdF v 48).2 ks) - ks) + ((kbF v (wdF v 48).1 (wdF v 48).2 kb (pS v 1202 6)) - kb))); omega⟩ (fun S42 h42 => ?_)
  obtain ⟨W2, hH2, hw2, hN2, hsq⟩ := h42
  have hQ2 : lnQ v W W2 := lnQ.of hR hv hO hs1 hR1 hg1 hw2 hN2 hsq
  clear A0 A6 A10 Q6 Q10 Q36
  have A0 : zA S42 (ad1 2) 11 := hH2.al hQ2.2.1 rfl rfl
  refine r_iconst (v := 0) F dX11_link_45 (by decide) ?_
  refine r_istore_n F dX11_link_46 (by decide) ?_
  refine r_aload_n F dX11_link_47 rfl ?_
  refine r_iconst (v := -1) F dX11_link_48 (by decide) ?_
  refine r_puti (ci := 11) (k := 7) (id := 1107) (C := RX11) (T := TX11) (N := 8) (ty := .int) (ty0 := tyX11) F G rfl (by decide) (by decide) rfl (zinL inG11) (zin kf_X11_55) (fun _ h9 => h9) tyX11_ok nmX11 rfl pd11_7 rfl rfl dX11_link_49 A0 ?_
  refine zgen (P := zH t0 X S0 ad1 (oI W2 2 1107 (-1))) (hH2.pi hQ2.2.1 rfl rfl (by decide) _) (fun S hH => ?_)
  clear A0
  have hQ3 : lnQ v W (oI W2 2 1107 (-1)) := hQ2.same (hQ2.1.I2 hO hQ2.2.1) (by show (oI W2 2 1107 (-1) 2).1; rw [show oI W2 2 1107 (-1) 2 = eI (W2 2) 1107 (-1) from va_up_self _ _ _]; exact hQ2.2.1) (fun c hc h9 => by have e9 : oI W2 2 1107 (-1) c = W2 c := va_up_ne _ _ (by omega); show (W2 c).1; rw [← e9]; exact h9) (fun c hc => va_up_ne _ _ (by omega))
  have e1107 : oi (oI W2 2 1107 (-1)) 2 1107 = -1 := oI_s
  refine r_iconst (v := 1) F dX11_link_52 (by decide) ?_
  refine r_istore_n F dX11_link_53 (by decide) ?_
  refine zsub (lv' := [(1, .int 0), (2, .int (nI 1)), (0, .ref (ad1 2))]) (by rw [show nI 1 = (1 : Int32) from rfl]; simp [zs1, lv_args, Value.category, show ((1 : Fin 4) : Nat) = 1 from rfl, show ((2 : Fin 4) : Nat) = 2 from rfl, show ((3 : Fin 4) : Nat) = 3 from rfl, show nI 0 = (0 : Int32) from rfl]) ?_
  refine z_loop (fun n S9 lv => ∃ (w : Nat) (W1 : zO), w + n = 8 ∧ 1 ≤ w ∧ zH t0 X S0 ad1 W1 S9 ∧ lnQ v W W1 ∧ ((oi W1 2 1107 = -1 ∧ nB v w ∧ lnS v W1 w ∧ lv = [(1, .int 0), (2, .int (nI w)), (0, .ref (ad1 2))]) ∨ ∃ w9 pl, w = w9 + 1 ∧ lk v w9 pl ∧ oi W1 2 1107 = nI pl ∧ lv = [(1, .int (nI w9)), (2, .int (nI w)), (0, .ref (ad1 2))])) 7 ?_ ⟨1, _, rfl, Nat.le_refl _, hH, hQ3, Or.inl ⟨e1107, ⟨fun h => absurd h (by decide), fun h => absurd h (by decide), fun h => absurd h (by decide), fun h => absurd h (by decide), fun h => absurd h (by decide), fun h => absurd h (by decide), fun h => absurd h (by decide)⟩, ⟨fun h => absurd h (by decide), fun h => absurd h (by decide)⟩, rfl⟩⟩
  clear hH hQ3 e1107 hH1 hH2
  rintro n S lv ⟨w, W3, hwn, hw1, hH, hQ, hcase⟩ ih
  have a23 := hQ.2.1
  have hw3 := hQ.1.1
  have A0 : zA S (ad1 2) 11 := hH.al a23 rfl rfl
  rcases hcase with ⟨e7, hnB, hS9, rfl⟩ | ⟨w9, pl, ew, hlk9, e7, rfl⟩
  · 
    refine r_iload_n F dX11_link_54 rfl ?_
    refine r_bipush (v := 7) F dX11_link_55 (by decide) ?_
    refine r_icmp_gt (tgt := 97) F dX11_link_57 (by decide) (fun c57 => ?_) (fun c57 => ?_)
    · have hw8 : w = 8 := by have c9 := c57; rw [show (7 : Int32) = nI 7 from rfl, nI_ltI (by omega) (by omega)] at c9; omega
      subst hw8
      clear ih hwn
      refine r_aload_n F dX11_link_97 rfl ?_
      refine r_iload_n F dX11_link_98 rfl ?_
      refine r_if_ne (tgt := 106) F dX11_link_99 (by decide) (fun h9 => absurd (show (0 : Int32) = 0 from rfl) h9) (fun _ => ?_)
      refine r_iconst (v := 1) F dX11_link_102 (by decide) ?_
      refine r_goto (tgt := 107) F dX11_link_103 (by decide) ?_
      refine r_puti (ci := 11) (k := 6) (id := 1106) (C := RX11) (T := TX11) (N := 8) (ty := .boolean) (ty0 := tyX11) F G rfl (by decide) (by decide) rfl (zinL inG11) (zin kf_X11_51) (fun _ h9 => h9) tyX11_ok nmX11 rfl pd11_6 rfl rfl dX11_link_107 A0 ?_
      refine zgen (P := zH t0 X S0 ad1 (oI W3 2 1106 1)) (hH.pi a23 rfl rfl (by decide) _) (fun S hH => ?_)
      clear A0
      have e6 : oI W3 2 1106 1 2 = eI (W3 2) 1106 1 := va_up_self _ _ _
      have a25 : oa (oI W3 2 1106 1) 2 := by show (oI W3 2 1106 1 2).1; rw [e6]; exact a23
      have hQ5 : lnQ v W (oI W3 2 1106 1) := hQ.same (hQ.1.I2 hO a23) a25 (fun c hc h9 => by have e9 : oI W3 2 1106 1 c = W3 c := va_up_ne _ _ (by omega); show (W3 c).1; rw [← e9]; exact h9) (fun c hc => va_up_ne _ _ (by omega))
      have e56 : oi (oI W3 2 1106 1) 2 1106 = 1 := oI_s
      have e57 : oi (oI W3 2 1106 1) 2 1107 = -1 := by show (oI W3 2 1106 1 2).2.1 1107 = _; rw [e6]; exact (va_up_ne (W3 2).2.1 1 (show (1107 : Nat) ≠ 1106 by decide)).trans e7
      have s5 : ∀ c, c ≠ 2 → oI W3 2 1106 1 c = W3 c := fun c hc => va_up_ne _ _ hc
      generalize oI W3 2 1106 1 = W5 at hH hQ5 e56 e57 s5 a25
      clear e6
      have hw5 := hQ5.1.1
      have a105 : oa W5 10 := hw5.a a25 (id := 1103) (by decide) rfl
      have A0 : zA S (ad1 2) 11 := hH.al a25 rfl rfl
      have A10 : zA S (ad1 10) 3 := hH.al a105 rfl rfl
      have I6 : zi S 1106 (ad1 2) = 1 := (hH.i a25 rfl (by decide)).trans e56
      have Q10 : zq S 1103 (ad1 2) = some (ad1 10) := hH.qS a25 rfl (by decide) (hw5.q a25 (by decide) rfl) rfl
      have hK : kEq v := kEq.of (fun z hz h9 => hn8.2.2.2.2.1 (by decide) z hz h9)
      have hg : allG v := hn8.1 (by decide)
      have hS5 : lnS v W5 8 := ⟨fun h f hf ht => (hS9.1 h f hf ht).same (fun c hc => s5 c (by omega)), fun h => ⟨fun g hg ht => by show (W5 (800 + 4 * g)).2.1 802 = _; rw [s5 _ (by omega)]; exact (hS9.2 h).1 g hg ht, by show (W5 10).2.1 307 = _; rw [s5 _ (by decide)]; exact (hS9.2 h).2⟩⟩
      obtain ⟨n9, f9, q1, q2, q3⟩ := hQ5.2.2.2.2.2.2.2.1
      refine r_aload_n F dX11_link_110 rfl ?_
      refine r_getiS (ci := 11) (k := 6) (id := 1106) (C := RX11) (T := TX11) (N := 8) F G rfl (by decide) (by decide) rfl (zinL inG11) (zin kf_X11_51) (fun _ h9 => h9) dX11_link_111 A0 I6 ?_
      refine r_if_eq (tgt := 135) F dX11_link_114 (by decide) (fun h9 => absurd h9 (show ¬ (1 : Int32) = 0 by decide)) (fun _ => ?_)
      refine r_aload_n F dX11_link_117 rfl ?_
      refine r_getS (ci := 11) (k := 3) (id := 1103) (C := RX11) (T := TX11) (N := 8) F G rfl (by decide) (by decide) rfl (zinL inG11) (zin kf_X11_33) (fun _ h9 => h9) dX11_link_118 A0 Q10 ?_
      refine c_Vv (ci := 3) F G (c_number hH hQ5.1 hv hA hD hO hQ5.2.2.2.2.2.2.1 hK hg a105 q1 q2 hQ5.2.2.2.2.1.1) (cwV 0 F.2.2.2.2 (zgV km_X11_165 ki_X2_number ke_X2_X2_number kn_X2 ko_X2_number) rfl rfl rfl ⟨rfl, hd_yX2_number⟩ ⟨Nat.le_of_ble_eq_true rfl, Nat.le_of_ble_eq_true rfl⟩) rfl (by decide) A10 rfl rfl (Nat.le_of_ble_eq_true rfl) dX11_link_121 ⟨by show 0 + 0 + 1 + 21 + 0 + 7 ≤ (29 + (((gk km ([] : List Int32).length (mdB v (wdF v 48).1 (wdF v 48).2).length) - km) + ((kSd v (wdF v 48).1 (wdF v 48).2 ks) - ks) + ((kbF v (wdF v 48).1 (wdF v 48).2 kb (pS v 1202 6)) - kb))); omega, by show 0 + 0 + 6 + 933 + 0 + 311 ≤ (1250 + 2 * (((gk km ([] : List Int32).length (mdB v (wdF v 48).1 (wdF v 48).2).length) - km) + ((kSd v (wdF v 48).1 (wdF v 48).2 ks) - ks) + ((kbF v (wdF v 48).1 (wdF v 48).2 kb (pS v 1202 6)) - kb))); omega⟩ (fun S121 h121 => ?_)
      obtain ⟨ad6, W6, hH6, ka6, nA6, hT6, hU6, hN6⟩ := h121
      clear A0 A10 Q10 I6
      have a26 : oa W6 2 := (nA6.al (by decide) (by decide)).mpr a25
      have hB6 := nA6.B hQ5.1 hU6.1.1 hO
      have hw6 := hB6.1
      have a106 : oa W6 10 := hw6.a a26 (id := 1103) (by decide) rfl
      have a126 : oa W6 12 := hw6.a a26 (id := 1104) (by decide) rfl
      rw [show ad1 2 = ad6 2 from (ka6 2 (by decide)).symm]
      have A0 : zA S121 (ad6 2) 11 := hH6.al a26 rfl rfl
      have A12 : zA S121 (ad6 12) 5 := hH6.al a126 rfl rfl
      have Q10 : zq S121 1103 (ad6 2) = some (ad6 10) := hH6.qS a26 rfl (by decide) (hw6.q a26 (by decide) rfl) rfl
      have Q12 : zq S121 1104 (ad6 2) = some (ad6 12) := hH6.qS a26 rfl (by decide) (hw6.q a26 (by decide) rfl) rfl
      have sm6 : ∀ c, c ≠ 38 → c ≠ 39 → c ≠ 10 → c ≠ 40 → c ≠ 42 → (∀ f, f < 48 → c ≠ 200 + 12 * f) → W6 c = W5 c := fun c h1 h2 h3 h4 h5 h6 => (nA6 c h1 h2).2.2.2.2.2 h3 h4 h5 h6
      have hLd : ldd v W6 (wdF v 48).1 (wdF v 48).2 := ⟨hB6, nA6.Sr hQ5.2.2.2.2.2.2.1, hT6, hU6, hN6, fun g hg ht => by show (W6 (800 + 4 * g)).2.1 802 = _; rw [sm6 _ (by omega) (by omega) (by omega) (by omega) (by omega) (fun f hf => by omega)]; exact (hS5.2 (by decide)).1 g hg ht, hQ5.2.2.2.2.1.1.same (sm6 _ (by decide) (by decide) (by decide) (by decide) (by decide) (fun f hf => by omega)) (sm6 _ (by decide) (by decide) (by decide) (by decide) (by decide) (fun f hf => by omega)), hQ5.2.2.2.2.1.2.1.same (sm6 _ (by decide) (by decide) (by decide) (by decide) (by decide) (fun f hf => by omega)) (sm6 _ (by decide) (by decide) (by decide) (by decide) (by decide) (fun f hf => by omega)), a106, a126, hO⟩
      have byt : ∀ d, 44 ≤ d → d < 50 → W6 d = W d := fun d h1 h2 => (sm6 d (by omega) (by omega) (by omega) (by omega) (by omega) (fun f hf => by omega)).trans (hQ5.2.2.2.2.2.2.2.2 d h1 h2)
      have hM6 := hM.same (byt 44 (by decide) (by decide)) (byt 45 (by decide) (by decide))
      have hC6 := hC.same (byt 46 (by decide) (by decide)) (byt 47 (by decide) (by decide))
      have hY6 := hY.same (byt 48 (by decide) (by decide)) (byt 49 (by decide) (by decide))
      have hDD := wdF_D hv hD hg 48 (Nat.le_refl _)
      refine r_aload_n F dX11_link_124 rfl ?_
      refine r_getS (ci := 11) (k := 4) (id := 1104) (C := RX11) (T := TX11) (N := 8) F G rfl (by decide) (by decide) rfl (zinL inG11) (zin kf_X11_40) (fun _ h9 => h9) dX11_link_125 A0 Q12 ?_
      refine r_aload_n F dX11_link_128 rfl ?_
      refine r_getS (ci := 11) (k := 3) (id := 1103) (C := RX11) (T := TX11) (N := 8) F G rfl (by decide) (by decide) rfl (zinL inG11) (zin kf_X11_33) (fun _ h9 => h9) dX11_link_129 A0 Q10 ?_
      refine c_Vv (ci := 5) F G (c_write hH6 hLd hM6 hC6 hY6 hv hA hD hK (fun f hf ht k hk => hg.g hf ht hk) hDD.1 hDD.2 (fun f hf ht k hk hw => plc_32 hf ht hk hw) (fun f hf ht => plc_sh hf ht) (wdF_th hv hD hK hg 48 (Nat.le_refl _))) (cwV 1 F.2.2.2.2 (zgV km_X11_168 ki_X4_write ke_X4_X4_write kn_X4 ko_X4_write) rfl rfl rfl ⟨rfl, hd_yX4_write⟩ ⟨Nat.le_of_ble_eq_true rfl, Nat.le_of_ble_eq_true rfl⟩) rfl (by decide) A12 rfl rfl (Nat.le_of_ble_eq_true rfl) dX11_link_132 ⟨by show 0 + 0 + 1 + 21 + 0 + 7 + (((gk km ([] : List Int32).length (mdB v (wdF v 48).1 (wdF v 48).2).length) - km) + ((kSd v (wdF v 48).1 (wdF v 48).2 ks) - ks) + ((kbF v (wdF v 48).1 (wdF v 48).2 kb (pS v 1202 6)) - kb)) ≤ (29 + (((gk km ([] : List Int32).length (mdB v (wdF v 48).1 (wdF v 48).2).length) - km) + ((kSd v (wdF v 48).1 (wdF v 48).2 ks) - ks) + ((kbF v (wdF v 48).1 (wdF v 48).2 kb (pS v 1202 6)) - kb))); omega, by show 0 + 0 + 6 + 933 + 0 + 311 + 2 * (((gk km ([] : List Int32).length (mdB v (wdF v 48).1 (wdF v 48).2).length) - km) + ((kSd v (wdF v 48).1 (wdF v 48).2 ks) - ks) + ((kbF v (wdF v 48).1 (wdF v 48).2 kb (pS v 1202 6)) - kb)) ≤ (1250 + 2 * (((gk km ([] : List Int32).length (mdB v (wdF v 48).1 (wdF v 48).2).length) - km) + ((kSd v (wdF v 48).1 (wdF v 48).2 ks) - ks) + ((kbF v (wdF v 48).1 (wdF v 48).2 kb (pS v 1202 6)) - kb))); omega⟩ (fun S132 h132 => ?_)
      refine r_iload_n F dX11_link_135 rfl ?_
      obtain ⟨Lb9, ad7, W7, hH7, ka7, kw7, hM7, hC7, hY7⟩ := h132
      have hLd7 := hLd.same kw7 hM7 hC7 hY7
      have hx6 : ∀ f, f < 48 → f % 8 < cn v 1202 (f / 8) → xR v W7 f := fun f hf ht => (hS5.1 (by decide) f hf ht).same (fun c hc => (kw7 c (by omega)).trans (sm6 c (by omega) (by omega) (by omega) (by omega) (by omega) (fun f hf => by omega)))
      have e10 : oi W7 10 307 = nI (aS v 24) := by
        show (W7 10).2.1 307 = _
        rw [kw7 10 (by decide), (nA6 10 (by decide) (by decide)).2.2.2.2.1 307 (by decide) (by decide) (by decide)]
        exact (hS5.2 (by decide)).2
      have e2 : W7 2 = W5 2 := (kw7 2 (by decide)).trans (sm6 2 (by decide) (by decide) (by decide) (by decide) (by decide) (fun f hf => by omega))
      have hX7 : rpX W7 := by
        obtain ⟨u1, u2, u3, -, -, -, -⟩ := hQ5.X hv hR.2.2.2.2.2.2.2.2.2.2.2.2.2.2
        obtain ⟨n1, f1, u11, u12, u13⟩ := u1
        obtain ⟨n2, f2, u21, u22, u23⟩ := u2
        obtain ⟨n3, f3, u31, u32, u33⟩ := u3
        have k7 : ∀ c, 32 ≤ c → c < 38 → W7 c = W5 c := fun c h1 h2 => (kw7 c (by omega)).trans (sm6 c (by omega) (by omega) (by omega) (by omega) (by omega) (fun f hf => by omega))
        exact ⟨⟨n1, f1, u11, u12.same (k7 _ (by decide) (by decide)) (k7 _ (by decide) (by decide)), u13⟩, ⟨n2, f2, u21, u22.same (k7 _ (by decide) (by decide)) (k7 _ (by decide) (by decide)), u23⟩, ⟨n3, f3, u31, u32.same (k7 _ (by decide) (by decide)) (k7 _ (by decide) (by decide)), u33⟩, ⟨_, _, nD_len _ _ hDD.2, hLd7.2.2.2.1.1, fun i hi => (kd_r _ (hDD.2.2 _ (getD_mem hi))).1⟩, hM7.vb, hC7.vb, hY7.vb⟩
      refine x_iret F hr hlk ⟨rfl, ad7, W7, hH7, fun d hd he => (ka7 d (by omega) (by omega) (by omega)).trans ((ka6 d (by omega)).trans (ka d he)), ⟨hn8, hLd7, hx6, e10, _, hM7⟩, fun v1 h1 => ?_, hM7, hC7, Lb9, hY7⟩ (by show 0 + 0 + 1 + 21 + 0 + 0 + 7 + (((gk km ([] : List Int32).length (mdB v (wdF v 48).1 (wdF v 48).2).length) - km) + ((kSd v (wdF v 48).1 (wdF v 48).2 ks) - ks) + ((kbF v (wdF v 48).1 (wdF v 48).2 kb (pS v 1202 6)) - kb)) ≤ (29 + (((gk km ([] : List Int32).length (mdB v (wdF v 48).1 (wdF v 48).2).length) - km) + ((kSd v (wdF v 48).1 (wdF v 48).2 ks) - ks) + ((kbF v (wdF v 48).1 (wdF v 48).2 kb (pS v 1202 6)) - kb))); omega) (by show 0 + 0 + 6 + 933 + 0 + 0 + 311 + 2 * (((gk km ([] : List Int32).length (mdB v (wdF v 48).1 (wdF v 48).2).length) - km) + ((kSd v (wdF v 48).1 (wdF v 48).2 ks) - ks) + ((kbF v (wdF v 48).1 (wdF v 48).2 kb (pS v 1202 6)) - kb)) ≤ (1250 + 2 * (((gk km ([] : List Int32).length (mdB v (wdF v 48).1 (wdF v 48).2).length) - km) + ((kSd v (wdF v 48).1 (wdF v 48).2 ks) - ks) + ((kbF v (wdF v 48).1 (wdF v 48).2 kb (pS v 1202 6)) - kb))); omega) dX11_link_136
      have s14 : ∀ c, c = 4 ∨ c = 5 ∨ c = 14 ∨ c = 58 → W7 c = W5 c := fun c hc => (kw7 c (by omega)).trans (sm6 c (by omega) (by omega) (by omega) (by omega) (by omega) (fun f hf => by omega))
      refine hR.ln hLd7.1 (by show (W7 2).1; rw [e2]; exact a25) (fun c hc h9 => ?_) ((s14 4 (by decide)).trans hQ5.2.2.2.1.1) ((s14 5 (by decide)).trans hQ5.2.2.2.1.2.1) ((s14 14 (by decide)).trans hQ5.2.2.2.1.2.2.1) ((s14 58 (by decide)).trans hQ5.2.2.2.1.2.2.2) hX7 h1.1 ?_ ?_
      · refine hQ5.2.2.1 c hc ((nA6.al (by omega) (by omega)).mp ?_)
        show (W6 c).1
        rw [← kw7 c (by omega)]
        exact h9
      · show (W7 2).2.1 1106 = _
        rw [e2, h1.2.1]; exact e56
      · show (W7 2).2.1 1107 = _
        rw [e2, h1.2.2.1]; exact e57
    · refine r_aload_n F dX11_link_60 rfl ?_
      refine r_getiS (ci := 11) (k := 7) (id := 1107) (C := RX11) (T := TX11) (N := 8) F G rfl (by decide) (by decide) rfl (zinL inG11) (zin kf_X11_55) (fun _ h9 => h9) dX11_link_61 A0 (show zi S 1107 (ad1 2) = -1 from (hH.i a23 rfl (by decide)).trans e7) ?_
      refine r_iconst (v := -1) F dX11_link_64 (by decide) ?_
      refine r_icmp_ne (tgt := 97) F dX11_link_65 (by decide) (fun h9 => absurd (show (-1 : Int32) = -1 from rfl) h9) (fun _ => ?_)
      have hw7 : w ≤ 7 := by have c9 := c57; rw [show (7 : Int32) = nI 7 from rfl, nI_ltI (by omega) (by omega)] at c9; omega
      refine r_aload_n F dX11_link_68 rfl ?_
      refine r_aload_n F dX11_link_69 rfl ?_
      refine r_iload_n F dX11_link_70 rfl ?_
      refine c_Vi (ci := 11) F G (c_placeOf hH hv hA hD hO hQ hw1 (by omega) hnB hS9) (cwV 1 F.2.2.2.2 (zgV km_X11_161 ki_X11_placeOf ke_X11_X11_placeOf kn_X11 ko_X11_placeOf) rfl rfl rfl ⟨rfl, hd_yX11_placeOf⟩ ⟨Nat.le_of_ble_eq_true rfl, Nat.le_of_ble_eq_true rfl⟩) rfl (by decide) A0 rfl rfl (Nat.le_of_ble_eq_true rfl) dX11_link_71 ⟨by show 0 + 0 + 1 + 21 + 0 + 0 ≤ (29 + (((gk km ([] : List Int32).length (mdB v (wdF v 48).1 (wdF v 48).2).length) - km) + ((kSd v (wdF v 48).1 (wdF v 48).2 ks) - ks) + ((kbF v (wdF v 48).1 (wdF v 48).2 kb (pS v 1202 6)) - kb))); omega, by show 0 + 0 + 6 + 933 + 0 + 0 ≤ (1250 + 2 * (((gk km ([] : List Int32).length (mdB v (wdF v 48).1 (wdF v 48).2).length) - km) + ((kSd v (wdF v 48).1 (wdF v 48).2 ks) - ks) + ((kbF v (wdF v 48).1 (wdF v 48).2 kb (pS v 1202 6)) - kb))); omega⟩ (fun r71 S71 h71 => ?_)
      obtain ⟨W4, hH4, hQ4, e42, hres⟩ := h71
      clear A0
      have a24 := hQ4.2.1
      have A0 : zA S71 (ad1 2) 11 := hH4.al a24 rfl rfl
      refine r_puti (ci := 11) (k := 7) (id := 1107) (C := RX11) (T := TX11) (N := 8) (ty := .int) (ty0 := tyX11) F G rfl (by decide) (by decide) rfl (zinL inG11) (zin kf_X11_55) (fun _ h9 => h9) tyX11_ok nmX11 rfl pd11_7 rfl rfl dX11_link_74 A0 ?_
      refine zgen (P := zH t0 X S0 ad1 (oI W4 2 1107 r71)) (hH4.pi a24 rfl rfl (by decide) _) (fun S hH => ?_)
      clear A0
      have a25 : oa (oI W4 2 1107 r71) 2 := by show (oI W4 2 1107 r71 2).1; rw [show oI W4 2 1107 r71 2 = eI (W4 2) 1107 r71 from va_up_self _ _ _]; exact a24
      have hQ5 : lnQ v W (oI W4 2 1107 r71) := hQ4.same (hQ4.1.I2 hO a24) a25 (fun c hc h9 => by have e9 : oI W4 2 1107 r71 c = W4 c := va_up_ne _ _ (by omega); show (W4 c).1; rw [← e9]; exact h9) (fun c hc => va_up_ne _ _ (by omega))
      have e57 : oi (oI W4 2 1107 r71) 2 1107 = r71 := oI_s
      have s5 : ∀ c, c ≠ 2 → oI W4 2 1107 r71 c = W4 c := fun c hc => va_up_ne _ _ hc
      generalize oI W4 2 1107 r71 = W5 at hH hQ5 e57 s5 a25
      have A0 : zA S (ad1 2) 11 := hH.al a25 rfl rfl
      have I7 : zi S 1107 (ad1 2) = r71 := (hH.i a25 rfl (by decide)).trans e57
      refine r_aload_n F dX11_link_77 rfl ?_
      refine r_getiS (ci := 11) (k := 7) (id := 1107) (C := RX11) (T := TX11) (N := 8) F G rfl (by decide) (by decide) rfl (zinL inG11) (zin kf_X11_55) (fun _ h9 => h9) dX11_link_78 A0 I7 ?_
      refine r_iconst (v := -1) F dX11_link_81 (by decide) ?_
      refine r_icmp_ne (tgt := 89) F dX11_link_82 (by decide) (fun c82 => ?_) (fun c82 => ?_)
      · refine r_iload_n F dX11_link_89 rfl ?_
        refine r_istore_n F dX11_link_90 (by decide) ?_
        obtain ⟨pl, er, hlk9⟩ : ∃ pl, r71 = nI pl ∧ lk v w pl := by
          rcases hres with ⟨h1, -⟩ | h1
          · exact absurd h1 c82
          · exact h1
        refine r_iinc F dX11_link_91 rfl (by decide) ?_
        refine r_goto (tgt := 54) F dX11_link_94 (by decide) ?_
        refine zsub (lv' := [(1, .int (nI w)), (2, .int (nI (w + 1))), (0, .ref (ad1 2))]) (by rw [show nI (w + 1) = nI w + Int32.ofInt 1 from (nI_add w 1).symm]; simp [zs1, lv_args, Value.category, show ((1 : Fin 4) : Nat) = 1 from rfl, show ((2 : Fin 4) : Nat) = 2 from rfl, show ((3 : Fin 4) : Nat) = 3 from rfl, show nI 0 = (0 : Int32) from rfl]) ?_
        exact ih (n - 1) _ _ (by omega) ⟨w + 1, W5, by omega, by omega, hH, hQ5, Or.inr ⟨w, pl, rfl, hlk9, e57.trans er, rfl⟩⟩
      · refine r_iconst (v := 0) F dX11_link_85 (by decide) ?_
        refine r_goto (tgt := 90) F dX11_link_86 (by decide) ?_
        refine r_istore_n F dX11_link_90 (by decide) ?_
        obtain ⟨hnB2, hS2⟩ : nB v (w + 1) ∧ lnS v W5 (w + 1) := by
          rcases hres with ⟨h1, h2, h3⟩ | ⟨pl, h1, h2⟩
          · exact ⟨h2, fun h f hf ht => (h3.1 h f hf ht).same (fun c hc => s5 c (by omega)), fun h => ⟨fun g hg ht => by show (W5 (800 + 4 * g)).2.1 802 = _; rw [s5 _ (by omega)]; exact (h3.2 h).1 g hg ht, by show (W5 10).2.1 307 = _; rw [s5 _ (by decide)]; exact (h3.2 h).2⟩⟩
          · exfalso
            have h9 := lk.pl hv h2
            have h8 : nI pl = -1 := by rw [← h1]; exact c82
            have h7 : (nI pl).toInt = (-1 : Int32).toInt := by rw [h8]
            rw [nI_toInt (by omega)] at h7
            have h6 : (-1 : Int32).toInt = -1 := rfl
            omega
        refine r_iinc F dX11_link_91 rfl (by decide) ?_
        refine r_goto (tgt := 54) F dX11_link_94 (by decide) ?_
        refine zsub (lv' := [(1, .int 0), (2, .int (nI (w + 1))), (0, .ref (ad1 2))]) (by rw [show nI (w + 1) = nI w + Int32.ofInt 1 from (nI_add w 1).symm]; simp [zs1, lv_args, Value.category, show ((1 : Fin 4) : Nat) = 1 from rfl, show ((2 : Fin 4) : Nat) = 2 from rfl, show ((3 : Fin 4) : Nat) = 3 from rfl, show nI 0 = (0 : Int32) from rfl]) ?_
        exact ih (n - 1) _ _ (by omega) ⟨w + 1, W5, by omega, by omega, hH, hQ5, Or.inl ⟨e57.trans c82, hnB2, hS2, rfl⟩⟩
  · exact absurd (hn8) (hlk9.no (by have := hlk9.b; omega))
