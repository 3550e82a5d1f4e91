theorem eN_o {v : zV} {t M o k : Nat} (hM : 0 < M) (ho : o < 6) (hk : k < cn v t o) (hc : cn v t o ≤ M) : eN v t M (pS v t o + k) = M * o + k := by
  have e1 : (M * o + k) / M = o := by rw [Nat.mul_add_div hM, Nat.div_eq_of_lt (by omega)]; omega
  have e2 : (M * o + k) % M = k := by rw [Nat.mul_add_mod, Nat.mod_eq_of_lt (by omega)]
  have h6 : M * o + M ≤ 6 * M := by rw [← Nat.mul_succ, Nat.mul_comm]; exact Nat.mul_le_mul_right M (by omega)
  have h := eN_at (v := v) (t := t) (M := M) (x := M * o + k) hM (by omega) (by rw [e1, e2]; exact hk)
  unfold pN at h
  rw [e1, e2] at h
  exact h
def gth (v : zV) (W : zO) (n1 n2 n3 : Nat) : Prop := vl W 32 n1 (fun i => 200 + 12 * eN v 1202 8 i) ∧ vl W 34 n2 (fun i => 800 + 4 * eN v 1203 4 i) ∧ vl W 36 n3 (fun i => 900 + 2 * eN v 1204 16 i)
set_option maxRecDepth 100000 in
set_option maxHeartbeats 4000000 in
theorem c_gather {l : Launch} {N0 t0 : Nat} {D : va_G} {cy : Nat → ClassId} {S : zS} {X : Nat → Prop} {S0 : zS} {ad : Nat → Nat} {W : zO} (hH : zH t0 X S0 ad W S) {v : zV} (hR : Rep v W) (hv : vRg v) {a b : Nat} (ea : ad 10 = a) (eb : ad 4 = b) : zMv l yX2_gather (zws yX2_gather cX2_gather 5 none) { frames := 7, cells := 21, slots := 933, locals := 169 } N0 t0 D cy S [.ref a, .ref b] (fun S' => ∃ (ad' : Nat → Nat) (W' : zO), zH t0 X S0 ad' W' S' ∧ (∀ d, d % 2 = 0 → ad' d = ad d) ∧ (∀ d, d < 32 ∨ 38 ≤ d → W' d = W d) ∧ gth v W' (pS v 1202 (cn v 1201 0)) (pS v 1203 (cn v 1201 0)) (pS v 1204 (cn v 1201 0))) 21 933 := by
  refine zMv.of (cc := cX2_gather) (maxL := 5) (ret := none) (by decide) rfl (Nat.le_of_ble_eq_true rfl) ?_
  intro p e s m args below meth c F G hr hlk hnm
  subst ea
  subst eb
  have h6 := (rg_1201 hv (k := 0) (by decide)).2
  have c1 : ∀ o, o < 6 → cn v 1202 o ≤ 8 := fun o ho => (rg_1202 hv ho).2
  have c2 : ∀ o, o < 6 → cn v 1203 o ≤ 4 := fun o ho => (rg_1203 hv ho).2
  have c3 : ∀ o, o < 6 → cn v 1204 o ≤ 16 := fun o ho => (rg_1204 hv ho).2
  have aI : oa W 10 := hR.1.a hR.2.1 (id := 1103) (by decide) rfl
  refine r_aload_n F dX2_gather_0 rfl ?_
  have hX := hR.2.2.2.2.2.2.2.2.2.2.2.2.2.2
  obtain ⟨⟨n1, f1, b1, hl1, -⟩, ⟨n2, f2, b2, hl2', -⟩, ⟨n3, f3, b3, hl3', -⟩, -⟩ := hX
  have I0 : zA S (ad 10) 3 := hH.al aI rfl rfl
  have J0 : zq S 300 (ad 10) = some (ad 32) := hH.qS aI rfl (by decide) (hR.1.q aI (by decide) rfl) rfl
  refine r_getS (ci := 3) (k := 0) (id := 300) (C := RX2) (T := TX2) (N := 8) F G rfl (by decide) (by decide) rfl (zinL inG3) (zin kf_X2_12) (fun _ h9 => h9) dX2_gather_1 I0 J0 ?_
  refine c_Fv (ci := 0) F G (k_clear (k := n1) (hl1.al hH rfl rfl) (hl1.E hH rfl rfl) (hl1.z hH rfl rfl) (by omega) (fun h9 => by have g := hl1.get hH rfl h9; exact ⟨g.1, g.2.1, g.2.2.1⟩)) (va_cwF 0 F.2.2.2.2 (zgF km_X2_34 ke_Jx4a65c_Jxbd725_clear ki_Jx4a65c_clear_da8c8 kn_Jx4a65c ko_Jx4a65c_clear_da8c8) rfl rfl rfl (G.2.2.2.2.1 (⟨"java/util/List", "clear", "()V"⟩, yJx4a65c_clear_da8c8) (List.mem_of_getElem? (i := 4) rfl)) hdF_clear ⟨Nat.le_of_ble_eq_true rfl, Nat.le_of_ble_eq_true rfl⟩) rfl (by decide) (hl1.al hH rfl rfl) rfl rfl (Nat.le_of_ble_eq_true rfl) dX2_gather_4 ⟨Nat.le_of_ble_eq_true rfl, Nat.le_of_ble_eq_true rfl⟩ (fun S4 h4 => ?_)
  obtain ⟨w4, h4⟩ := h4
  obtain ⟨W1, hH1, hv1, hs1⟩ := hl1.clear hH rfl rfl rfl h4
  clear hH
  have hH := hH1
  clear hH1
  have aI1 : oa W1 10 := oa_eq (hs1 10 (by decide) (by decide)) aI
  have q1 : oq W1 10 301 = some 34 := by show (W1 10).2.2.1 301 = _; rw [hs1 10 (by decide) (by decide)]; exact hR.1.q aI (by decide) rfl
  have hl2 : vl W1 34 n2 f2 := hl2'.same (hs1 _ (by decide) (by decide)) (hs1 _ (by decide) (by decide))
  have I1 : zA S4 (ad 10) 3 := hH.al aI1 rfl rfl
  have J1 : zq S4 301 (ad 10) = some (ad 34) := hH.qS aI1 rfl (by decide) q1 rfl
  refine r_aload_n F dX2_gather_9 rfl ?_
  refine r_getS (ci := 3) (k := 1) (id := 301) (C := RX2) (T := TX2) (N := 8) F G rfl (by decide) (by decide) rfl (zinL inG3) (zin kf_X2_18) (fun _ h9 => h9) dX2_gather_10 I1 J1 ?_
  refine c_Fv (ci := 0) F G (k_clear (k := n2) (hl2.al hH rfl rfl) (hl2.E hH rfl rfl) (hl2.z hH rfl rfl) (by omega) (fun h9 => by have g := hl2.get hH rfl h9; exact ⟨g.1, g.2.1, g.2.2.1⟩)) (va_cwF 0 F.2.2.2.2 (zgF km_X2_34 ke_Jx4a65c_Jxbd725_clear ki_Jx4a65c_clear_da8c8 kn_Jx4a65c ko_Jx4a65c_clear_da8c8) rfl rfl rfl (G.2.2.2.2.1 (⟨"java/util/List", "clear", "()V"⟩, yJx4a65c_clear_da8c8) (List.mem_of_getElem? (i := 4) rfl)) hdF_clear ⟨Nat.le_of_ble_eq_true rfl, Nat.le_of_ble_eq_true rfl⟩) rfl (by decide) (hl2.al hH rfl rfl) rfl rfl (Nat.le_of_ble_eq_true rfl) dX2_gather_13 ⟨Nat.le_of_ble_eq_true rfl, Nat.le_of_ble_eq_true rfl⟩ (fun S13 h13 => ?_)
  obtain ⟨w13, h13⟩ := h13
  obtain ⟨W2, hH2, hv2, hs2⟩ := hl2.clear hH rfl rfl rfl h13
  clear hH
  have hH := hH2
  clear hH2
  have aI2 : oa W2 10 := oa_eq (hs2 10 (by decide) (by decide)) aI1
  have q2 : oq W2 10 302 = some 36 := by show (W2 10).2.2.1 302 = _; rw [hs2 10 (by decide) (by decide), hs1 10 (by decide) (by decide)]; exact hR.1.q aI (by decide) rfl
  have hl3 : vl W2 36 n3 f3 := (hl3'.same (hs1 _ (by decide) (by decide)) (hs1 _ (by decide) (by decide))).same (hs2 _ (by decide) (by decide)) (hs2 _ (by decide) (by decide))
  have I2 : zA S13 (ad 10) 3 := hH.al aI2 rfl rfl
  have J2 : zq S13 302 (ad 10) = some (ad 36) := hH.qS aI2 rfl (by decide) q2 rfl
  refine r_aload_n F dX2_gather_18 rfl ?_
  refine r_getS (ci := 3) (k := 2) (id := 302) (C := RX2) (T := TX2) (N := 8) F G rfl (by decide) (by decide) rfl (zinL inG3) (zin kf_X2_21) (fun _ h9 => h9) dX2_gather_19 I2 J2 ?_
  refine c_Fv (ci := 0) F G (k_clear (k := n3) (hl3.al hH rfl rfl) (hl3.E hH rfl rfl) (hl3.z hH rfl rfl) (by omega) (fun h9 => by have g := hl3.get hH rfl h9; exact ⟨g.1, g.2.1, g.2.2.1⟩)) (va_cwF 0 F.2.2.2.2 (zgF km_X2_34 ke_Jx4a65c_Jxbd725_clear ki_Jx4a65c_clear_da8c8 kn_Jx4a65c ko_Jx4a65c_clear_da8c8) rfl rfl rfl (G.2.2.2.2.1 (⟨"java/util/List", "clear", "()V"⟩, yJx4a65c_clear_da8c8) (List.mem_of_getElem? (i := 4) rfl)) hdF_clear ⟨Nat.le_of_ble_eq_true rfl, Nat.le_of_ble_eq_true rfl⟩) rfl (by decide) (hl3.al hH rfl rfl) rfl rfl (Nat.le_of_ble_eq_true rfl) dX2_gather_22 ⟨Nat.le_of_ble_eq_true rfl, Nat.le_of_ble_eq_true rfl⟩ (fun S22 h22 => ?_)
  obtain ⟨w22, h22⟩ := h22
  obtain ⟨W3, hH3, hv3, hs3⟩ := hl3.clear hH rfl rfl rfl h22
  clear hH
  have hH := hH3
  clear hH3
  have hW3 : ∀ d, d < 32 ∨ 38 ≤ d → W3 d = W d := fun d hd => (hs3 d (by omega) (by omega)).trans ((hs2 d (by omega) (by omega)).trans (hs1 d (by omega) (by omega)))
  have hG3 : gth v W3 0 0 0 := ⟨((hv1.same (hs2 _ (by decide) (by decide)) (hs2 _ (by decide) (by decide))).same (hs3 _ (by decide) (by decide)) (hs3 _ (by decide) (by decide))).cg (fun i hi => absurd hi (Nat.not_lt_zero i)), (hv2.same (hs3 _ (by decide) (by decide)) (hs3 _ (by decide) (by decide))).cg (fun i hi => absurd hi (Nat.not_lt_zero i)), hv3.cg (fun i hi => absurd hi (Nat.not_lt_zero i))⟩
  refine r_iconst (v := 0) F dX2_gather_27 (by decide) ?_
  refine r_istore_n F dX2_gather_28 (by decide) ?_
  refine z_loop2 (fun n cl sl S9 lv => ∃ o ad9 W9, o + n = cn v 1201 0 ∧ zH t0 X S0 ad9 W9 S9 ∧ (∀ d, d % 2 = 0 → ad9 d = ad d) ∧ (∀ d, d < 32 ∨ 38 ≤ d → W9 d = W d) ∧ gth v W9 (pS v 1202 o) (pS v 1203 o) (pS v 1204 o) ∧ cl = CC (pS v 1202 o) + CC (pS v 1203 o) + CC (pS v 1204 o) ∧ sl = CS (pS v 1202 o) + CS (pS v 1203 o) + CS (pS v 1204 o) ∧ lv = [(2, .int (nI o)), (0, .ref (ad 10)), (1, .ref (ad 4))]) (cn v 1201 0) ?_ ⟨0, ad, W3, by omega, hH, fun _ _ => rfl, hW3, hG3, rfl, rfl, rfl⟩
  clear hH hW3 hG3
  rintro n cl sl S lv ⟨o, ad9, W9, hn9, hH, hs, hW9, hG, hcl, hsl, rfl⟩ ih
  have hl4 := hR.2.2.1.same (hW9 4 (by omega)) (hW9 5 (by omega))
  have B0 : zA S (ad 4) 0 := hl4.al hH rfl (hs 4 rfl)
  have B1 : zi S 2 (ad 4) = nI (cn v 1201 0) := hl4.z hH rfl (hs 4 rfl)
  have B2 : zq S 1 (ad 4) = some (vlq t0 ad9 W9 4) := hl4.E hH rfl (hs 4 rfl)
  have hB9 := CC_b (pS v 1202 o) (by have := pS_b (v := v) (t := 1202) (M := 8) c1 o (by omega); omega)
  have hB8 := CC_b (pS v 1203 o) (by have := pS_b (v := v) (t := 1203) (M := 4) c2 o (by omega); omega)
  have hB7 := CC_b (pS v 1204 o) (by have := pS_b (v := v) (t := 1204) (M := 16) c3 o (by omega); omega)
  refine r_iload_n F dX2_gather_29 rfl ?_
  refine r_aload_n F dX2_gather_30 rfl ?_
  refine c_Fi (ci := 0) F G (k_ListSize B0) (va_cwF 0 F.2.2.2.2 (zgF km_X2_39 ke_Jx4a65c_Jxbd725_size ki_Jx4a65c_size_8abf5 kn_Jx4a65c ko_Jx4a65c_size_8abf5) rfl rfl rfl (G.2.2.2.2.1 (⟨"java/util/List", "size", "()I"⟩, yJx4a65c_size_8abf5) (List.mem_of_getElem? (i := 0) rfl)) hdF_size ⟨Nat.le_of_ble_eq_true rfl, Nat.le_of_ble_eq_true rfl⟩) rfl (by decide) B0 rfl rfl (Nat.le_of_ble_eq_true rfl) dX2_gather_31 ⟨by show _ + 0 ≤ 21; omega, by show _ + 0 ≤ 933; omega⟩ (fun r31 S31 h31 => ?_)
  obtain ⟨h31a, h31b⟩ := h31
  have h31c := h31b.symm
  subst h31c
  rw [B1] at h31a
  subst h31a
  refine r_icmp_ge (tgt := 197) F dX2_gather_36 (by decide) (fun c36 => ?_) (fun c36 => ?_)
  · have ho : o = cn v 1201 0 := by rw [nI_leI (by omega) (by omega)] at c36; omega
    subst ho
    exact e_vret F hr hlk ⟨ad9, W9, hH, hs, hW9, hG⟩ (by show _ + 0 ≤ 21; omega) (by show _ + 0 ≤ 933; omega) dX2_gather_197
  · have ho : o < cn v 1201 0 := by rw [nI_leI (by omega) (by omega)] at c36; omega
    have hU := hR.2.2.2.1 o ho
    have hk := kd_u o (by omega)
    have gg := hl4.get hH rfl ho
    have hUA : zA S (ad9 (100 + 8 * o)) 10 := hH.al (oa_eq (hW9 _ (by omega)) hU.1) rfl hk.1
    have c1o := c1 o (by omega)
    have c2o := c2 o (by omega)
    have c3o := c3 o (by omega)
    refine r_aload_n F dX2_gather_39 rfl ?_
    refine r_iload_n F dX2_gather_40 rfl ?_
    refine c_Fq (ci := 0) F G (k_get B0 B2 gg.1 B1 ho gg.2.1 gg.2.2.1) (va_cwF 1 F.2.2.2.2 (zgF km_X2_43 ke_Jx4a65c_Jxbd725_get ki_Jx4a65c_get_915e3 kn_Jx4a65c ko_Jx4a65c_get_915e3) rfl rfl rfl (G.2.2.2.2.1 (⟨"java/util/List", "get", "(I)Ljava/lang/Object;"⟩, yJx4a65c_get_915e3) (List.mem_of_getElem? (i := 2) rfl)) hdF_get ⟨Nat.le_of_ble_eq_true rfl, Nat.le_of_ble_eq_true rfl⟩) rfl (by decide) B0 rfl rfl (Nat.le_of_ble_eq_true rfl) dX2_gather_41 ⟨by show _ + 0 ≤ 21; omega, by show _ + 0 ≤ 933; omega⟩ (fun r41 S41 h41 => ?_)
    obtain ⟨h41a, h41b⟩ := h41
    have h41c := h41b.symm
    subst h41c
    rw [gg.2.2.2] at h41a
    subst h41a
    refine r_cast (a := ad9 (100 + 8 * o)) (ci := 10) F G hUA (by decide) rfl (List.mem_of_getElem? (i := 5) rfl) (zin kc_X2_47) dX2_gather_46 ?_
    refine r_astore_n (x := ad9 (100 + 8 * o)) F dX2_gather_49 (by decide) ?_
    rw [hs (100 + 8 * o) (by omega)]
    refine r_iconst (v := 0) F dX2_gather_50 (by decide) ?_
    refine r_istore F dX2_gather_51 (by decide) ?_
    refine z_loop2 (fun n2 cl sl S9 lv => ∃ k ad9 W9, k + n2 = cn v 1202 o ∧ zH t0 X S0 ad9 W9 S9 ∧ (∀ d, d % 2 = 0 → ad9 d = ad d) ∧ (∀ d, d < 32 ∨ 38 ≤ d → W9 d = W d) ∧ gth v W9 (pS v 1202 o + k) (pS v 1203 o) (pS v 1204 o) ∧ cl = CC ((pS v 1202 o + k)) + CC (pS v 1203 o) + CC (pS v 1204 o) ∧ sl = CS ((pS v 1202 o + k)) + CS (pS v 1203 o) + CS (pS v 1204 o) ∧ lv = [(4, .int (nI k)), (3, .ref (ad (100 + 8 * o))), (2, .int (nI o)), (0, .ref (ad 10)), (1, .ref (ad 4))]) (cn v 1202 o) ?_ ⟨0, ad9, W9, by omega, hH, hs, hW9, hG, by first | rfl | exact hcl | omega, by first | rfl | exact hsl | omega, rfl⟩
    clear hH hs hW9 hG hcl hsl
    rintro n2 cl sl S lv ⟨k, ad9, W9, hn2, hH, hs, hW9, hG, hcl, hsl, rfl⟩ ih2
    have hlU : vl W9 ((100 + 8 * o) + 2) (cn v 1202 o) (fun j => 200 + 12 * (8 * o + j)) := hU.2.1.same (hW9 _ (by omega)) (hW9 _ (by omega))
    have aU : oa W9 (100 + 8 * o) := oa_eq (hW9 _ (by omega)) hU.1
    have U0 : zA S (ad (100 + 8 * o)) 10 := hH.al aU (hs _ (by omega)) hk.1
    have U1 : zq S 1000 (ad (100 + 8 * o)) = some (ad ((100 + 8 * o) + 2)) := hH.qS aU (hs _ (by omega)) (by rw [hk.1]; decide) (by show (W9 (100 + 8 * o)).2.2.1 1000 = _; rw [hW9 _ (by omega)]; exact hR.1.q hU.1 (by decide) hk.1) (hs _ (by omega))
    have U2 : zA S (ad ((100 + 8 * o) + 2)) 0 := hlU.al hH hk.2.1 (hs _ (by omega))
    have U3 : zi S 2 (ad ((100 + 8 * o) + 2)) = nI (cn v 1202 o) := hlU.z hH hk.2.1 (hs _ (by omega))
    have U4 : zq S 1 (ad ((100 + 8 * o) + 2)) = some (vlq t0 ad9 W9 ((100 + 8 * o) + 2)) := hlU.E hH hk.2.1 (hs _ (by omega))
    have aI9 : oa W9 10 := oa_eq (hW9 10 (by omega)) aI
    have I9 : zA S (ad 10) 3 := hH.al aI9 (hs 10 rfl) rfl
    have J9 : zq S 300 (ad 10) = some (ad 32) := hH.qS aI9 (hs 10 rfl) (by decide) (by show (W9 10).2.2.1 300 = _; rw [hW9 10 (by omega)]; exact hR.1.q aI (by decide) rfl) (hs 32 rfl)
    have K0 : zA S (ad 32) 0 := hG.1.al hH rfl (hs 32 rfl)
    have hQ1 := CC_b ((pS v 1202 o + k)) (by have h9 := pS_b (v := v) (t := 1202) (M := 8) c1 (o + 1) (by omega); have e9 : pS v 1202 (o + 1) = pS v 1202 o + cn v 1202 o := rfl; omega)
    have hQ2 := CC_b (pS v 1203 o) (by have h9 := pS_b (v := v) (t := 1203) (M := 4) c2 (o + 1) (by omega); have e9 : pS v 1203 (o + 1) = pS v 1203 o + cn v 1203 o := rfl; omega)
    have hQ3 := CC_b (pS v 1204 o) (by have h9 := pS_b (v := v) (t := 1204) (M := 16) c3 (o + 1) (by omega); have e9 : pS v 1204 (o + 1) = pS v 1204 o + cn v 1204 o := rfl; omega)
    have hNb : (pS v 1202 o + k) ≤ 96 := by have := pS_b (v := v) (t := 1202) (M := 8) c1 o (by omega); omega
    refine r_iload F dX2_gather_53 rfl ?_
    refine r_aload_n F dX2_gather_55 rfl ?_
    refine r_getS (ci := 10) (k := 0) (id := 1000) (C := RX9) (T := TX9) (N := 3) F G rfl (by decide) (by decide) rfl (zinL inG10) (zin kf_X2_49) (fun _ h9 => h9) dX2_gather_56 U0 U1 ?_
    refine c_Fi (ci := 0) F G (k_ListSize U2) (va_cwF 0 F.2.2.2.2 (zgF km_X2_39 ke_Jx4a65c_Jxbd725_size ki_Jx4a65c_size_8abf5 kn_Jx4a65c ko_Jx4a65c_size_8abf5) rfl rfl rfl (G.2.2.2.2.1 (⟨"java/util/List", "size", "()I"⟩, yJx4a65c_size_8abf5) (List.mem_of_getElem? (i := 0) rfl)) hdF_size ⟨Nat.le_of_ble_eq_true rfl, Nat.le_of_ble_eq_true rfl⟩) rfl (by decide) U2 rfl rfl (Nat.le_of_ble_eq_true rfl) dX2_gather_59 ⟨by show _ + 0 ≤ 21; omega, by show _ + 0 ≤ 933; omega⟩ (fun r59 S59 h59 => ?_)
    obtain ⟨h59a, h59b⟩ := h59
    have h59c := h59b.symm
    subst h59c
    rw [U3] at h59a
    subst h59a
    refine r_icmp_ge (tgt := 97) F dX2_gather_64 (by decide) (fun c64 => ?_) (fun c64 => ?_)
    · have hkc : k = cn v 1202 o := by rw [nI_leI (by omega) (by omega)] at c64; omega
      subst hkc
      refine r_iconst (v := 0) F dX2_gather_97 (by decide) ?_
      refine r_istore F dX2_gather_98 (by decide) ?_
      refine z_loop2 (fun n2 cl sl S9 lv => ∃ k ad9 W9, k + n2 = cn v 1203 o ∧ zH t0 X S0 ad9 W9 S9 ∧ (∀ d, d % 2 = 0 → ad9 d = ad d) ∧ (∀ d, d < 32 ∨ 38 ≤ d → W9 d = W d) ∧ gth v W9 (pS v 1202 (o + 1)) (pS v 1203 o + k) (pS v 1204 o) ∧ cl = CC (pS v 1202 (o + 1)) + CC ((pS v 1203 o + k)) + CC (pS v 1204 o) ∧ sl = CS (pS v 1202 (o + 1)) + CS ((pS v 1203 o + k)) + CS (pS v 1204 o) ∧ lv = [(4, .int (nI k)), (3, .ref (ad (100 + 8 * o))), (2, .int (nI o)), (0, .ref (ad 10)), (1, .ref (ad 4))]) (cn v 1203 o) ?_ ⟨0, ad9, W9, by omega, hH, hs, hW9, hG, by first | rfl | exact hcl | omega, by first | rfl | exact hsl | omega, rfl⟩
      clear hH hs hW9 hG hcl hsl
      rintro n2 cl sl S lv ⟨k, ad9, W9, hn2, hH, hs, hW9, hG, hcl, hsl, rfl⟩ ih2
      have hlU : vl W9 ((100 + 8 * o) + 4) (cn v 1203 o) (fun j => 800 + 4 * (4 * o + j)) := hU.2.2.1.same (hW9 _ (by omega)) (hW9 _ (by omega))
      have aU : oa W9 (100 + 8 * o) := oa_eq (hW9 _ (by omega)) hU.1
      have U0 : zA S (ad (100 + 8 * o)) 10 := hH.al aU (hs _ (by omega)) hk.1
      have U1 : zq S 1001 (ad (100 + 8 * o)) = some (ad ((100 + 8 * o) + 4)) := hH.qS aU (hs _ (by omega)) (by rw [hk.1]; decide) (by show (W9 (100 + 8 * o)).2.2.1 1001 = _; rw [hW9 _ (by omega)]; exact hR.1.q hU.1 (by decide) hk.1) (hs _ (by omega))
      have U2 : zA S (ad ((100 + 8 * o) + 4)) 0 := hlU.al hH hk.2.2.2.1 (hs _ (by omega))
      have U3 : zi S 2 (ad ((100 + 8 * o) + 4)) = nI (cn v 1203 o) := hlU.z hH hk.2.2.2.1 (hs _ (by omega))
      have U4 : zq S 1 (ad ((100 + 8 * o) + 4)) = some (vlq t0 ad9 W9 ((100 + 8 * o) + 4)) := hlU.E hH hk.2.2.2.1 (hs _ (by omega))
      have aI9 : oa W9 10 := oa_eq (hW9 10 (by omega)) aI
      have I9 : zA S (ad 10) 3 := hH.al aI9 (hs 10 rfl) rfl
      have J9 : zq S 301 (ad 10) = some (ad 34) := hH.qS aI9 (hs 10 rfl) (by decide) (by show (W9 10).2.2.1 301 = _; rw [hW9 10 (by omega)]; exact hR.1.q aI (by decide) rfl) (hs 34 rfl)
      have K0 : zA S (ad 34) 0 := hG.2.1.al hH rfl (hs 34 rfl)
      have hQ1 := CC_b (pS v 1202 (o + 1)) (by have h9 := pS_b (v := v) (t := 1202) (M := 8) c1 (o + 1) (by omega); have e9 : pS v 1202 (o + 1) = pS v 1202 o + cn v 1202 o := rfl; omega)
      have hQ2 := CC_b ((pS v 1203 o + k)) (by have h9 := pS_b (v := v) (t := 1203) (M := 4) c2 (o + 1) (by omega); have e9 : pS v 1203 (o + 1) = pS v 1203 o + cn v 1203 o := rfl; omega)
      have hQ3 := CC_b (pS v 1204 o) (by have h9 := pS_b (v := v) (t := 1204) (M := 16) c3 (o + 1) (by omega); have e9 : pS v 1204 (o + 1) = pS v 1204 o + cn v 1204 o := rfl; omega)
      have hNb : (pS v 1203 o + k) ≤ 96 := by have := pS_b (v := v) (t := 1203) (M := 4) c2 o (by omega); omega
      refine r_iload F dX2_gather_100 rfl ?_
      refine r_aload_n F dX2_gather_102 rfl ?_
      refine r_getS (ci := 10) (k := 1) (id := 1001) (C := RX9) (T := TX9) (N := 3) F G rfl (by decide) (by decide) rfl (zinL inG10) (zin kf_X2_56) (fun _ h9 => h9) dX2_gather_103 U0 U1 ?_
      refine c_Fi (ci := 0) F G (k_ListSize U2) (va_cwF 0 F.2.2.2.2 (zgF km_X2_39 ke_Jx4a65c_Jxbd725_size ki_Jx4a65c_size_8abf5 kn_Jx4a65c ko_Jx4a65c_size_8abf5) rfl rfl rfl (G.2.2.2.2.1 (⟨"java/util/List", "size", "()I"⟩, yJx4a65c_size_8abf5) (List.mem_of_getElem? (i := 0) rfl)) hdF_size ⟨Nat.le_of_ble_eq_true rfl, Nat.le_of_ble_eq_true rfl⟩) rfl (by decide) U2 rfl rfl (Nat.le_of_ble_eq_true rfl) dX2_gather_106 ⟨by show _ + 0 ≤ 21; omega, by show _ + 0 ≤ 933; omega⟩ (fun r106 S106 h106 => ?_)
      obtain ⟨h106a, h106b⟩ := h106
      have h106c := h106b.symm
      subst h106c
      rw [U3] at h106a
      subst h106a
      refine r_icmp_ge (tgt := 144) F dX2_gather_111 (by decide) (fun c111 => ?_) (fun c111 => ?_)
      · have hkc : k = cn v 1203 o := by rw [nI_leI (by omega) (by omega)] at c111; omega
        subst hkc
        refine r_iconst (v := 0) F dX2_gather_144 (by decide) ?_
        refine r_istore F dX2_gather_145 (by decide) ?_
        refine z_loop2 (fun n2 cl sl S9 lv => ∃ k ad9 W9, k + n2 = cn v 1204 o ∧ zH t0 X S0 ad9 W9 S9 ∧ (∀ d, d % 2 = 0 → ad9 d = ad d) ∧ (∀ d, d < 32 ∨ 38 ≤ d → W9 d = W d) ∧ gth v W9 (pS v 1202 (o + 1)) (pS v 1203 (o + 1)) (pS v 1204 o + k) ∧ cl = CC (pS v 1202 (o + 1)) + CC (pS v 1203 (o + 1)) + CC ((pS v 1204 o + k)) ∧ sl = CS (pS v 1202 (o + 1)) + CS (pS v 1203 (o + 1)) + CS ((pS v 1204 o + k)) ∧ lv = [(4, .int (nI k)), (3, .ref (ad (100 + 8 * o))), (2, .int (nI o)), (0, .ref (ad 10)), (1, .ref (ad 4))]) (cn v 1204 o) ?_ ⟨0, ad9, W9, by omega, hH, hs, hW9, hG, by first | rfl | exact hcl | omega, by first | rfl | exact hsl | omega, rfl⟩
        clear hH hs hW9 hG hcl hsl
        rintro n2 cl sl S lv ⟨k, ad9, W9, hn2, hH, hs, hW9, hG, hcl, hsl, rfl⟩ ih2
        have hlU : vl W9 ((100 + 8 * o) + 6) (cn v 1204 o) (fun j => 900 + 2 * (16 * o + j)) := hU.2.2.2.same (hW9 _ (by omega)) (hW9 _ (by omega))
        have aU : oa W9 (100 + 8 * o) := oa_eq (hW9 _ (by omega)) hU.1
        have U0 : zA S (ad (100 + 8 * o)) 10 := hH.al aU (hs _ (by omega)) hk.1
        have U1 : zq S 1002 (ad (100 + 8 * o)) = some (ad ((100 + 8 * o) + 6)) := hH.qS aU (hs _ (by omega)) (by rw [hk.1]; decide) (by show (W9 (100 + 8 * o)).2.2.1 1002 = _; rw [hW9 _ (by omega)]; exact hR.1.q hU.1 (by decide) hk.1) (hs _ (by omega))
        have U2 : zA S (ad ((100 + 8 * o) + 6)) 0 := hlU.al hH hk.2.2.2.2.2.1 (hs _ (by omega))
        have U3 : zi S 2 (ad ((100 + 8 * o) + 6)) = nI (cn v 1204 o) := hlU.z hH hk.2.2.2.2.2.1 (hs _ (by omega))
        have U4 : zq S 1 (ad ((100 + 8 * o) + 6)) = some (vlq t0 ad9 W9 ((100 + 8 * o) + 6)) := hlU.E hH hk.2.2.2.2.2.1 (hs _ (by omega))
        have aI9 : oa W9 10 := oa_eq (hW9 10 (by omega)) aI
        have I9 : zA S (ad 10) 3 := hH.al aI9 (hs 10 rfl) rfl
        have J9 : zq S 302 (ad 10) = some (ad 36) := hH.qS aI9 (hs 10 rfl) (by decide) (by show (W9 10).2.2.1 302 = _; rw [hW9 10 (by omega)]; exact hR.1.q aI (by decide) rfl) (hs 36 rfl)
        have K0 : zA S (ad 36) 0 := hG.2.2.al hH rfl (hs 36 rfl)
        have hQ1 := CC_b (pS v 1202 (o + 1)) (by have h9 := pS_b (v := v) (t := 1202) (M := 8) c1 (o + 1) (by omega); have e9 : pS v 1202 (o + 1) = pS v 1202 o + cn v 1202 o := rfl; omega)
        have hQ2 := CC_b (pS v 1203 (o + 1)) (by have h9 := pS_b (v := v) (t := 1203) (M := 4) c2 (o + 1) (by omega); have e9 : pS v 1203 (o + 1) = pS v 1203 o + cn v 1203 o := rfl; omega)
        have hQ3 := CC_b ((pS v 1204 o + k)) (by have h9 := pS_b (v := v) (t := 1204) (M := 16) c3 (o + 1) (by omega); have e9 : pS v 1204 (o + 1) = pS v 1204 o + cn v 1204 o := rfl; omega)
        have hNb : (pS v 1204 o + k) ≤ 96 := by have := pS_b (v := v) (t := 1204) (M := 16) c3 o (by omega); omega
        refine r_iload F dX2_gather_147 rfl ?_
        refine r_aload_n F dX2_gather_149 rfl ?_
        refine r_getS (ci := 10) (k := 2) (id := 1002) (C := RX9) (T := TX9) (N := 3) F G rfl (by decide) (by decide) rfl (zinL inG10) (zin kf_X2_59) (fun _ h9 => h9) dX2_gather_150 U0 U1 ?_
        refine c_Fi (ci := 0) F G (k_ListSize U2) (va_cwF 0 F.2.2.2.2 (zgF km_X2_39 ke_Jx4a65c_Jxbd725_size ki_Jx4a65c_size_8abf5 kn_Jx4a65c ko_Jx4a65c_size_8abf5) rfl rfl rfl (G.2.2.2.2.1 (⟨"java/util/List", "size", "()I"⟩, yJx4a65c_size_8abf5) (List.mem_of_getElem? (i := 0) rfl)) hdF_size ⟨Nat.le_of_ble_eq_true rfl, Nat.le_of_ble_eq_true rfl⟩) rfl (by decide) U2 rfl rfl (Nat.le_of_ble_eq_true rfl) dX2_gather_153 ⟨by show _ + 0 ≤ 21; omega, by show _ + 0 ≤ 933; omega⟩ (fun r153 S153 h153 => ?_)
        obtain ⟨h153a, h153b⟩ := h153
        have h153c := h153b.symm
        subst h153c
        rw [U3] at h153a
        subst h153a
        refine r_icmp_ge (tgt := 191) F dX2_gather_158 (by decide) (fun c158 => ?_) (fun c158 => ?_)
        · have hkc : k = cn v 1204 o := by rw [nI_leI (by omega) (by omega)] at c158; omega
          subst hkc
          refine r_iinc F dX2_gather_191 rfl (by decide) ?_
          refine r_goto (tgt := 29) F dX2_gather_194 (by decide) ?_
          refine zsub (lv' := [(2, .int (nI (o + 1))), (0, .ref (ad 10)), (1, .ref (ad 4))]) (by rw [show nI (o + 1) = nI o + Int32.ofInt 1 from (nI_add o 1).symm]; simp [zs1, Value.category, show ((1 : Fin 4) : Nat) = 1 from rfl, show ((2 : Fin 4) : Nat) = 2 from rfl, show ((3 : Fin 4) : Nat) = 3 from rfl]) ?_
          exact ih (n - 1) _ _ _ _ (by omega) ⟨o + 1, ad9, W9, by omega, hH, hs, hW9, hG, by rw [hcl]; rfl, by rw [hsl]; rfl, rfl⟩
        · have hkc : k < cn v 1204 o := by rw [nI_leI (by omega) (by omega)] at c158; omega
          have gg := hlU.get hH hk.2.2.2.2.2.2 hkc
          have hxa : oa W9 (900 + 2 * (16 * o + k)) := ((hH.cl (hlU.pos (by omega)).2.1).2 k _ ((hlU.pos (by omega)).2.2.2.2 k hkc)).1
          have hxA : zA S (ad9 (900 + 2 * (16 * o + k))) 9 := hH.al hxa rfl (kd_y (16 * o + k) (by omega))
          have hCC : CC ((pS v 1204 o + k) + 1) ≤ 7 ∧ CS ((pS v 1204 o + k) + 1) ≤ 311 := CC_b _ (by have := pS_mono (v := v) (t := 1204) (show o + 1 ≤ 6 by omega); have : pS v 1204 (o + 1) = pS v 1204 o + cn v 1204 o := rfl; have := pS_b (v := v) (t := 1204) (M := 16) c3 6 (Nat.le_refl _); omega)
          have hC1 : CC ((pS v 1204 o + k) + 1) = CC (pS v 1204 o + k) + chC (pS v 1204 o + k) := rfl
          have hC2 : CS ((pS v 1204 o + k) + 1) = CS (pS v 1204 o + k) + chS (pS v 1204 o + k) := rfl
          have hrow := hG.2.2.row hH rfl (ci := 9) (fun i hi => kd_y _ (by have h9 := (eN_t (v := v) (t := 1204) (M := 16) (by decide) c3 (i := i) (by have := pS_mono (v := v) (t := 1204) (show o + 1 ≤ 6 by omega); have : pS v 1204 (o + 1) = pS v 1204 o + cn v 1204 o := rfl; omega)).1; omega)) (by have := pS_b (v := v) (t := 1204) (M := 16) c3 o (by omega); have := c3 o (by omega); omega)
          refine r_aload_n F dX2_gather_161 rfl ?_
          refine r_getS (ci := 3) (k := 2) (id := 302) (C := RX2) (T := TX2) (N := 8) F G rfl (by decide) (by decide) rfl (zinL inG3) (zin kf_X2_21) (fun _ h9 => h9) dX2_gather_162 I9 J9 ?_
          refine r_aload_n F dX2_gather_165 rfl ?_
          refine r_getS (ci := 10) (k := 2) (id := 1002) (C := RX9) (T := TX9) (N := 3) F G rfl (by decide) (by decide) rfl (zinL inG10) (zin kf_X2_59) (fun _ h9 => h9) dX2_gather_166 U0 U1 ?_
          refine r_iload F dX2_gather_169 rfl ?_
          refine c_Fq (ci := 0) F G (k_get U2 U4 gg.1 U3 hkc gg.2.1 gg.2.2.1) (va_cwF 1 F.2.2.2.2 (zgF km_X2_43 ke_Jx4a65c_Jxbd725_get ki_Jx4a65c_get_915e3 kn_Jx4a65c ko_Jx4a65c_get_915e3) rfl rfl rfl (G.2.2.2.2.1 (⟨"java/util/List", "get", "(I)Ljava/lang/Object;"⟩, yJx4a65c_get_915e3) (List.mem_of_getElem? (i := 2) rfl)) hdF_get ⟨Nat.le_of_ble_eq_true rfl, Nat.le_of_ble_eq_true rfl⟩) rfl (by decide) U2 rfl rfl (Nat.le_of_ble_eq_true rfl) dX2_gather_171 ⟨by show _ + 0 ≤ 21; omega, by show _ + 0 ≤ 933; omega⟩ (fun r171 S171 h171 => ?_)
          obtain ⟨h171a, h171b⟩ := h171
          have h171c := h171b.symm
          subst h171c
          rw [gg.2.2.2] at h171a
          subst h171a
          refine r_cast (a := ad9 (900 + 2 * (16 * o + k))) (ci := 9) F G hxA (by decide) rfl (List.mem_of_getElem? (i := 4) rfl) (zin kc_X2_60) dX2_gather_176 ?_
          refine c_Fi (ci := 0) F G (k_add K0 (hG.2.2.E hH rfl (hs 36 rfl)) (hG.2.2.z hH rfl (hs 36 rfl)) (ci := 9) (by decide) rfl (List.mem_of_getElem? (i := 8) rfl) hxA hrow) (va_cwF 1 F.2.2.2.2 (zgF km_X2_52 ke_Jx4a65c_Jxbd725_add ki_Jx4a65c_add_9ea2d kn_Jx4a65c ko_Jx4a65c_add_9ea2d) rfl rfl rfl (G.2.2.2.2.1 (⟨"java/util/List", "add", "(Ljava/lang/Object;)Z"⟩, yJx4a65c_add_9ea2d) (List.mem_of_getElem? (i := 3) rfl)) hdF_add ⟨Nat.le_of_ble_eq_true rfl, Nat.le_of_ble_eq_true rfl⟩) rfl (by decide) K0 rfl rfl (Nat.le_of_ble_eq_true rfl) dX2_gather_179 ⟨by show _ + chC (pS v 1204 o + k) ≤ 21; omega, by show _ + chS (pS v 1204 o + k) ≤ 933; omega⟩ (fun r179 S179 h179 => ?_)
          obtain ⟨q1, h179⟩ := h179
          obtain ⟨ad7, W7, hH7, g7, hl7, w9⟩ := hG.2.2.add hH (by decide) rfl rfl hxa (by omega) (hs 36 rfl) rfl h179
          have hl9 : vl W7 36 ((pS v 1204 o + k) + 1) (fun i => 900 + 2 * eN v 1204 16 i) := hl7.cg (fun j hj => by
            by_cases e9 : j = (pS v 1204 o + k)
            · subst e9
              rw [va_up_self]
              show _ = 900 + 2 * eN v 1204 16 (pS v 1204 o + k)
              rw [eN_o (by decide) (by omega) hkc (c3 o (by omega))]
            · exact va_up_ne _ _ e9)
          refine r_pop F dX2_gather_184 rfl ?_
          refine r_iinc F dX2_gather_185 rfl (by decide) ?_
          refine r_goto (tgt := 147) F dX2_gather_188 (by decide) ?_
          exact ih2 (n2 - 1) _ _ _ _ (by omega) ⟨k + 1, ad7, W7, by omega, hH7, fun d hd => (g7 d (by omega)).trans (hs d hd), fun d hd => (w9 d (by omega) (by omega)).trans (hW9 d hd), ⟨hG.1.same (w9 _ (by decide) (by decide)) (w9 _ (by decide) (by decide)), hG.2.1.same (w9 _ (by decide) (by decide)) (w9 _ (by decide) (by decide)), hl9⟩, by have e9 : CC ((pS v 1204 o + (k + 1))) = CC (pS v 1204 o + k) + chC (pS v 1204 o + k) := rfl; omega, by have e9 : CS ((pS v 1204 o + (k + 1))) = CS (pS v 1204 o + k) + chS (pS v 1204 o + k) := rfl; omega, by rw [show nI k + Int32.ofInt 1 = nI (k + 1) from nI_add k 1]; rfl⟩
      · have hkc : k < cn v 1203 o := by rw [nI_leI (by omega) (by omega)] at c111; omega
        have gg := hlU.get hH hk.2.2.2.2.1 hkc
        have hxa : oa W9 (800 + 4 * (4 * o + k)) := ((hH.cl (hlU.pos (by omega)).2.1).2 k _ ((hlU.pos (by omega)).2.2.2.2 k hkc)).1
        have hxA : zA S (ad9 (800 + 4 * (4 * o + k))) 8 := hH.al hxa rfl ((kd_g (4 * o + k) (by omega)).1)
        have hCC : CC ((pS v 1203 o + k) + 1) ≤ 7 ∧ CS ((pS v 1203 o + k) + 1) ≤ 311 := CC_b _ (by have := pS_mono (v := v) (t := 1203) (show o + 1 ≤ 6 by omega); have : pS v 1203 (o + 1) = pS v 1203 o + cn v 1203 o := rfl; have := pS_b (v := v) (t := 1203) (M := 4) c2 6 (Nat.le_refl _); omega)
        have hC1 : CC ((pS v 1203 o + k) + 1) = CC (pS v 1203 o + k) + chC (pS v 1203 o + k) := rfl
        have hC2 : CS ((pS v 1203 o + k) + 1) = CS (pS v 1203 o + k) + chS (pS v 1203 o + k) := rfl
        have hrow := hG.2.1.row hH rfl (ci := 8) (fun i hi => (kd_g _ (by have h9 := (eN_t (v := v) (t := 1203) (M := 4) (by decide) c2 (i := i) (by have := pS_mono (v := v) (t := 1203) (show o + 1 ≤ 6 by omega); have : pS v 1203 (o + 1) = pS v 1203 o + cn v 1203 o := rfl; omega)).1; omega)).1) (by have := pS_b (v := v) (t := 1203) (M := 4) c2 o (by omega); have := c2 o (by omega); omega)
        refine r_aload_n F dX2_gather_114 rfl ?_
        refine r_getS (ci := 3) (k := 1) (id := 301) (C := RX2) (T := TX2) (N := 8) F G rfl (by decide) (by decide) rfl (zinL inG3) (zin kf_X2_18) (fun _ h9 => h9) dX2_gather_115 I9 J9 ?_
        refine r_aload_n F dX2_gather_118 rfl ?_
        refine r_getS (ci := 10) (k := 1) (id := 1001) (C := RX9) (T := TX9) (N := 3) F G rfl (by decide) (by decide) rfl (zinL inG10) (zin kf_X2_56) (fun _ h9 => h9) dX2_gather_119 U0 U1 ?_
        refine r_iload F dX2_gather_122 rfl ?_
        refine c_Fq (ci := 0) F G (k_get U2 U4 gg.1 U3 hkc gg.2.1 gg.2.2.1) (va_cwF 1 F.2.2.2.2 (zgF km_X2_43 ke_Jx4a65c_Jxbd725_get ki_Jx4a65c_get_915e3 kn_Jx4a65c ko_Jx4a65c_get_915e3) rfl rfl rfl (G.2.2.2.2.1 (⟨"java/util/List", "get", "(I)Ljava/lang/Object;"⟩, yJx4a65c_get_915e3) (List.mem_of_getElem? (i := 2) rfl)) hdF_get ⟨Nat.le_of_ble_eq_true rfl, Nat.le_of_ble_eq_true rfl⟩) rfl (by decide) U2 rfl rfl (Nat.le_of_ble_eq_true rfl) dX2_gather_124 ⟨by show _ + 0 ≤ 21; omega, by show _ + 0 ≤ 933; omega⟩ (fun r124 S124 h124 => ?_)
        obtain ⟨h124a, h124b⟩ := h124
        have h124c := h124b.symm
        subst h124c
        rw [gg.2.2.2] at h124a
        subst h124a
        refine r_cast (a := ad9 (800 + 4 * (4 * o + k))) (ci := 8) F G hxA (by decide) rfl (List.mem_of_getElem? (i := 3) rfl) (zin kc_X2_57) dX2_gather_129 ?_
        refine c_Fi (ci := 0) F G (k_add K0 (hG.2.1.E hH rfl (hs 34 rfl)) (hG.2.1.z hH rfl (hs 34 rfl)) (ci := 8) (by decide) rfl (List.mem_of_getElem? (i := 7) rfl) hxA hrow) (va_cwF 1 F.2.2.2.2 (zgF km_X2_52 ke_Jx4a65c_Jxbd725_add ki_Jx4a65c_add_9ea2d kn_Jx4a65c ko_Jx4a65c_add_9ea2d) rfl rfl rfl (G.2.2.2.2.1 (⟨"java/util/List", "add", "(Ljava/lang/Object;)Z"⟩, yJx4a65c_add_9ea2d) (List.mem_of_getElem? (i := 3) rfl)) hdF_add ⟨Nat.le_of_ble_eq_true rfl, Nat.le_of_ble_eq_true rfl⟩) rfl (by decide) K0 rfl rfl (Nat.le_of_ble_eq_true rfl) dX2_gather_132 ⟨by show _ + chC (pS v 1203 o + k) ≤ 21; omega, by show _ + chS (pS v 1203 o + k) ≤ 933; omega⟩ (fun r132 S132 h132 => ?_)
        obtain ⟨q1, h132⟩ := h132
        obtain ⟨ad7, W7, hH7, g7, hl7, w9⟩ := hG.2.1.add hH (by decide) rfl rfl hxa (by omega) (hs 34 rfl) rfl h132
        have hl9 : vl W7 34 ((pS v 1203 o + k) + 1) (fun i => 800 + 4 * eN v 1203 4 i) := hl7.cg (fun j hj => by
          by_cases e9 : j = (pS v 1203 o + k)
          · subst e9
            rw [va_up_self]
            show _ = 800 + 4 * eN v 1203 4 (pS v 1203 o + k)
            rw [eN_o (by decide) (by omega) hkc (c2 o (by omega))]
          · exact va_up_ne _ _ e9)
        refine r_pop F dX2_gather_137 rfl ?_
        refine r_iinc F dX2_gather_138 rfl (by decide) ?_
        refine r_goto (tgt := 100) F dX2_gather_141 (by decide) ?_
        exact ih2 (n2 - 1) _ _ _ _ (by omega) ⟨k + 1, ad7, W7, by omega, hH7, fun d hd => (g7 d (by omega)).trans (hs d hd), fun d hd => (w9 d (by omega) (by omega)).trans (hW9 d hd), ⟨hG.1.same (w9 _ (by decide) (by decide)) (w9 _ (by decide) (by decide)), hl9, hG.2.2.same (w9 _ (by decide) (by decide)) (w9 _ (by decide) (by decide))⟩, by have e9 : CC ((pS v 1203 o + (k + 1))) = CC (pS v 1203 o + k) + chC (pS v 1203 o + k) := rfl; omega, by have e9 : CS ((pS v 1203 o + (k + 1))) = CS (pS v 1203 o + k) + chS (pS v 1203 o + k) := rfl; omega, by rw [show nI k + Int32.ofInt 1 = nI (k + 1) from nI_add k 1]; rfl⟩
    · have hkc : k < cn v 1202 o := by rw [nI_leI (by omega) (by omega)] at c64; omega
      have gg := hlU.get hH hk.2.2.1 hkc
      have hxa : oa W9 (200 + 12 * (8 * o + k)) := ((hH.cl (hlU.pos (by omega)).2.1).2 k _ ((hlU.pos (by omega)).2.2.2.2 k hkc)).1
      have hxA : zA S (ad9 (200 + 12 * (8 * o + k))) 7 := hH.al hxa rfl ((kd_r (8 * o + k) (by omega)).1)
      have hCC : CC ((pS v 1202 o + k) + 1) ≤ 7 ∧ CS ((pS v 1202 o + k) + 1) ≤ 311 := CC_b _ (by have := pS_mono (v := v) (t := 1202) (show o + 1 ≤ 6 by omega); have : pS v 1202 (o + 1) = pS v 1202 o + cn v 1202 o := rfl; have := pS_b (v := v) (t := 1202) (M := 8) c1 6 (Nat.le_refl _); omega)
      have hC1 : CC ((pS v 1202 o + k) + 1) = CC (pS v 1202 o + k) + chC (pS v 1202 o + k) := rfl
      have hC2 : CS ((pS v 1202 o + k) + 1) = CS (pS v 1202 o + k) + chS (pS v 1202 o + k) := rfl
      have hrow := hG.1.row hH rfl (ci := 7) (fun i hi => (kd_r _ (by have h9 := (eN_t (v := v) (t := 1202) (M := 8) (by decide) c1 (i := i) (by have := pS_mono (v := v) (t := 1202) (show o + 1 ≤ 6 by omega); have : pS v 1202 (o + 1) = pS v 1202 o + cn v 1202 o := rfl; omega)).1; omega)).1) (by have := pS_b (v := v) (t := 1202) (M := 8) c1 o (by omega); have := c1 o (by omega); omega)
      refine r_aload_n F dX2_gather_67 rfl ?_
      refine r_getS (ci := 3) (k := 0) (id := 300) (C := RX2) (T := TX2) (N := 8) F G rfl (by decide) (by decide) rfl (zinL inG3) (zin kf_X2_12) (fun _ h9 => h9) dX2_gather_68 I9 J9 ?_
      refine r_aload_n F dX2_gather_71 rfl ?_
      refine r_getS (ci := 10) (k := 0) (id := 1000) (C := RX9) (T := TX9) (N := 3) F G rfl (by decide) (by decide) rfl (zinL inG10) (zin kf_X2_49) (fun _ h9 => h9) dX2_gather_72 U0 U1 ?_
      refine r_iload F dX2_gather_75 rfl ?_
      refine c_Fq (ci := 0) F G (k_get U2 U4 gg.1 U3 hkc gg.2.1 gg.2.2.1) (va_cwF 1 F.2.2.2.2 (zgF km_X2_43 ke_Jx4a65c_Jxbd725_get ki_Jx4a65c_get_915e3 kn_Jx4a65c ko_Jx4a65c_get_915e3) rfl rfl rfl (G.2.2.2.2.1 (⟨"java/util/List", "get", "(I)Ljava/lang/Object;"⟩, yJx4a65c_get_915e3) (List.mem_of_getElem? (i := 2) rfl)) hdF_get ⟨Nat.le_of_ble_eq_true rfl, Nat.le_of_ble_eq_true rfl⟩) rfl (by decide) U2 rfl rfl (Nat.le_of_ble_eq_true rfl) dX2_gather_77 ⟨by show _ + 0 ≤ 21; omega, by show _ + 0 ≤ 933; omega⟩ (fun r77 S77 h77 => ?_)
      obtain ⟨h77a, h77b⟩ := h77
      have h77c := h77b.symm
      subst h77c
      rw [gg.2.2.2] at h77a
      subst h77a
      refine r_cast (a := ad9 (200 + 12 * (8 * o + k))) (ci := 7) F G hxA (by decide) rfl (List.mem_of_getElem? (i := 2) rfl) (zin kc_X2_50) dX2_gather_82 ?_
      refine c_Fi (ci := 0) F G (k_add K0 (hG.1.E hH rfl (hs 32 rfl)) (hG.1.z hH rfl (hs 32 rfl)) (ci := 7) (by decide) rfl (List.mem_of_getElem? (i := 6) rfl) hxA hrow) (va_cwF 1 F.2.2.2.2 (zgF km_X2_52 ke_Jx4a65c_Jxbd725_add ki_Jx4a65c_add_9ea2d kn_Jx4a65c ko_Jx4a65c_add_9ea2d) rfl rfl rfl (G.2.2.2.2.1 (⟨"java/util/List", "add", "(Ljava/lang/Object;)Z"⟩, yJx4a65c_add_9ea2d) (List.mem_of_getElem? (i := 3) rfl)) hdF_add ⟨Nat.le_of_ble_eq_true rfl, Nat.le_of_ble_eq_true rfl⟩) rfl (by decide) K0 rfl rfl (Nat.le_of_ble_eq_true rfl) dX2_gather_85 ⟨by show _ + chC (pS v 1202 o + k) ≤ 21; omega, by show _ + chS (pS v 1202 o + k) ≤ 933; omega⟩ (fun r85 S85 h85 => ?_)
      obtain ⟨q1, h85⟩ := h85
      obtain ⟨ad7, W7, hH7, g7, hl7, w9⟩ := hG.1.add hH (by decide) rfl rfl hxa (by omega) (hs 32 rfl) rfl h85
      have hl9 : vl W7 32 ((pS v 1202 o + k) + 1) (fun i => 200 + 12 * eN v 1202 8 i) := hl7.cg (fun j hj => by
        by_cases e9 : j = (pS v 1202 o + k)
        · subst e9
          rw [va_up_self]
          show _ = 200 + 12 * eN v 1202 8 (pS v 1202 o + k)
          rw [eN_o (by decide) (by omega) hkc (c1 o (by omega))]
        · exact va_up_ne _ _ e9)
      refine r_pop F dX2_gather_90 rfl ?_
      refine r_iinc F dX2_gather_91 rfl (by decide) ?_
      refine r_goto (tgt := 53) F dX2_gather_94 (by decide) ?_
      exact ih2 (n2 - 1) _ _ _ _ (by omega) ⟨k + 1, ad7, W7, by omega, hH7, fun d hd => (g7 d (by omega)).trans (hs d hd), fun d hd => (w9 d (by omega) (by omega)).trans (hW9 d hd), ⟨hl9, hG.2.1.same (w9 _ (by decide) (by decide)) (w9 _ (by decide) (by decide)), hG.2.2.same (w9 _ (by decide) (by decide)) (w9 _ (by decide) (by decide))⟩, by have e9 : CC ((pS v 1202 o + (k + 1))) = CC (pS v 1202 o + k) + chC (pS v 1202 o + k) := rfl; omega, by have e9 : CS ((pS v 1202 o + (k + 1))) = CS (pS v 1202 o + k) + chS (pS v 1202 o + k) := rfl; omega, by rw [show nI k + Int32.ofInt 1 = nI (k + 1) from nI_add k 1]; rfl⟩
