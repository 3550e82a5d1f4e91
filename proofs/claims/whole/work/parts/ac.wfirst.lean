set_option maxRecDepth 100000 in
set_option maxHeartbeats 4000000 in
theorem c_first {l : Launch} {N0 t0 : Nat} {D : va_G} {cy : Nat → ClassId} {S : zS} {X : Nat → Prop} {S0 : zS} {ad : Nat → Nat} {W : zO} (hH : zH t0 X S0 ad W S) {v : zV} {Ts Ss : List Nat} (hLd : ldd v W Ts Ss) {Lm Ls Lb : List Int32} {km ks kb : Nat} (hM : bL W 44 Lm km) (hC : bL W 46 Ls ks) (hY : bL W 48 Lb kb) (hv : vRg v) (hA : vA v) (hD : vD v) (hK : kEq v) {f k : Nat} (hf : f < 48) (ht : f % 8 < cn v 1202 (f / 8)) (hkk : k < cn v 1208 f) {w : Nat} (hwe : cn v 1209 (60 * f + k) = w) {aa : Int32} (hae : v.1 1210 (60 * f + k) = aa) (hg : gW v f w aa) {t : Option Nat} (hte : fO v (16 * (f / 8) + aa.toNatClampNeg) = t) (hlim : Lb.length ≤ 39000) : zMv l yX4_writeFirst (zws yX4_writeFirst cX4_writeFirst 5 none) { frames := 5, cells := ((gk kb Lb.length (wP w ++ [wO w t]).length) - kb), slots := 2 * (((gk kb Lb.length (wP w ++ [wO w t]).length) - kb)), locals := 122 } N0 t0 D cy S [.ref (ad 12), .ref (ad (200 + 12 * f)), .int (nI k)] (fun S' => yZ t0 X S0 ad W (Lm) (km) (Ls) (ks) (Lb ++ (wP w ++ [wO w t])) ((gk kb Lb.length (wP w ++ [wO w t]).length)) S') (((gk kb Lb.length (wP w ++ [wO w t]).length) - kb)) (2 * (((gk kb Lb.length (wP w ++ [wO w t]).length) - kb))) := by
  refine zMv.of (cc := cX4_writeFirst) (maxL := 5) (ret := none) (by decide) rfl (Nat.le_of_ble_eq_true rfl) ?_
  intro p e s m args below meth c F G hr hlk hnm
  have hw := hLd.1.1
  have a12 := hLd.2.2.2.2.2.2.2.2.2.1
  have a121 : ∀ {W1 : zO}, (∀ d, d < 44 ∨ 50 ≤ d → W1 d = W d) → oa W1 12 := fun {W1} kw => by show (W1 12).1; rw [kw 12 (by decide)]; exact a12
  have hw1 : ∀ {W1 : zO} {L1 L2 L3 : List Int32} {k1 k2 k3 : Nat}, (∀ d, d < 44 ∨ 50 ≤ d → W1 d = W d) → bL W1 44 L1 k1 → bL W1 46 L2 k2 → bL W1 48 L3 k3 → wr W1 := fun {W1} {_} {_} {_} {_} {_} {_} kw h1 h2 h3 => wr_y hw kw h1.2.1 h2.2.1 h3.2.1
  have hkd := kd_r f hf
  have h60 := (rg_1208 hv hf).2
  have hw36 : v.1 1209 (60 * f + k) = nI w ∧ w ≤ 35 := by
    have h9 := rg_1209 hv (k := 60 * f + k) (by omega)
    unfold ok1 at h9
    rw [hwe] at h9
    exact h9
  have w36 : w < 36 := by have h9 := hw36.2; omega
  have hpl : (wP w).length ≤ 1 := by unfold wP; split; exact Nat.le_refl _; exact Nat.zero_le _
  have ka : ∀ d, d ≠ 45 → d ≠ 47 → d ≠ 49 → ad d = ad d := fun _ _ _ _ => rfl
  have kw : ∀ d, d < 44 ∨ 50 ≤ d → W d = W d := fun _ _ => rfl
  have FF := yF hw a12 hH ka kw hM hC hY
  replace hY : bL W 48 (Lb ++ ([] : List Int32)) (gk kb Lb.length (([] : List Int32)).length) := by rw [List.append_nil]; exact hY
  have hL1 := hLd.same kw hM hC hY
  have hR1 := hL1.1.2.2.1 f hf ht
  have eaf := ka (200 + 12 * f) (by omega) (by omega) (by omega)
  have A1 := hH.al hR1.1 eaf hkd.1
  have fbb : kb ≤ (gk kb Lb.length (([] : List Int32)).length) := (gk_le _ _ _)
  have ffb : (gk kb Lb.length (([] : List Int32)).length) ≤ (gk kb Lb.length (wP w ++ [wO w t]).length) := (gk_mono _ (by first | omega | (simp only [List.length_append, List.length_cons, List.length_nil]; omega)))
  refine zwid (c2 := (((gk kb Lb.length (([] : List Int32)).length) - kb))) (s2 := 2 * (((gk kb Lb.length (([] : List Int32)).length) - kb))) (Nat.zero_le _) (Nat.zero_le _) ?_
  refine z_cut2 (fun cl sl S9 lv => yZ t0 X S0 ad W Lm km Ls ks (Lb ++ wP w) (gk kb Lb.length (wP w).length) S9 ∧ cl ≤ (((gk kb Lb.length (wP w).length) - kb)) ∧ sl ≤ 2 * (((gk kb Lb.length (wP w).length) - kb)) ∧ lv = [(3, .int (nI w)), (0, .ref (ad 12)), (1, .ref (ad (200 + 12 * f))), (2, .int (nI k))]) 41 ?_ (fun tail => ?_)
  · rintro cl sl S lv ⟨hz9, hcl, hsl, rfl⟩
    clear ka kw hM hC hY FF hH hL1 hR1 A1 eaf fbb ffb
    obtain ⟨ad1, W1, hH, ka, kw, hM, hC, hY⟩ := hz9
    have FF := yF hw a12 hH ka kw hM hC hY
    have hL1 := hLd.same kw hM hC hY
    have hR1 := hL1.1.2.2.1 f hf ht
    have eaf := ka (200 + 12 * f) (by omega) (by omega) (by omega)
    have A1 := hH.al hR1.1 eaf hkd.1
    have fbb : kb ≤ (gk kb Lb.length (wP w).length) := (gk_le _ _ _)
    have ffb : (gk kb Lb.length (wP w).length) ≤ (gk kb Lb.length (wP w ++ [wO w t]).length) := (gk_mono _ (by first | omega | (simp only [List.length_append, List.length_cons, List.length_nil]; omega)))
    refine zwid (c2 := (((gk kb Lb.length (wP w).length) - kb))) (s2 := 2 * (((gk kb Lb.length (wP w).length) - kb))) hcl hsl ?_
    by_cases h31 : w = 31
    · obtain ⟨j, hj, ej, hk9⟩ := hg.2.2.2.2.1 (Or.inl h31)
      have hyb := (rg_1204 hv (k := f / 8) (by omega)).2
      have hy : 16 * (f / 8) + j < 96 := by omega
      have ht9 : (16 * (f / 8) + j) % 16 < cn v 1204 ((16 * (f / 8) + j) / 16) := by rw [show (16 * (f / 8) + j) / 16 = f / 8 by omega]; omega
      have etg : tgt v (16 * (f / 8) + j) = t := by
        rw [← hte, ej, nI_clamp (by omega)]
        exact tgt_fO (fun z hz => (hK _ hy ht9 z hz).trans hk9) (fun _ => hk9)
      refine r_iload_n F dX4_writeFirst_41 rfl ?_
      refine r_bipush (v := 31) F dX4_writeFirst_42 (by decide) ?_
      refine r_icmp_ne (tgt := 59) F dX4_writeFirst_44 (by decide) (fun h9 => absurd (show nI w = 31 by rw [h31]; rfl) h9) (fun _ => ?_)
      refine r_aload_n F dX4_writeFirst_47 rfl ?_
      refine r_iload_n F dX4_writeFirst_48 rfl ?_
      refine c_Vq (ci := 7) F G (c_targetOf hH hL1.1 hv hL1.2.1 hA hf ht eaf (by omega) hj (hae.trans ej)) (cwV 1 F.2.2.2.2 (zgV km_X4_145 ki_X6_targetOf ke_X6_X6_targetOf kn_X6 ko_X6_targetOf) rfl rfl rfl ⟨rfl, hd_yX6_targetOf⟩ ⟨Nat.le_of_ble_eq_true rfl, Nat.le_of_ble_eq_true rfl⟩) rfl (by decide) A1 rfl rfl (Nat.le_of_ble_eq_true rfl) dX4_writeFirst_49 ⟨by show (((gk kb Lb.length (wP w).length) - kb)) + 0 ≤ ((gk kb Lb.length (wP w ++ [wO w t]).length) - kb); omega, by show 2 * (((gk kb Lb.length (wP w).length) - kb)) + 0 ≤ 2 * (((gk kb Lb.length (wP w ++ [wO w t]).length) - kb)); omega⟩ (fun r49 S49 h49 => ?_)
      obtain ⟨er49, es49⟩ := h49
      have hs49 := es49.symm
      subst hs49
      subst er49
      rw [etg]
      refine zwid (c2 := (((gk kb Lb.length (wP w).length) - kb))) (s2 := 2 * (((gk kb Lb.length (wP w).length) - kb))) (Nat.le_refl _) (Nat.le_refl _) ?_
      refine r_ifnonnullO (tgt := 59) F dX4_writeFirst_52 (by decide) (fun b1 hb1 => ?_) (fun hb1 => ?_)
      · have hsome : ¬ t = none := fun h9 => by rw [h9] at hb1; cases hb1
        refine r_iconst (v := 0) F dX4_writeFirst_59 (by decide) ?_
        refine r_istore F dX4_writeFirst_60 (by decide) ?_
        refine r_aload_n F dX4_writeFirst_62 rfl ?_
        refine r_getS (ci := 5) (k := 2) (id := 502) (C := RX4) (T := TX4) (N := 3) F G rfl (by decide) (by decide) rfl (zinL inG5) (zin kf_X4_21) (fun _ h9 => h9) dX4_writeFirst_63 FF.1 FF.2.2.2.1 ?_
        refine r_iload F dX4_writeFirst_66 rfl ?_
        refine r_if_eq (tgt := 75) F dX4_writeFirst_68 (by decide) (fun _ => ?_) (fun h9 => absurd (show (0 : Int32) = 0 from rfl) h9)
        refine r_getTab F G (q := zTab[2]) (List.getElem_mem _) (zin kf_X4_149) dX4_writeFirst_75 (fun tb hT0 => ?_)
        refine r_iload_n F dX4_writeFirst_78 rfl ?_
        refine r_tabI F hT0 w36 ((show ∀ w : Nat, w < 36 → Value.int ((zTab[2]).2.getD w 0) = .int (nI (opc.getD w 0)) from by decide) w w36) dX4_writeFirst_79 ?_
        have hwo : [wO w t] = [bv (nI (opc.getD w 0))] := congrArg (fun z => [z]) (by unfold wO; rw [if_neg (fun h9 => hsome h9.2)])
        rw [hwo]
        rw [hwo] at ffb
        have fnb : (gk kb Lb.length (wP w).length) ≤ (gk kb Lb.length (wP w ++ [bv (nI (opc.getD w 0))]).length) := gk_mono _ (by first | omega | (simp only [List.length_append, List.length_cons, List.length_nil]; omega))
        have ffb : (gk kb Lb.length (wP w ++ [bv (nI (opc.getD w 0))]).length) ≤ (gk kb Lb.length (wP w ++ [bv (nI (opc.getD w 0))]).length) := (gk_mono _ (by first | omega | (simp only [List.length_append, List.length_cons, List.length_nil]; omega)))
        refine c_Vv (ci := 1) F G (c_nput hH (L := Lb) (P := wP w) hY (ka 48 (by decide) (by decide) (by decide)) (x := nI (opc.getD w 0)) (by first | omega | (simp only [List.length_append, List.length_cons, List.length_nil]; omega))) (cwV 1 F.2.2.2.2 (zgV km_X4_50 ki_X0_put ke_X0_X0_put kn_X0 ko_X0_put) rfl rfl rfl ⟨rfl, hd_yX0_put⟩ ⟨Nat.le_of_ble_eq_true rfl, Nat.le_of_ble_eq_true rfl⟩) rfl (by decide) FF.2.2.2.2.2.2.1 rfl rfl (Nat.le_of_ble_eq_true rfl) dX4_writeFirst_80 ⟨by show (((gk kb Lb.length (wP w).length) - kb)) + ((gk kb Lb.length (wP w ++ [bv (nI (opc.getD w 0))]).length) - (gk kb Lb.length (wP w).length)) ≤ ((gk kb Lb.length (wP w ++ [bv (nI (opc.getD w 0))]).length) - kb); omega, by show 2 * (((gk kb Lb.length (wP w).length) - kb)) + 2 * ((gk kb Lb.length (wP w ++ [bv (nI (opc.getD w 0))]).length) - (gk kb Lb.length (wP w).length)) ≤ 2 * (((gk kb Lb.length (wP w ++ [bv (nI (opc.getD w 0))]).length) - kb)); omega⟩ (fun S80 h80 => ?_)
        obtain ⟨ad1, W1, hH, ka, kw, hM, hC, hY⟩ := yZ.b ka kw hM hC h80
        have FF := yF hw a12 hH ka kw hM hC hY
        have hL1 := hLd.same kw hM hC hY
        have hR1 := hL1.1.2.2.1 f hf ht
        have eaf := ka (200 + 12 * f) (by omega) (by omega) (by omega)
        have A1 := hH.al hR1.1 eaf hkd.1
        have fbb : kb ≤ (gk kb Lb.length (wP w ++ [bv (nI (opc.getD w 0))]).length) := (gk_le _ _ _)
        refine zwid (c2 := (((gk kb Lb.length (wP w ++ [bv (nI (opc.getD w 0))]).length) - kb))) (s2 := 2 * (((gk kb Lb.length (wP w ++ [bv (nI (opc.getD w 0))]).length) - kb))) (by show (((gk kb Lb.length (wP w).length) - kb)) + ((gk kb Lb.length (wP w ++ [bv (nI (opc.getD w 0))]).length) - (gk kb Lb.length (wP w).length)) ≤ _; omega) (by show 2 * (((gk kb Lb.length (wP w).length) - kb)) + 2 * ((gk kb Lb.length (wP w ++ [bv (nI (opc.getD w 0))]).length) - (gk kb Lb.length (wP w).length)) ≤ _; omega) ?_
        exact e_vret F hr hlk ⟨ad1, W1, hH, ka, kw, hM, hC, hY⟩ (Nat.le_refl _) (Nat.le_refl _) dX4_writeFirst_83
      · have hnone : t = none := by
          cases t with
          | none => rfl
          | some z => cases hb1
        refine r_iconst (v := 1) F dX4_writeFirst_55 (by decide) ?_
        refine r_goto (tgt := 60) F dX4_writeFirst_56 (by decide) ?_
        refine r_istore F dX4_writeFirst_60 (by decide) ?_
        refine r_aload_n F dX4_writeFirst_62 rfl ?_
        refine r_getS (ci := 5) (k := 2) (id := 502) (C := RX4) (T := TX4) (N := 3) F G rfl (by decide) (by decide) rfl (zinL inG5) (zin kf_X4_21) (fun _ h9 => h9) dX4_writeFirst_63 FF.1 FF.2.2.2.1 ?_
        refine r_iload F dX4_writeFirst_66 rfl ?_
        refine r_if_eq (tgt := 75) F dX4_writeFirst_68 (by decide) (fun h9 => absurd h9 (show ¬ (1 : Int32) = 0 by decide)) (fun _ => ?_)
        refine r_iconst (v := 0) F dX4_writeFirst_71 (by decide) ?_
        refine r_goto (tgt := 80) F dX4_writeFirst_72 (by decide) ?_
        have hwo : [wO w t] = [bv (nI 0)] := congrArg (fun z => [z]) (by unfold wO; rw [if_pos ⟨h31, hnone⟩])
        rw [hwo]
        rw [hwo] at ffb
        have fnb : (gk kb Lb.length (wP w).length) ≤ (gk kb Lb.length (wP w ++ [bv (nI 0)]).length) := gk_mono _ (by first | omega | (simp only [List.length_append, List.length_cons, List.length_nil]; omega))
        have ffb : (gk kb Lb.length (wP w ++ [bv (nI 0)]).length) ≤ (gk kb Lb.length (wP w ++ [bv (nI 0)]).length) := (gk_mono _ (by first | omega | (simp only [List.length_append, List.length_cons, List.length_nil]; omega)))
        refine c_Vv (ci := 1) F G (c_nput hH (L := Lb) (P := wP w) hY (ka 48 (by decide) (by decide) (by decide)) (x := nI 0) (by first | omega | (simp only [List.length_append, List.length_cons, List.length_nil]; omega))) (cwV 1 F.2.2.2.2 (zgV km_X4_50 ki_X0_put ke_X0_X0_put kn_X0 ko_X0_put) rfl rfl rfl ⟨rfl, hd_yX0_put⟩ ⟨Nat.le_of_ble_eq_true rfl, Nat.le_of_ble_eq_true rfl⟩) rfl (by decide) FF.2.2.2.2.2.2.1 rfl rfl (Nat.le_of_ble_eq_true rfl) dX4_writeFirst_80 ⟨by show (((gk kb Lb.length (wP w).length) - kb)) + ((gk kb Lb.length (wP w ++ [bv (nI 0)]).length) - (gk kb Lb.length (wP w).length)) ≤ ((gk kb Lb.length (wP w ++ [bv (nI 0)]).length) - kb); omega, by show 2 * (((gk kb Lb.length (wP w).length) - kb)) + 2 * ((gk kb Lb.length (wP w ++ [bv (nI 0)]).length) - (gk kb Lb.length (wP w).length)) ≤ 2 * (((gk kb Lb.length (wP w ++ [bv (nI 0)]).length) - kb)); omega⟩ (fun S80 h80 => ?_)
        obtain ⟨ad1, W1, hH, ka, kw, hM, hC, hY⟩ := yZ.b ka kw hM hC h80
        have FF := yF hw a12 hH ka kw hM hC hY
        have hL1 := hLd.same kw hM hC hY
        have hR1 := hL1.1.2.2.1 f hf ht
        have eaf := ka (200 + 12 * f) (by omega) (by omega) (by omega)
        have A1 := hH.al hR1.1 eaf hkd.1
        have fbb : kb ≤ (gk kb Lb.length (wP w ++ [bv (nI 0)]).length) := (gk_le _ _ _)
        refine zwid (c2 := (((gk kb Lb.length (wP w ++ [bv (nI 0)]).length) - kb))) (s2 := 2 * (((gk kb Lb.length (wP w ++ [bv (nI 0)]).length) - kb))) (by show (((gk kb Lb.length (wP w).length) - kb)) + ((gk kb Lb.length (wP w ++ [bv (nI 0)]).length) - (gk kb Lb.length (wP w).length)) ≤ _; omega) (by show 2 * (((gk kb Lb.length (wP w).length) - kb)) + 2 * ((gk kb Lb.length (wP w ++ [bv (nI 0)]).length) - (gk kb Lb.length (wP w).length)) ≤ _; omega) ?_
        exact e_vret F hr hlk ⟨ad1, W1, hH, ka, kw, hM, hC, hY⟩ (Nat.le_refl _) (Nat.le_refl _) dX4_writeFirst_83
    · refine r_iload_n F dX4_writeFirst_41 rfl ?_
      refine r_bipush (v := 31) F dX4_writeFirst_42 (by decide) ?_
      refine r_icmp_ne (tgt := 59) F dX4_writeFirst_44 (by decide) (fun _ => ?_) (fun h9 => absurd h9 (fun h9 => absurd ((nI_eq (b := 31) (by omega) (by omega)).mp h9) h31))
      refine r_iconst (v := 0) F dX4_writeFirst_59 (by decide) ?_
      refine r_istore F dX4_writeFirst_60 (by decide) ?_
      refine r_aload_n F dX4_writeFirst_62 rfl ?_
      refine r_getS (ci := 5) (k := 2) (id := 502) (C := RX4) (T := TX4) (N := 3) F G rfl (by decide) (by decide) rfl (zinL inG5) (zin kf_X4_21) (fun _ h9 => h9) dX4_writeFirst_63 FF.1 FF.2.2.2.1 ?_
      refine r_iload F dX4_writeFirst_66 rfl ?_
      refine r_if_eq (tgt := 75) F dX4_writeFirst_68 (by decide) (fun _ => ?_) (fun h9 => absurd (show (0 : Int32) = 0 from rfl) h9)
      refine r_getTab F G (q := zTab[2]) (List.getElem_mem _) (zin kf_X4_149) dX4_writeFirst_75 (fun tb hT0 => ?_)
      refine r_iload_n F dX4_writeFirst_78 rfl ?_
      refine r_tabI F hT0 w36 ((show ∀ w : Nat, w < 36 → Value.int ((zTab[2]).2.getD w 0) = .int (nI (opc.getD w 0)) from by decide) w w36) dX4_writeFirst_79 ?_
      have hwo : [wO w t] = [bv (nI (opc.getD w 0))] := congrArg (fun z => [z]) (by unfold wO; rw [if_neg (fun h9 => h31 h9.1)])
      rw [hwo]
      rw [hwo] at ffb
      have fnb : (gk kb Lb.length (wP w).length) ≤ (gk kb Lb.length (wP w ++ [bv (nI (opc.getD w 0))]).length) := gk_mono _ (by first | omega | (simp only [List.length_append, List.length_cons, List.length_nil]; omega))
      have ffb : (gk kb Lb.length (wP w ++ [bv (nI (opc.getD w 0))]).length) ≤ (gk kb Lb.length (wP w ++ [bv (nI (opc.getD w 0))]).length) := (gk_mono _ (by first | omega | (simp only [List.length_append, List.length_cons, List.length_nil]; omega)))
      refine c_Vv (ci := 1) F G (c_nput hH (L := Lb) (P := wP w) hY (ka 48 (by decide) (by decide) (by decide)) (x := nI (opc.getD w 0)) (by first | omega | (simp only [List.length_append, List.length_cons, List.length_nil]; omega))) (cwV 1 F.2.2.2.2 (zgV km_X4_50 ki_X0_put ke_X0_X0_put kn_X0 ko_X0_put) rfl rfl rfl ⟨rfl, hd_yX0_put⟩ ⟨Nat.le_of_ble_eq_true rfl, Nat.le_of_ble_eq_true rfl⟩) rfl (by decide) FF.2.2.2.2.2.2.1 rfl rfl (Nat.le_of_ble_eq_true rfl) dX4_writeFirst_80 ⟨by show (((gk kb Lb.length (wP w).length) - kb)) + ((gk kb Lb.length (wP w ++ [bv (nI (opc.getD w 0))]).length) - (gk kb Lb.length (wP w).length)) ≤ ((gk kb Lb.length (wP w ++ [bv (nI (opc.getD w 0))]).length) - kb); omega, by show 2 * (((gk kb Lb.length (wP w).length) - kb)) + 2 * ((gk kb Lb.length (wP w ++ [bv (nI (opc.getD w 0))]).length) - (gk kb Lb.length (wP w).length)) ≤ 2 * (((gk kb Lb.length (wP w ++ [bv (nI (opc.getD w 0))]).length) - kb)); omega⟩ (fun S80 h80 => ?_)
      obtain ⟨ad1, W1, hH, ka, kw, hM, hC, hY⟩ := yZ.b ka kw hM hC h80
      have FF := yF hw a12 hH ka kw hM hC hY
      have hL1 := hLd.same kw hM hC hY
      have hR1 := hL1.1.2.2.1 f hf ht
      have eaf := ka (200 + 12 * f) (by omega) (by omega) (by omega)
      have A1 := hH.al hR1.1 eaf hkd.1
      have fbb : kb ≤ (gk kb Lb.length (wP w ++ [bv (nI (opc.getD w 0))]).length) := (gk_le _ _ _)
      refine zwid (c2 := (((gk kb Lb.length (wP w ++ [bv (nI (opc.getD w 0))]).length) - kb))) (s2 := 2 * (((gk kb Lb.length (wP w ++ [bv (nI (opc.getD w 0))]).length) - kb))) (by show (((gk kb Lb.length (wP w).length) - kb)) + ((gk kb Lb.length (wP w ++ [bv (nI (opc.getD w 0))]).length) - (gk kb Lb.length (wP w).length)) ≤ _; omega) (by show 2 * (((gk kb Lb.length (wP w).length) - kb)) + 2 * ((gk kb Lb.length (wP w ++ [bv (nI (opc.getD w 0))]).length) - (gk kb Lb.length (wP w).length)) ≤ _; omega) ?_
      exact e_vret F hr hlk ⟨ad1, W1, hH, ka, kw, hM, hC, hY⟩ (Nat.le_refl _) (Nat.le_refl _) dX4_writeFirst_83
  refine r_aload_n F dX4_writeFirst_0 rfl ?_
  refine r_getS (ci := 7) (k := 5) (id := 705) (C := RX6) (T := TX6) (N := 13) F G rfl (by decide) (by decide) rfl (zinL inG7) (zin kf_X4_140) (fun _ h9 => h9) dX4_writeFirst_1 A1 (show zq S 705 (ad (200 + 12 * f)) = some (ad (200 + 12 * f + 2)) from hH.qS hR1.1 eaf (by rw [hkd.1]; decide) (hL1.1.1.q hR1.1 (by decide) hkd.1) rfl) ?_
  refine r_iload_n F dX4_writeFirst_4 rfl ?_
  refine v_iald F G hH (show oa W (200 + 12 * f + 2) from hL1.1.1.a hR1.1 (id := 705) (by decide) hkd.1) rfl hkd.2.1 (by rw [show onn W (200 + 12 * f + 2) = 60 from hL1.1.1.n hR1.1 (id := 705) (by decide) hkd.1 (by decide)]; omega) (by rw [show onn W (200 + 12 * f + 2) = 60 from hL1.1.1.n hR1.1 (id := 705) (by decide) hkd.1 (by decide)]; decide) dX4_writeFirst_5 ?_
  rw [hR1.2.2.2.2.2.2.2.1 k (by omega), hw36.1]
  refine r_istore_n F dX4_writeFirst_6 (by decide) ?_
  refine r_iload_n F dX4_writeFirst_7 rfl ?_
  refine r_bipush (v := 17) F dX4_writeFirst_8 (by decide) ?_
  refine r_icmp_eq (tgt := 31) F dX4_writeFirst_10 (by decide) (fun c10 => ?_) (fun c10 => ?_)
  · refine r_aload_n F dX4_writeFirst_31 rfl ?_
    refine r_getS (ci := 5) (k := 2) (id := 502) (C := RX4) (T := TX4) (N := 3) F G rfl (by decide) (by decide) rfl (zinL inG5) (zin kf_X4_21) (fun _ h9 => h9) dX4_writeFirst_32 FF.1 FF.2.2.2.1 ?_
    refine r_sipush (v := 167) F dX4_writeFirst_35 (by decide) ?_
    have hww : w = 17 := by have c9 := c10; rw [show (17 : Int32) = nI 17 from rfl, nI_eq (by omega) (by omega)] at c9; exact c9
    have hwp : wP w = [bv (nI 167)] := if_pos (by omega)
    have hwl : (wP w).length = 1 := by rw [hwp]; rfl
    have fnb : (gk kb Lb.length (([] : List Int32)).length) ≤ (gk kb Lb.length (([] : List Int32) ++ [bv (nI 167)]).length) := gk_mono _ (by first | omega | (simp only [List.length_append, List.length_cons, List.length_nil]; omega))
    have ffb : (gk kb Lb.length (([] : List Int32) ++ [bv (nI 167)]).length) ≤ (gk kb Lb.length (wP w ++ [wO w t]).length) := (gk_mono _ (by first | omega | (simp only [List.length_append, List.length_cons, List.length_nil]; omega)))
    refine c_Vv (ci := 1) F G (c_nput hH (L := Lb) (P := ([] : List Int32)) hY (ka 48 (by decide) (by decide) (by decide)) (x := nI 167) (by first | omega | (simp only [List.length_append, List.length_cons, List.length_nil]; omega))) (cwV 1 F.2.2.2.2 (zgV km_X4_50 ki_X0_put ke_X0_X0_put kn_X0 ko_X0_put) rfl rfl rfl ⟨rfl, hd_yX0_put⟩ ⟨Nat.le_of_ble_eq_true rfl, Nat.le_of_ble_eq_true rfl⟩) rfl (by decide) FF.2.2.2.2.2.2.1 rfl rfl (Nat.le_of_ble_eq_true rfl) dX4_writeFirst_38 ⟨by show (((gk kb Lb.length (([] : List Int32)).length) - kb)) + ((gk kb Lb.length (([] : List Int32) ++ [bv (nI 167)]).length) - (gk kb Lb.length (([] : List Int32)).length)) ≤ ((gk kb Lb.length (wP w ++ [wO w t]).length) - kb); omega, by show 2 * (((gk kb Lb.length (([] : List Int32)).length) - kb)) + 2 * ((gk kb Lb.length (([] : List Int32) ++ [bv (nI 167)]).length) - (gk kb Lb.length (([] : List Int32)).length)) ≤ 2 * (((gk kb Lb.length (wP w ++ [wO w t]).length) - kb)); omega⟩ (fun S38 h38 => ?_)
    obtain ⟨ad1, W1, hH, ka, kw, hM, hC, hY⟩ := yZ.b ka kw hM hC h38
    have FF := yF hw a12 hH ka kw hM hC hY
    have hL1 := hLd.same kw hM hC hY
    have hR1 := hL1.1.2.2.1 f hf ht
    have eaf := ka (200 + 12 * f) (by omega) (by omega) (by omega)
    have A1 := hH.al hR1.1 eaf hkd.1
    have fbb : kb ≤ (gk kb Lb.length (([] : List Int32) ++ [bv (nI 167)]).length) := (gk_le _ _ _)
    refine zwid (c2 := (((gk kb Lb.length (([] : List Int32) ++ [bv (nI 167)]).length) - kb))) (s2 := 2 * (((gk kb Lb.length (([] : List Int32) ++ [bv (nI 167)]).length) - kb))) (by show (((gk kb Lb.length (([] : List Int32)).length) - kb)) + ((gk kb Lb.length (([] : List Int32) ++ [bv (nI 167)]).length) - (gk kb Lb.length (([] : List Int32)).length)) ≤ _; omega) (by show 2 * (((gk kb Lb.length (([] : List Int32)).length) - kb)) + 2 * ((gk kb Lb.length (([] : List Int32) ++ [bv (nI 167)]).length) - (gk kb Lb.length (([] : List Int32)).length)) ≤ _; omega) ?_
    have hpe : ([] : List Int32) ++ [bv (nI 167)] = wP w := hwp.symm
    rw [hpe] at hY fbb ffb ⊢
    clear hpe
    refine zsub (lv' := [(3, .int (nI w)), (0, .ref (ad 12)), (1, .ref (ad (200 + 12 * f))), (2, .int (nI k))]) (by simp [zs1, lv_args, Value.category, show ((1 : Fin 4) : Nat) = 1 from rfl, show ((2 : Fin 4) : Nat) = 2 from rfl, show ((3 : Fin 4) : Nat) = 3 from rfl, show nI 0 = (0 : Int32) from rfl]) ?_
    exact tail _ _ _ _ ⟨⟨_, _, hH, ka, kw, hM, hC, hY⟩, Nat.le_refl _, Nat.le_refl _, rfl⟩
  · refine r_iload_n F dX4_writeFirst_13 rfl ?_
    refine r_bipush (v := 25) F dX4_writeFirst_14 (by decide) ?_
    refine r_icmp_eq (tgt := 31) F dX4_writeFirst_16 (by decide) (fun c16 => ?_) (fun c16 => ?_)
    · refine r_aload_n F dX4_writeFirst_31 rfl ?_
      refine r_getS (ci := 5) (k := 2) (id := 502) (C := RX4) (T := TX4) (N := 3) F G rfl (by decide) (by decide) rfl (zinL inG5) (zin kf_X4_21) (fun _ h9 => h9) dX4_writeFirst_32 FF.1 FF.2.2.2.1 ?_
      refine r_sipush (v := 167) F dX4_writeFirst_35 (by decide) ?_
      have hww : w = 25 := by have c9 := c16; rw [show (25 : Int32) = nI 25 from rfl, nI_eq (by omega) (by omega)] at c9; exact c9
      have hwp : wP w = [bv (nI 167)] := if_pos (by omega)
      have hwl : (wP w).length = 1 := by rw [hwp]; rfl
      have fnb : (gk kb Lb.length (([] : List Int32)).length) ≤ (gk kb Lb.length (([] : List Int32) ++ [bv (nI 167)]).length) := gk_mono _ (by first | omega | (simp only [List.length_append, List.length_cons, List.length_nil]; omega))
      have ffb : (gk kb Lb.length (([] : List Int32) ++ [bv (nI 167)]).length) ≤ (gk kb Lb.length (wP w ++ [wO w t]).length) := (gk_mono _ (by first | omega | (simp only [List.length_append, List.length_cons, List.length_nil]; omega)))
      refine c_Vv (ci := 1) F G (c_nput hH (L := Lb) (P := ([] : List Int32)) hY (ka 48 (by decide) (by decide) (by decide)) (x := nI 167) (by first | omega | (simp only [List.length_append, List.length_cons, List.length_nil]; omega))) (cwV 1 F.2.2.2.2 (zgV km_X4_50 ki_X0_put ke_X0_X0_put kn_X0 ko_X0_put) rfl rfl rfl ⟨rfl, hd_yX0_put⟩ ⟨Nat.le_of_ble_eq_true rfl, Nat.le_of_ble_eq_true rfl⟩) rfl (by decide) FF.2.2.2.2.2.2.1 rfl rfl (Nat.le_of_ble_eq_true rfl) dX4_writeFirst_38 ⟨by show (((gk kb Lb.length (([] : List Int32)).length) - kb)) + ((gk kb Lb.length (([] : List Int32) ++ [bv (nI 167)]).length) - (gk kb Lb.length (([] : List Int32)).length)) ≤ ((gk kb Lb.length (wP w ++ [wO w t]).length) - kb); omega, by show 2 * (((gk kb Lb.length (([] : List Int32)).length) - kb)) + 2 * ((gk kb Lb.length (([] : List Int32) ++ [bv (nI 167)]).length) - (gk kb Lb.length (([] : List Int32)).length)) ≤ 2 * (((gk kb Lb.length (wP w ++ [wO w t]).length) - kb)); omega⟩ (fun S38 h38 => ?_)
      obtain ⟨ad1, W1, hH, ka, kw, hM, hC, hY⟩ := yZ.b ka kw hM hC h38
      have FF := yF hw a12 hH ka kw hM hC hY
      have hL1 := hLd.same kw hM hC hY
      have hR1 := hL1.1.2.2.1 f hf ht
      have eaf := ka (200 + 12 * f) (by omega) (by omega) (by omega)
      have A1 := hH.al hR1.1 eaf hkd.1
      have fbb : kb ≤ (gk kb Lb.length (([] : List Int32) ++ [bv (nI 167)]).length) := (gk_le _ _ _)
      refine zwid (c2 := (((gk kb Lb.length (([] : List Int32) ++ [bv (nI 167)]).length) - kb))) (s2 := 2 * (((gk kb Lb.length (([] : List Int32) ++ [bv (nI 167)]).length) - kb))) (by show (((gk kb Lb.length (([] : List Int32)).length) - kb)) + ((gk kb Lb.length (([] : List Int32) ++ [bv (nI 167)]).length) - (gk kb Lb.length (([] : List Int32)).length)) ≤ _; omega) (by show 2 * (((gk kb Lb.length (([] : List Int32)).length) - kb)) + 2 * ((gk kb Lb.length (([] : List Int32) ++ [bv (nI 167)]).length) - (gk kb Lb.length (([] : List Int32)).length)) ≤ _; omega) ?_
      have hpe : ([] : List Int32) ++ [bv (nI 167)] = wP w := hwp.symm
      rw [hpe] at hY fbb ffb ⊢
      clear hpe
      refine zsub (lv' := [(3, .int (nI w)), (0, .ref (ad 12)), (1, .ref (ad (200 + 12 * f))), (2, .int (nI k))]) (by simp [zs1, lv_args, Value.category, show ((1 : Fin 4) : Nat) = 1 from rfl, show ((2 : Fin 4) : Nat) = 2 from rfl, show ((3 : Fin 4) : Nat) = 3 from rfl, show nI 0 = (0 : Int32) from rfl]) ?_
      exact tail _ _ _ _ ⟨⟨_, _, hH, ka, kw, hM, hC, hY⟩, Nat.le_refl _, Nat.le_refl _, rfl⟩
    · refine r_iload_n F dX4_writeFirst_19 rfl ?_
      refine r_bipush (v := 29) F dX4_writeFirst_20 (by decide) ?_
      refine r_icmp_eq (tgt := 31) F dX4_writeFirst_22 (by decide) (fun c22 => ?_) (fun c22 => ?_)
      · refine r_aload_n F dX4_writeFirst_31 rfl ?_
        refine r_getS (ci := 5) (k := 2) (id := 502) (C := RX4) (T := TX4) (N := 3) F G rfl (by decide) (by decide) rfl (zinL inG5) (zin kf_X4_21) (fun _ h9 => h9) dX4_writeFirst_32 FF.1 FF.2.2.2.1 ?_
        refine r_sipush (v := 167) F dX4_writeFirst_35 (by decide) ?_
        have hww : w = 29 := by have c9 := c22; rw [show (29 : Int32) = nI 29 from rfl, nI_eq (by omega) (by omega)] at c9; exact c9
        have hwp : wP w = [bv (nI 167)] := if_pos (by omega)
        have hwl : (wP w).length = 1 := by rw [hwp]; rfl
        have fnb : (gk kb Lb.length (([] : List Int32)).length) ≤ (gk kb Lb.length (([] : List Int32) ++ [bv (nI 167)]).length) := gk_mono _ (by first | omega | (simp only [List.length_append, List.length_cons, List.length_nil]; omega))
        have ffb : (gk kb Lb.length (([] : List Int32) ++ [bv (nI 167)]).length) ≤ (gk kb Lb.length (wP w ++ [wO w t]).length) := (gk_mono _ (by first | omega | (simp only [List.length_append, List.length_cons, List.length_nil]; omega)))
        refine c_Vv (ci := 1) F G (c_nput hH (L := Lb) (P := ([] : List Int32)) hY (ka 48 (by decide) (by decide) (by decide)) (x := nI 167) (by first | omega | (simp only [List.length_append, List.length_cons, List.length_nil]; omega))) (cwV 1 F.2.2.2.2 (zgV km_X4_50 ki_X0_put ke_X0_X0_put kn_X0 ko_X0_put) rfl rfl rfl ⟨rfl, hd_yX0_put⟩ ⟨Nat.le_of_ble_eq_true rfl, Nat.le_of_ble_eq_true rfl⟩) rfl (by decide) FF.2.2.2.2.2.2.1 rfl rfl (Nat.le_of_ble_eq_true rfl) dX4_writeFirst_38 ⟨by show (((gk kb Lb.length (([] : List Int32)).length) - kb)) + ((gk kb Lb.length (([] : List Int32) ++ [bv (nI 167)]).length) - (gk kb Lb.length (([] : List Int32)).length)) ≤ ((gk kb Lb.length (wP w ++ [wO w t]).length) - kb); omega, by show 2 * (((gk kb Lb.length (([] : List Int32)).length) - kb)) + 2 * ((gk kb Lb.length (([] : List Int32) ++ [bv (nI 167)]).length) - (gk kb Lb.length (([] : List Int32)).length)) ≤ 2 * (((gk kb Lb.length (wP w ++ [wO w t]).length) - kb)); omega⟩ (fun S38 h38 => ?_)
        obtain ⟨ad1, W1, hH, ka, kw, hM, hC, hY⟩ := yZ.b ka kw hM hC h38
        have FF := yF hw a12 hH ka kw hM hC hY
        have hL1 := hLd.same kw hM hC hY
        have hR1 := hL1.1.2.2.1 f hf ht
        have eaf := ka (200 + 12 * f) (by omega) (by omega) (by omega)
        have A1 := hH.al hR1.1 eaf hkd.1
        have fbb : kb ≤ (gk kb Lb.length (([] : List Int32) ++ [bv (nI 167)]).length) := (gk_le _ _ _)
        refine zwid (c2 := (((gk kb Lb.length (([] : List Int32) ++ [bv (nI 167)]).length) - kb))) (s2 := 2 * (((gk kb Lb.length (([] : List Int32) ++ [bv (nI 167)]).length) - kb))) (by show (((gk kb Lb.length (([] : List Int32)).length) - kb)) + ((gk kb Lb.length (([] : List Int32) ++ [bv (nI 167)]).length) - (gk kb Lb.length (([] : List Int32)).length)) ≤ _; omega) (by show 2 * (((gk kb Lb.length (([] : List Int32)).length) - kb)) + 2 * ((gk kb Lb.length (([] : List Int32) ++ [bv (nI 167)]).length) - (gk kb Lb.length (([] : List Int32)).length)) ≤ _; omega) ?_
        have hpe : ([] : List Int32) ++ [bv (nI 167)] = wP w := hwp.symm
        rw [hpe] at hY fbb ffb ⊢
        clear hpe
        refine zsub (lv' := [(3, .int (nI w)), (0, .ref (ad 12)), (1, .ref (ad (200 + 12 * f))), (2, .int (nI k))]) (by simp [zs1, lv_args, Value.category, show ((1 : Fin 4) : Nat) = 1 from rfl, show ((2 : Fin 4) : Nat) = 2 from rfl, show ((3 : Fin 4) : Nat) = 3 from rfl, show nI 0 = (0 : Int32) from rfl]) ?_
        exact tail _ _ _ _ ⟨⟨_, _, hH, ka, kw, hM, hC, hY⟩, Nat.le_refl _, Nat.le_refl _, rfl⟩
      · refine r_iload_n F dX4_writeFirst_25 rfl ?_
        refine r_bipush (v := 32) F dX4_writeFirst_26 (by decide) ?_
        refine r_icmp_ne (tgt := 41) F dX4_writeFirst_28 (by decide) (fun c28 => ?_) (fun c28 => ?_)
        · have hwp : wP w = [] := if_neg (by
            rintro (h9 | h9 | h9 | h9)
            · exact c10 (by rw [h9]; rfl)
            · exact c16 (by rw [h9]; rfl)
            · exact c22 (by rw [h9]; rfl)
            · exact c28 (by rw [h9]; rfl))
          replace hY : bL W 48 (Lb ++ wP w) (gk kb Lb.length (wP w).length) := by rw [hwp]; exact hY
          refine zsub (lv' := [(3, .int (nI w)), (0, .ref (ad 12)), (1, .ref (ad (200 + 12 * f))), (2, .int (nI k))]) (by simp [zs1, lv_args, Value.category, show ((1 : Fin 4) : Nat) = 1 from rfl, show ((2 : Fin 4) : Nat) = 2 from rfl, show ((3 : Fin 4) : Nat) = 3 from rfl, show nI 0 = (0 : Int32) from rfl]) ?_
          exact tail _ _ _ _ ⟨⟨_, _, hH, ka, kw, hM, hC, hY⟩, by rw [hwp]; exact Nat.le_refl _, by rw [hwp]; exact Nat.le_refl _, rfl⟩
        · refine r_aload_n F dX4_writeFirst_31 rfl ?_
          refine r_getS (ci := 5) (k := 2) (id := 502) (C := RX4) (T := TX4) (N := 3) F G rfl (by decide) (by decide) rfl (zinL inG5) (zin kf_X4_21) (fun _ h9 => h9) dX4_writeFirst_32 FF.1 FF.2.2.2.1 ?_
          refine r_sipush (v := 167) F dX4_writeFirst_35 (by decide) ?_
          have hww : w = 32 := by have c9 := c28; rw [show (32 : Int32) = nI 32 from rfl, nI_eq (by omega) (by omega)] at c9; exact c9
          have hwp : wP w = [bv (nI 167)] := if_pos (by omega)
          have hwl : (wP w).length = 1 := by rw [hwp]; rfl
          have fnb : (gk kb Lb.length (([] : List Int32)).length) ≤ (gk kb Lb.length (([] : List Int32) ++ [bv (nI 167)]).length) := gk_mono _ (by first | omega | (simp only [List.length_append, List.length_cons, List.length_nil]; omega))
          have ffb : (gk kb Lb.length (([] : List Int32) ++ [bv (nI 167)]).length) ≤ (gk kb Lb.length (wP w ++ [wO w t]).length) := (gk_mono _ (by first | omega | (simp only [List.length_append, List.length_cons, List.length_nil]; omega)))
          refine c_Vv (ci := 1) F G (c_nput hH (L := Lb) (P := ([] : List Int32)) hY (ka 48 (by decide) (by decide) (by decide)) (x := nI 167) (by first | omega | (simp only [List.length_append, List.length_cons, List.length_nil]; omega))) (cwV 1 F.2.2.2.2 (zgV km_X4_50 ki_X0_put ke_X0_X0_put kn_X0 ko_X0_put) rfl rfl rfl ⟨rfl, hd_yX0_put⟩ ⟨Nat.le_of_ble_eq_true rfl, Nat.le_of_ble_eq_true rfl⟩) rfl (by decide) FF.2.2.2.2.2.2.1 rfl rfl (Nat.le_of_ble_eq_true rfl) dX4_writeFirst_38 ⟨by show (((gk kb Lb.length (([] : List Int32)).length) - kb)) + ((gk kb Lb.length (([] : List Int32) ++ [bv (nI 167)]).length) - (gk kb Lb.length (([] : List Int32)).length)) ≤ ((gk kb Lb.length (wP w ++ [wO w t]).length) - kb); omega, by show 2 * (((gk kb Lb.length (([] : List Int32)).length) - kb)) + 2 * ((gk kb Lb.length (([] : List Int32) ++ [bv (nI 167)]).length) - (gk kb Lb.length (([] : List Int32)).length)) ≤ 2 * (((gk kb Lb.length (wP w ++ [wO w t]).length) - kb)); omega⟩ (fun S38 h38 => ?_)
          obtain ⟨ad1, W1, hH, ka, kw, hM, hC, hY⟩ := yZ.b ka kw hM hC h38
          have FF := yF hw a12 hH ka kw hM hC hY
          have hL1 := hLd.same kw hM hC hY
          have hR1 := hL1.1.2.2.1 f hf ht
          have eaf := ka (200 + 12 * f) (by omega) (by omega) (by omega)
          have A1 := hH.al hR1.1 eaf hkd.1
          have fbb : kb ≤ (gk kb Lb.length (([] : List Int32) ++ [bv (nI 167)]).length) := (gk_le _ _ _)
          refine zwid (c2 := (((gk kb Lb.length (([] : List Int32) ++ [bv (nI 167)]).length) - kb))) (s2 := 2 * (((gk kb Lb.length (([] : List Int32) ++ [bv (nI 167)]).length) - kb))) (by show (((gk kb Lb.length (([] : List Int32)).length) - kb)) + ((gk kb Lb.length (([] : List Int32) ++ [bv (nI 167)]).length) - (gk kb Lb.length (([] : List Int32)).length)) ≤ _; omega) (by show 2 * (((gk kb Lb.length (([] : List Int32)).length) - kb)) + 2 * ((gk kb Lb.length (([] : List Int32) ++ [bv (nI 167)]).length) - (gk kb Lb.length (([] : List Int32)).length)) ≤ _; omega) ?_
          have hpe : ([] : List Int32) ++ [bv (nI 167)] = wP w := hwp.symm
          rw [hpe] at hY fbb ffb ⊢
          clear hpe
          refine zsub (lv' := [(3, .int (nI w)), (0, .ref (ad 12)), (1, .ref (ad (200 + 12 * f))), (2, .int (nI k))]) (by simp [zs1, lv_args, Value.category, show ((1 : Fin 4) : Nat) = 1 from rfl, show ((2 : Fin 4) : Nat) = 2 from rfl, show ((3 : Fin 4) : Nat) = 3 from rfl, show nI 0 = (0 : Int32) from rfl]) ?_
          exact tail _ _ _ _ ⟨⟨_, _, hH, ka, kw, hM, hC, hY⟩, Nat.le_refl _, Nat.le_refl _, rfl⟩
