theorem nl19 : (19 : Int32) = nI 19 := rfl
theorem nl20 : (20 : Int32) = nI 20 := rfl
theorem nl26 : (26 : Int32) = nI 26 := rfl
theorem l2i_n {x : Int64} (h : ¬ x < 0) : x.toInt32 = nI x.toInt.toNat := by
  have h0 : ¬ x.toInt < 0 := fun h9 => h (Int64.lt_iff_toInt_lt.mpr h9)
  rw [← Int32.ofInt_int64ToInt, show x.toInt = ((x.toInt.toNat : Nat) : Int) by omega, Int32.ofInt_eq_ofNat]
  rfl
theorem ldR_cg {m1 m2 : Nat → Int32} {a n : Nat} (h : ∀ k, k < 1024 → m1 k = m2 k) (ha : a + n ≤ 1024) : ∀ j, j ≤ n → ldR m1 a n j = ldR m2 a n j
  | 0, _ => rfl
  | j + 1, hj => by
    unfold ldR
    rw [ldR_cg h ha j (by omega), h (a + (n - 1 - j)) (by omega)]
theorem ka_of {v : zV} {f k j : Nat} (h : v.1 1210 (60 * f + k) = nI j) (hj : j < 2 ^ 31) : v.1 1210 (60 * f + k) = nI (ka v f k) ∧ ka v f k = j := by
  have e : ka v f k = j := by
    show (v.1 1210 (60 * f + k)).toNatClampNeg = j
    rw [h, nI_clamp hj]
  exact ⟨by rw [e]; exact h, e⟩
theorem out_n {x : Int64} {a n : Nat} (h : ¬ outP x a n) : ¬ x < 0 ∧ x.toInt.toNat + a + n ≤ 1024 := by
  have h1 : ¬ x < 0 := fun h9 => h (Or.inl h9)
  have h0 : ¬ x.toInt < 0 := fun h9 => h1 (Int64.lt_iff_toInt_lt.mpr h9)
  have h2 : ¬ 1024 - (n : Int) - (a : Int) < x.toInt := fun h9 => h (Or.inr h9)
  exact ⟨h1, by omega⟩
theorem i2l_n {n : Nat} (h : n < 2 ^ 31) : (nI n).toInt64.toInt = (n : Int) := by
  rw [Int32.toInt_toInt64]
  exact nI_toInt h
set_option maxRecDepth 100000 in
set_option maxHeartbeats 4000000 in
theorem mm_step {l : Launch} {N0 t0 : Nat} {D : va_G} {cy : Nat → ClassId} {S : zS} {S0 : zS} {g : Nat} {qa : Nat → Nat} {v1 : zV} (hS : zmR S0 g qa v1 S) {v vs : zV} {Ss : List Nat} {Fr : aF} {Fs : List aF} {U : aU} (hL : vL v vs) (hQ : tQ vs 1224 1225 Ss) (hT : vT vs v1) (hR : rR (Fr :: Fs, U) v1) (hs : sOK v Ss) (hA : vA v) (hK : kEq v) (hO : aOK v (Fr :: Fs, U)) (hk : fa Fr < cn v 1208 (ff Fr)) : zMi l yX12_step (zws yX12_step cX12_step 23 (some .int)) { frames := 3, cells := 0, slots := 0, locals := 69 } N0 t0 D cy S [.ref g, .int (nI Fs.length)] (fun r S' => ∃ v2, zmR S0 g qa v2 S' ∧ stP v vs v2 U (aSp v Ss Fr Fs U) r) 0 0 := by
  refine zMi.of (cc := cX12_step) (maxL := 23) (ret := (some .int)) (by decide) rfl (Nat.le_of_ble_eq_true rfl) ?_
  intro p e s m args below meth c F G hr hlk hnm
  have hF := hO.1.1
  have hf := hF.1
  have hv := hs.1
  have hf48 := hf.1
  have hc := hs.c hf
  have hsz := hs.sz hf
  have hlen : Fs.length + 1 ≤ 40 := hO.2.1
  have hU : U.2.1 ≤ 40 := hO.2.2
  obtain ⟨hb1, hb2⟩ := lOK_b hs Fs _ hO.1.2
  have hfh : fh Fr + 0 ≤ fa Fr := hF.2.2.1
  have hfn := hF.2.2.2.1
  have hw36 := hs.w hf hk
  have hg9 := hs.g hf hk
  have hLL := hT.L hL
  have hpv : ∀ w n, kw v (ff Fr) (fa Fr) = w → ¬ w = 27 → n ≤ pp v (ff Fr / 8) w (v.1 1210 (60 * ff Fr + fa Fr)) → n ≤ fh Fr := fun w n e1 e2 e3 => by
    have h9 := hF.pv hs hk (by rw [e1]; exact e2)
    rw [e1] at h9
    omega
  refine r_aload_n F dX12_step_0 rfl ?_
  refine gq_frameFunction F G hS dX12_step_1 ?_
  refine r_iload_n F dX12_step_4 rfl ?_
  refine al_frameFunction F G hS (Fs.length) rfl (by omega) dX12_step_5 ?_
  rw [hR.F1.1]
  refine r_istore_n F dX12_step_6 (by decide) ?_
  refine r_aload_n F dX12_step_7 rfl ?_
  refine gq_frameAt F G hS dX12_step_8 ?_
  refine r_iload_n F dX12_step_11 rfl ?_
  refine al_frameAt F G hS (Fs.length) rfl (by omega) dX12_step_12 ?_
  rw [hR.F1.2.1]
  refine r_istore_n F dX12_step_13 (by decide) ?_
  refine r_aload_n F dX12_step_14 rfl ?_
  refine gq_word F G hS dX12_step_15 ?_
  refine r_bipush (v := 60) F dX12_step_18 (by decide) ?_
  refine r_iload_n F dX12_step_20 rfl ?_
  refine r_imul F dX12_step_21 ?_
  refine r_iload_n F dX12_step_22 rfl ?_
  refine r_iadd F dX12_step_23 ?_
  refine al_word F G hS (60 * ff Fr + fa Fr) (by simp only [nl0, nl1, nl2, nl3, nl4, nl5, nl6, nl7, nl8, nl9, nl10, nl16, nl60, nl64, nI_mul, nI_add]) (by omega) dX12_step_24 ?_
  rw [show v1.1 1209 (60 * ff Fr + fa Fr) = nI (kw v (ff Fr) (fa Fr)) from (hLL _ _ (by omega)).trans (rg_1209 hv (k := (60 * ff Fr + fa Fr)) (by omega)).1]
  refine r_istore F dX12_step_25 (by decide) ?_
  refine r_aload_n F dX12_step_27 rfl ?_
  refine gq_number F G hS dX12_step_28 ?_
  refine r_bipush (v := 60) F dX12_step_31 (by decide) ?_
  refine r_iload_n F dX12_step_33 rfl ?_
  refine r_imul F dX12_step_34 ?_
  refine r_iload_n F dX12_step_35 rfl ?_
  refine r_iadd F dX12_step_36 ?_
  refine al_number F G hS (60 * ff Fr + fa Fr) (by simp only [nl0, nl1, nl2, nl3, nl4, nl5, nl6, nl7, nl8, nl9, nl10, nl16, nl60, nl64, nI_mul, nI_add]) (by omega) dX12_step_37 ?_
  rw [show v1.1 1210 (60 * ff Fr + fa Fr) = v.1 1210 (60 * ff Fr + fa Fr) from hLL _ _ (by omega)]
  refine r_istore F dX12_step_38 (by decide) ?_
  refine r_aload_n F dX12_step_40 rfl ?_
  refine gq_frameAt F G hS dX12_step_41 ?_
  refine r_iload_n F dX12_step_44 rfl ?_
  refine r_iload_n F dX12_step_45 rfl ?_
  refine r_iconst (v := 1) F dX12_step_46 (by decide) ?_
  refine r_iadd F dX12_step_47 ?_
  rw [show nI (fa Fr) + 1 = nI (fa Fr + 1) from nI_add _ 1]
  refine as_frameAt F G hS (Fs.length) rfl (by omega) dX12_step_48 (fun S hS => ?_)
  have hR := hR.go (k := fa Fr + 1)
  have hT := hT.u (id := 1241) (k := Fs.length) (x := nI (fa Fr + 1)) (by omega)
  generalize u1 v1 1241 Fs.length (nI (fa Fr + 1)) = v1 at hS hR hT
  have hLL := hT.L hL
  refine r_iload F dX12_step_49 rfl ?_
  refine r_iconst (v := 3) F dX12_step_51 (by decide) ?_
  refine r_icmp_lt (tgt := 103) F dX12_step_52 (by decide) (fun c52 => ?_) (fun c52 => ?_)
  · refine r_iload F dX12_step_103 rfl ?_
    have hlo : kw v (ff Fr) (fa Fr) < 3 := by have c9 := c52; rw [nl3, nI_ltI (by omega) (by omega)] at c9; exact c9
    rcases (show (kw v (ff Fr) (fa Fr) = 0) ∨ (kw v (ff Fr) (fa Fr) = 1) ∨ (kw v (ff Fr) (fa Fr) = 2) by omega) with w105 | w105 | w105
    · refine r_table (off := 155) (tgt := 260) F dX12_step_105 ((show ∀ w : Nat, w < 36 → (w = 0) → (if (nI w).toInt < 0 ∨ 34 < (nI w).toInt then some (709 : Int) else (#[155, 164, 182, 709, 709, 709, 709, 709, 709, 709, 709, 709, 709, 709, 709, 709, 709, 200, 238, 250, 304, 250, 304, 388, 388, 395, 487, 512, 524, 533, 551, 557, 590, 650, 671] : Array Int)[((nI w).toInt - 0).toNat]?) = some (155 : Int) from by decide) (kw v (ff Fr) (fa Fr)) hw36 w105) (by decide) ?_
      have hw : kw v (ff Fr) (fa Fr) = 0 := w105
      refine r_aload_n F dX12_step_260 rfl ?_
      refine r_iload F dX12_step_261 rfl ?_
      refine r_i2l F dX12_step_263 ?_
      refine c_Vv (ci := 12) F G (mm_push hS (t := sH Fs + fh Fr) hR.T (by omega)) (cwV 1 F.2.2.2.2 (zgV km_X12_343 ki_X12_push ke_X12_X12_push kn_X12 ko_X12_push) rfl rfl rfl ⟨rfl, hd_yX12_push⟩ ⟨Nat.le_of_ble_eq_true rfl, Nat.le_of_ble_eq_true rfl⟩) rfl (by decide) hS.al rfl rfl (Nat.le_of_ble_eq_true rfl) dX12_step_264 ⟨Nat.le_of_ble_eq_true rfl, Nat.le_of_ble_eq_true rfl⟩ (fun S264 hS => ?_)
      have hR : rR (fPu (fGo Fr (fa Fr + 1)) (v.1 1210 (60 * ff Fr + fa Fr)).toInt64 :: Fs, U) (u1 (u2 v1 1245 (sH Fs + fh Fr) (v.1 1210 (60 * ff Fr + fa Fr)).toInt64) 1246 0 (nI (sH Fs + fh Fr + 1))) := hR.pu
      have hT := (hT.uu (id := 1245) (k := sH Fs + fh Fr) (x := (v.1 1210 (60 * ff Fr + fa Fr)).toInt64) (Or.inr rfl)).u (id := 1246) (k := 0) (x := nI (sH Fs + fh Fr + 1)) (by omega)
      refine r_iconst (v := 0) F dX12_step_267 (by decide) ?_
      refine e_iret F hr hlk ⟨_, hS, ?_⟩ (by decide) (by decide) dX12_step_268
      rw [aSp_0 hw]
      exact stP.go hT hR
    · refine r_table (off := 164) (tgt := 269) F dX12_step_105 ((show ∀ w : Nat, w < 36 → (w = 1) → (if (nI w).toInt < 0 ∨ 34 < (nI w).toInt then some (709 : Int) else (#[155, 164, 182, 709, 709, 709, 709, 709, 709, 709, 709, 709, 709, 709, 709, 709, 709, 200, 238, 250, 304, 250, 304, 388, 388, 395, 487, 512, 524, 533, 551, 557, 590, 650, 671] : Array Int)[((nI w).toInt - 0).toNat]?) = some (164 : Int) from by decide) (kw v (ff Fr) (fa Fr)) hw36 w105) (by decide) ?_
      have hw : kw v (ff Fr) (fa Fr) = 1 := w105
      obtain ⟨j9, q1, q2⟩ := hg9.1 (Or.inl hw)
      have hpl := (rg_1205 hv hf.1).2
      have hll := (rg_1207 hv hf.1).2
      obtain ⟨ej, ek⟩ := ka_of q2 (by omega)
      refine r_aload_n F dX12_step_269 rfl ?_
      refine r_aload_n F dX12_step_270 rfl ?_
      refine gq_local F G hS dX12_step_271 ?_
      refine r_bipush (v := 8) F dX12_step_274 (by decide) ?_
      refine r_iload_n F dX12_step_276 rfl ?_
      refine r_imul F dX12_step_277 ?_
      refine r_iload F dX12_step_278 rfl ?_
      refine r_iadd F dX12_step_280 ?_
      rw [ej]
      refine al_local F G hS (8 * Fs.length + ka v (ff Fr) (fa Fr)) (by simp only [nl0, nl1, nl2, nl3, nl4, nl5, nl6, nl7, nl8, nl9, nl10, nl16, nl60, nl64, nI_mul, nI_add]) (by omega) dX12_step_281 ?_
      rw [show v1.2 1244 (8 * Fs.length + ka v (ff Fr) (fa Fr)) = fc Fr (ka v (ff Fr) (fa Fr)) from hR.F1.2.2.2.2.1 _ (by omega)]
      refine c_Vv (ci := 12) F G (mm_push hS (t := sH Fs + fh Fr) hR.T (by omega)) (cwV 1 F.2.2.2.2 (zgV km_X12_343 ki_X12_push ke_X12_X12_push kn_X12 ko_X12_push) rfl rfl rfl ⟨rfl, hd_yX12_push⟩ ⟨Nat.le_of_ble_eq_true rfl, Nat.le_of_ble_eq_true rfl⟩) rfl (by decide) hS.al rfl rfl (Nat.le_of_ble_eq_true rfl) dX12_step_282 ⟨Nat.le_of_ble_eq_true rfl, Nat.le_of_ble_eq_true rfl⟩ (fun S282 hS => ?_)
      have hR : rR (fPu (fGo Fr (fa Fr + 1)) (fc Fr (ka v (ff Fr) (fa Fr))) :: Fs, U) (u1 (u2 v1 1245 (sH Fs + fh Fr) (fc Fr (ka v (ff Fr) (fa Fr)))) 1246 0 (nI (sH Fs + fh Fr + 1))) := hR.pu
      have hT := (hT.uu (id := 1245) (k := sH Fs + fh Fr) (x := (fc Fr (ka v (ff Fr) (fa Fr)))) (Or.inr rfl)).u (id := 1246) (k := 0) (x := nI (sH Fs + fh Fr + 1)) (by omega)
      refine r_iconst (v := 0) F dX12_step_285 (by decide) ?_
      refine e_iret F hr hlk ⟨_, hS, ?_⟩ (by decide) (by decide) dX12_step_286
      rw [aSp_1 hw]
      exact stP.go hT hR
    · refine r_table (off := 182) (tgt := 287) F dX12_step_105 ((show ∀ w : Nat, w < 36 → (w = 2) → (if (nI w).toInt < 0 ∨ 34 < (nI w).toInt then some (709 : Int) else (#[155, 164, 182, 709, 709, 709, 709, 709, 709, 709, 709, 709, 709, 709, 709, 709, 709, 200, 238, 250, 304, 250, 304, 388, 388, 395, 487, 512, 524, 533, 551, 557, 590, 650, 671] : Array Int)[((nI w).toInt - 0).toNat]?) = some (182 : Int) from by decide) (kw v (ff Fr) (fa Fr)) hw36 w105) (by decide) ?_
      have hw : kw v (ff Fr) (fa Fr) = 2 := w105
      obtain ⟨j9, q1, q2⟩ := hg9.1 (Or.inr hw)
      have hpl := (rg_1205 hv hf.1).2
      have hll := (rg_1207 hv hf.1).2
      obtain ⟨ej, ek⟩ := ka_of q2 (by omega)
      have hp1 : 1 ≤ fh Fr := hpv _ 1 hw (by decide) (Nat.le_refl 1)
      refine r_aload_n F dX12_step_287 rfl ?_
      refine gq_local F G hS dX12_step_288 ?_
      refine r_bipush (v := 8) F dX12_step_291 (by decide) ?_
      refine r_iload_n F dX12_step_293 rfl ?_
      refine r_imul F dX12_step_294 ?_
      refine r_iload F dX12_step_295 rfl ?_
      refine r_iadd F dX12_step_297 ?_
      refine r_aload_n F dX12_step_298 rfl ?_
      refine c_Vl (ci := 12) F G (mm_pop hS (t := sH Fs + (fh Fr - 1)) (by rw [show v1.1 1246 0 = nI (sH Fs + fh Fr) from hR.T, show sH Fs + fh Fr = sH Fs + (fh Fr - 1) + 1 from by omega]) (by omega)) (cwV 0 F.2.2.2.2 (zgV km_X12_331 ki_X12_pop ke_X12_X12_pop kn_X12 ko_X12_pop) rfl rfl rfl ⟨rfl, hd_yX12_pop⟩ ⟨Nat.le_of_ble_eq_true rfl, Nat.le_of_ble_eq_true rfl⟩) rfl (by decide) hS.al rfl rfl (Nat.le_of_ble_eq_true rfl) dX12_step_299 ⟨Nat.le_of_ble_eq_true rfl, Nat.le_of_ble_eq_true rfl⟩ (fun r299 S299 h299 => ?_)
      obtain ⟨h299a, hS⟩ := h299
      rw [show v1.2 1245 (sH Fs + (fh Fr - 1)) = fv Fr (fh Fr - 1) from hR.F1.2.2.2.2.2.1 (fh Fr - 1) (show fh Fr - 1 < fh Fr by omega)] at h299a
      subst h299a
      have hR : rR (fDr (fGo Fr (fa Fr + 1)) 1 :: Fs, U) (u1 v1 1246 0 (nI (sH Fs + (fh Fr - 1)))) := hR.dr (m := 1)
      have hT := hT.u (id := 1246) (k := 0) (x := nI (sH Fs + (fh Fr - 1))) (by omega)
      generalize u1 v1 1246 0 (nI (sH Fs + (fh Fr - 1))) = v1 at hS hR hT
      have hLL := hT.L hL
      rw [ej]
      refine as_local F G hS (8 * Fs.length + ka v (ff Fr) (fa Fr)) (by simp only [nl0, nl1, nl2, nl3, nl4, nl5, nl6, nl7, nl8, nl9, nl10, nl16, nl60, nl64, nI_mul, nI_add]) (by omega) dX12_step_302 (fun S hS => ?_)
      have hR := hR.lc (i := ka v (ff Fr) (fa Fr)) (x := (fv Fr (fh Fr - 1)))
      have hT := hT.uu (id := 1244) (k := 8 * Fs.length + ka v (ff Fr) (fa Fr)) (x := (fv Fr (fh Fr - 1))) (Or.inl rfl)
      refine r_iconst (v := 0) F dX12_step_303 (by decide) ?_
      refine e_iret F hr hlk ⟨_, hS, ?_⟩ (by decide) (by decide) dX12_step_304
      rw [aSp_2 hw]
      exact stP.go hT hR
  · refine r_iload F dX12_step_55 rfl ?_
    refine r_bipush (v := 16) F dX12_step_57 (by decide) ?_
    refine r_icmp_gt (tgt := 103) F dX12_step_59 (by decide) (fun c59 => ?_) (fun c59 => ?_)
    · refine r_iload F dX12_step_103 rfl ?_
      have hhi : 16 < kw v (ff Fr) (fa Fr) := by have c9 := c59; rw [nl16, nI_ltI (by omega) (by omega)] at c9; exact c9
      rcases (show (kw v (ff Fr) (fa Fr) = 35) ∨ (kw v (ff Fr) (fa Fr) = 17) ∨ (kw v (ff Fr) (fa Fr) = 18) ∨ (kw v (ff Fr) (fa Fr) = 19 ∨ kw v (ff Fr) (fa Fr) = 21) ∨ (kw v (ff Fr) (fa Fr) = 20 ∨ kw v (ff Fr) (fa Fr) = 22) ∨ ((23 ≤ kw v (ff Fr) (fa Fr) ∧ kw v (ff Fr) (fa Fr) ≤ 24)) ∨ (kw v (ff Fr) (fa Fr) = 25) ∨ (kw v (ff Fr) (fa Fr) = 26) ∨ (kw v (ff Fr) (fa Fr) = 27) ∨ (kw v (ff Fr) (fa Fr) = 28) ∨ (kw v (ff Fr) (fa Fr) = 29) ∨ (kw v (ff Fr) (fa Fr) = 30) ∨ (kw v (ff Fr) (fa Fr) = 31) ∨ (kw v (ff Fr) (fa Fr) = 32) ∨ (kw v (ff Fr) (fa Fr) = 33) ∨ (kw v (ff Fr) (fa Fr) = 34) by omega) with w105 | w105 | w105 | w105 | w105 | w105 | w105 | w105 | w105 | w105 | w105 | w105 | w105 | w105 | w105 | w105
      · refine r_table (off := 709) (tgt := 814) F dX12_step_105 ((show ∀ w : Nat, w < 36 → (w = 35) → (if (nI w).toInt < 0 ∨ 34 < (nI w).toInt then some (709 : Int) else (#[155, 164, 182, 709, 709, 709, 709, 709, 709, 709, 709, 709, 709, 709, 709, 709, 709, 200, 238, 250, 304, 250, 304, 388, 388, 395, 487, 512, 524, 533, 551, 557, 590, 650, 671] : Array Int)[((nI w).toInt - 0).toNat]?) = some (709 : Int) from by decide) (kw v (ff Fr) (fa Fr)) hw36 w105) (by decide) ?_
        have hw : kw v (ff Fr) (fa Fr) = 35 := w105
        refine r_aload_n F dX12_step_814 rfl ?_
        refine r_ldcL (v := 1024) F (zin kv_X12_318) dX12_step_815 ?_
        refine c_Vv (ci := 12) F G (mm_push hS (t := sH Fs + fh Fr) hR.T (by omega)) (cwV 1 F.2.2.2.2 (zgV km_X12_343 ki_X12_push ke_X12_X12_push kn_X12 ko_X12_push) rfl rfl rfl ⟨rfl, hd_yX12_push⟩ ⟨Nat.le_of_ble_eq_true rfl, Nat.le_of_ble_eq_true rfl⟩) rfl (by decide) hS.al rfl rfl (Nat.le_of_ble_eq_true rfl) dX12_step_818 ⟨Nat.le_of_ble_eq_true rfl, Nat.le_of_ble_eq_true rfl⟩ (fun S818 hS => ?_)
        have hR : rR (fPu (fGo Fr (fa Fr + 1)) 1024 :: Fs, U) (u1 (u2 v1 1245 (sH Fs + fh Fr) 1024) 1246 0 (nI (sH Fs + fh Fr + 1))) := hR.pu
        have hT := (hT.uu (id := 1245) (k := sH Fs + fh Fr) (x := 1024) (Or.inr rfl)).u (id := 1246) (k := 0) (x := nI (sH Fs + fh Fr + 1)) (by omega)
        refine r_iconst (v := 0) F dX12_step_821 (by decide) ?_
        refine e_iret F hr hlk ⟨_, hS, ?_⟩ (by decide) (by decide) dX12_step_822
        rw [aSp_35 hw]
        exact stP.go hT hR
      · refine r_table (off := 200) (tgt := 305) F dX12_step_105 ((show ∀ w : Nat, w < 36 → (w = 17) → (if (nI w).toInt < 0 ∨ 34 < (nI w).toInt then some (709 : Int) else (#[155, 164, 182, 709, 709, 709, 709, 709, 709, 709, 709, 709, 709, 709, 709, 709, 709, 200, 238, 250, 304, 250, 304, 388, 388, 395, 487, 512, 524, 533, 551, 557, 590, 650, 671] : Array Int)[((nI w).toInt - 0).toNat]?) = some (200 : Int) from by decide) (kw v (ff Fr) (fa Fr)) hw36 w105) (by decide) ?_
        have hw : kw v (ff Fr) (fa Fr) = 17 := w105
        have hp3 : 3 ≤ fh Fr := hpv _ 3 hw (by decide) (Nat.le_refl 3)
        refine r_aload_n F dX12_step_305 rfl ?_
        refine c_Vl (ci := 12) F G (mm_pop hS (t := sH Fs + (fh Fr - 1)) (by rw [show v1.1 1246 0 = nI (sH Fs + fh Fr) from hR.T, show sH Fs + fh Fr = sH Fs + (fh Fr - 1) + 1 from by omega]) (by omega)) (cwV 0 F.2.2.2.2 (zgV km_X12_331 ki_X12_pop ke_X12_X12_pop kn_X12 ko_X12_pop) rfl rfl rfl ⟨rfl, hd_yX12_pop⟩ ⟨Nat.le_of_ble_eq_true rfl, Nat.le_of_ble_eq_true rfl⟩) rfl (by decide) hS.al rfl rfl (Nat.le_of_ble_eq_true rfl) dX12_step_306 ⟨Nat.le_of_ble_eq_true rfl, Nat.le_of_ble_eq_true rfl⟩ (fun r306 S306 h306 => ?_)
        obtain ⟨h306a, hS⟩ := h306
        rw [show v1.2 1245 (sH Fs + (fh Fr - 1)) = fv Fr (fh Fr - 1) from hR.F1.2.2.2.2.2.1 (fh Fr - 1) (show fh Fr - 1 < fh Fr by omega)] at h306a
        subst h306a
        have hR : rR (fDr (fGo Fr (fa Fr + 1)) 1 :: Fs, U) (u1 v1 1246 0 (nI (sH Fs + (fh Fr - 1)))) := hR.dr (m := 1)
        have hT := hT.u (id := 1246) (k := 0) (x := nI (sH Fs + (fh Fr - 1))) (by omega)
        generalize u1 v1 1246 0 (nI (sH Fs + (fh Fr - 1))) = v1 at hS hR hT
        have hLL := hT.L hL
        refine r_lstore F dX12_step_309 (by decide) ?_
        refine r_aload_n F dX12_step_311 rfl ?_
        refine c_Vl (ci := 12) F G (mm_pop hS (t := sH Fs + (fh Fr - 2)) (by rw [show v1.1 1246 0 = nI (sH Fs + (fh Fr - 1)) from hR.T, show sH Fs + (fh Fr - 1) = sH Fs + (fh Fr - 2) + 1 from by omega]) (by omega)) (cwV 0 F.2.2.2.2 (zgV km_X12_331 ki_X12_pop ke_X12_X12_pop kn_X12 ko_X12_pop) rfl rfl rfl ⟨rfl, hd_yX12_pop⟩ ⟨Nat.le_of_ble_eq_true rfl, Nat.le_of_ble_eq_true rfl⟩) rfl (by decide) hS.al rfl rfl (Nat.le_of_ble_eq_true rfl) dX12_step_312 ⟨Nat.le_of_ble_eq_true rfl, Nat.le_of_ble_eq_true rfl⟩ (fun r312 S312 h312 => ?_)
        obtain ⟨h312a, hS⟩ := h312
        rw [show v1.2 1245 (sH Fs + (fh Fr - 2)) = fv Fr (fh Fr - 2) from hR.F1.2.2.2.2.2.1 (fh Fr - 2) (show fh Fr - 2 < (fh Fr - 1) by omega)] at h312a
        subst h312a
        have hR : rR (fDr (fGo Fr (fa Fr + 1)) 2 :: Fs, U) (u1 v1 1246 0 (nI (sH Fs + (fh Fr - 2)))) := hR.dr (m := 1)
        have hT := hT.u (id := 1246) (k := 0) (x := nI (sH Fs + (fh Fr - 2))) (by omega)
        generalize u1 v1 1246 0 (nI (sH Fs + (fh Fr - 2))) = v1 at hS hR hT
        have hLL := hT.L hL
        refine r_lstore F dX12_step_315 (by decide) ?_
        refine r_aload_n F dX12_step_317 rfl ?_
        refine c_Vl (ci := 12) F G (mm_pop hS (t := sH Fs + (fh Fr - 3)) (by rw [show v1.1 1246 0 = nI (sH Fs + (fh Fr - 2)) from hR.T, show sH Fs + (fh Fr - 2) = sH Fs + (fh Fr - 3) + 1 from by omega]) (by omega)) (cwV 0 F.2.2.2.2 (zgV km_X12_331 ki_X12_pop ke_X12_X12_pop kn_X12 ko_X12_pop) rfl rfl rfl ⟨rfl, hd_yX12_pop⟩ ⟨Nat.le_of_ble_eq_true rfl, Nat.le_of_ble_eq_true rfl⟩) rfl (by decide) hS.al rfl rfl (Nat.le_of_ble_eq_true rfl) dX12_step_318 ⟨Nat.le_of_ble_eq_true rfl, Nat.le_of_ble_eq_true rfl⟩ (fun r318 S318 h318 => ?_)
        obtain ⟨h318a, hS⟩ := h318
        rw [show v1.2 1245 (sH Fs + (fh Fr - 3)) = fv Fr (fh Fr - 3) from hR.F1.2.2.2.2.2.1 (fh Fr - 3) (show fh Fr - 3 < (fh Fr - 2) by omega)] at h318a
        subst h318a
        have hR : rR (fDr (fGo Fr (fa Fr + 1)) 3 :: Fs, U) (u1 v1 1246 0 (nI (sH Fs + (fh Fr - 3)))) := hR.dr (m := 1)
        have hT := hT.u (id := 1246) (k := 0) (x := nI (sH Fs + (fh Fr - 3))) (by omega)
        generalize u1 v1 1246 0 (nI (sH Fs + (fh Fr - 3))) = v1 at hS hR hT
        have hLL := hT.L hL
        refine r_lstore F dX12_step_321 (by decide) ?_
        refine r_aload_n F dX12_step_323 rfl ?_
        refine r_lload F dX12_step_324 rfl ?_
        refine r_lconst (v := 0) F dX12_step_326 (by decide) ?_
        refine r_lcmp F dX12_step_327 ?_
        refine r_if_eq (tgt := 336) F dX12_step_328 (by decide) (fun c328 => ?_) (fun c328 => ?_)
        · refine r_lload F dX12_step_336 rfl ?_
          refine c_Vv (ci := 12) F G (mm_push hS (t := sH Fs + (fh Fr - 3)) hR.T (by omega)) (cwV 1 F.2.2.2.2 (zgV km_X12_343 ki_X12_push ke_X12_X12_push kn_X12 ko_X12_push) rfl rfl rfl ⟨rfl, hd_yX12_push⟩ ⟨Nat.le_of_ble_eq_true rfl, Nat.le_of_ble_eq_true rfl⟩) rfl (by decide) hS.al rfl rfl (Nat.le_of_ble_eq_true rfl) dX12_step_338 ⟨Nat.le_of_ble_eq_true rfl, Nat.le_of_ble_eq_true rfl⟩ (fun S338 hS => ?_)
          have hR : rR (fPu (fDr (fGo Fr (fa Fr + 1)) 3) (fv Fr (fh Fr - 2)) :: Fs, U) (u1 (u2 v1 1245 (sH Fs + (fh Fr - 3)) (fv Fr (fh Fr - 2))) 1246 0 (nI (sH Fs + (fh Fr - 3) + 1))) := hR.pu
          have hT := (hT.uu (id := 1245) (k := sH Fs + (fh Fr - 3)) (x := (fv Fr (fh Fr - 2))) (Or.inr rfl)).u (id := 1246) (k := 0) (x := nI (sH Fs + (fh Fr - 3) + 1)) (by omega)
          refine r_iconst (v := 0) F dX12_step_341 (by decide) ?_
          refine e_iret F hr hlk ⟨_, hS, ?_⟩ (by decide) (by decide) dX12_step_342
          rw [aSp_17 hw, if_pos ((lg_cmp_eq _ _).mp c328)]
          exact stP.go hT hR
        · refine r_lload F dX12_step_331 rfl ?_
          refine r_goto (tgt := 338) F dX12_step_333 (by decide) ?_
          refine c_Vv (ci := 12) F G (mm_push hS (t := sH Fs + (fh Fr - 3)) hR.T (by omega)) (cwV 1 F.2.2.2.2 (zgV km_X12_343 ki_X12_push ke_X12_X12_push kn_X12 ko_X12_push) rfl rfl rfl ⟨rfl, hd_yX12_push⟩ ⟨Nat.le_of_ble_eq_true rfl, Nat.le_of_ble_eq_true rfl⟩) rfl (by decide) hS.al rfl rfl (Nat.le_of_ble_eq_true rfl) dX12_step_338 ⟨Nat.le_of_ble_eq_true rfl, Nat.le_of_ble_eq_true rfl⟩ (fun S338 hS => ?_)
          have hR : rR (fPu (fDr (fGo Fr (fa Fr + 1)) 3) (fv Fr (fh Fr - 3)) :: Fs, U) (u1 (u2 v1 1245 (sH Fs + (fh Fr - 3)) (fv Fr (fh Fr - 3))) 1246 0 (nI (sH Fs + (fh Fr - 3) + 1))) := hR.pu
          have hT := (hT.uu (id := 1245) (k := sH Fs + (fh Fr - 3)) (x := (fv Fr (fh Fr - 3))) (Or.inr rfl)).u (id := 1246) (k := 0) (x := nI (sH Fs + (fh Fr - 3) + 1)) (by omega)
          refine r_iconst (v := 0) F dX12_step_341 (by decide) ?_
          refine e_iret F hr hlk ⟨_, hS, ?_⟩ (by decide) (by decide) dX12_step_342
          rw [aSp_17 hw, if_neg (fun h9 => c328 ((lg_cmp_eq _ _).mpr h9))]
          exact stP.go hT hR
      · refine r_table (off := 238) (tgt := 343) F dX12_step_105 ((show ∀ w : Nat, w < 36 → (w = 18) → (if (nI w).toInt < 0 ∨ 34 < (nI w).toInt then some (709 : Int) else (#[155, 164, 182, 709, 709, 709, 709, 709, 709, 709, 709, 709, 709, 709, 709, 709, 709, 200, 238, 250, 304, 250, 304, 388, 388, 395, 487, 512, 524, 533, 551, 557, 590, 650, 671] : Array Int)[((nI w).toInt - 0).toNat]?) = some (238 : Int) from by decide) (kw v (ff Fr) (fa Fr)) hw36 w105) (by decide) ?_
        have hw : kw v (ff Fr) (fa Fr) = 18 := w105
        have hp1 : 1 ≤ fh Fr := hpv _ 1 hw (by decide) (Nat.le_refl 1)
        refine r_aload_n F dX12_step_343 rfl ?_
        refine r_dup F dX12_step_344 rfl ?_
        refine gi_top F G hS dX12_step_345 ?_
        refine r_iconst (v := 1) F dX12_step_348 (by decide) ?_
        refine r_isub F dX12_step_349 ?_
        rw [show v1.1 1246 0 = nI (sH Fs + fh Fr) from hR.T, show nI (sH Fs + fh Fr) - 1 = nI (sH Fs + (fh Fr - 1)) from by rw [nl1, nI_sub (by omega), Nat.add_sub_assoc (by omega)]]
        refine pi_top F G hS dX12_step_350 (fun S hS => ?_)
        have hR := hR.dr (m := 1)
        have hT := hT.u (id := 1246) (k := 0) (x := nI (sH Fs + (fh Fr - 1))) (by omega)
        refine r_iconst (v := 0) F dX12_step_353 (by decide) ?_
        refine e_iret F hr hlk ⟨_, hS, ?_⟩ (by decide) (by decide) dX12_step_354
        rw [aSp_18 hw]
        exact stP.go hT hR
      · refine r_table (off := 250) (tgt := 355) F dX12_step_105 ((show ∀ w : Nat, w < 36 → (w = 19 ∨ w = 21) → (if (nI w).toInt < 0 ∨ 34 < (nI w).toInt then some (709 : Int) else (#[155, 164, 182, 709, 709, 709, 709, 709, 709, 709, 709, 709, 709, 709, 709, 709, 709, 200, 238, 250, 304, 250, 304, 388, 388, 395, 487, 512, 524, 533, 551, 557, 590, 650, 671] : Array Int)[((nI w).toInt - 0).toNat]?) = some (250 : Int) from by decide) (kw v (ff Fr) (fa Fr)) hw36 w105) (by decide) ?_
        have hp1 : 1 ≤ fh Fr := by
          rcases w105 with hw | hw
          · exact hpv _ 1 hw (by decide) (Nat.le_refl 1)
          · exact hpv _ 1 hw (by decide) (Nat.le_refl 1)
        obtain ⟨j9, q1, q2⟩ := hg9.2.1 (by omega)
        obtain ⟨ej, ek⟩ := ka_of q2 (by omega)
        refine r_aload_n F dX12_step_355 rfl ?_
        refine c_Vl (ci := 12) F G (mm_pop hS (t := sH Fs + (fh Fr - 1)) (by rw [show v1.1 1246 0 = nI (sH Fs + fh Fr) from hR.T, show sH Fs + fh Fr = sH Fs + (fh Fr - 1) + 1 from by omega]) (by omega)) (cwV 0 F.2.2.2.2 (zgV km_X12_331 ki_X12_pop ke_X12_X12_pop kn_X12 ko_X12_pop) rfl rfl rfl ⟨rfl, hd_yX12_pop⟩ ⟨Nat.le_of_ble_eq_true rfl, Nat.le_of_ble_eq_true rfl⟩) rfl (by decide) hS.al rfl rfl (Nat.le_of_ble_eq_true rfl) dX12_step_356 ⟨Nat.le_of_ble_eq_true rfl, Nat.le_of_ble_eq_true rfl⟩ (fun r356 S356 h356 => ?_)
        obtain ⟨h356a, hS⟩ := h356
        rw [show v1.2 1245 (sH Fs + (fh Fr - 1)) = fv Fr (fh Fr - 1) from hR.F1.2.2.2.2.2.1 (fh Fr - 1) (show fh Fr - 1 < fh Fr by omega)] at h356a
        subst h356a
        have hR : rR (fDr (fGo Fr (fa Fr + 1)) 1 :: Fs, U) (u1 v1 1246 0 (nI (sH Fs + (fh Fr - 1)))) := hR.dr (m := 1)
        have hT := hT.u (id := 1246) (k := 0) (x := nI (sH Fs + (fh Fr - 1))) (by omega)
        generalize u1 v1 1246 0 (nI (sH Fs + (fh Fr - 1))) = v1 at hS hR hT
        have hLL := hT.L hL
        refine r_lstore F dX12_step_359 (by decide) ?_
        refine r_iload F dX12_step_361 rfl ?_
        refine r_bipush (v := 19) F dX12_step_363 (by decide) ?_
        refine r_icmp_ne (tgt := 373) F dX12_step_365 (by decide) (fun c365 => ?_) (fun c365 => ?_)
        · refine r_iconst (v := 1) F dX12_step_373 (by decide) ?_
          refine r_istore F dX12_step_374 (by decide) ?_
          refine r_aload_n F dX12_step_376 rfl ?_
          refine r_lload F dX12_step_377 rfl ?_
          refine r_iload F dX12_step_379 rfl ?_
          refine r_iload F dX12_step_381 rfl ?_
          have hw : kw v (ff Fr) (fa Fr) = 21 := by
            rcases w105 with hw | hw
            · exact absurd (show nI (kw v (ff Fr) (fa Fr)) = 19 by rw [hw]; rfl) c365
            · exact hw
          rw [ej]
          refine c_Vi (ci := 12) F G (mm_isOut hS (x := (fv Fr (fh Fr - 1))) (a := ka v (ff Fr) (fa Fr)) (n := 1) (by omega) (by omega)) (cwV 3 F.2.2.2.2 (zgV km_X12_347 ki_X12_isOut ke_X12_X12_isOut kn_X12 ko_X12_isOut) rfl rfl rfl ⟨rfl, hd_yX12_isOut⟩ ⟨Nat.le_of_ble_eq_true rfl, Nat.le_of_ble_eq_true rfl⟩) rfl (by decide) hS.al rfl rfl (Nat.le_of_ble_eq_true rfl) dX12_step_383 ⟨Nat.le_of_ble_eq_true rfl, Nat.le_of_ble_eq_true rfl⟩ (fun r383 S383 h383 => ?_)
          obtain ⟨h383a, h383b⟩ := h383
          have h383c := h383b.symm
          subst h383c
          refine r_if_eq (tgt := 391) F dX12_step_386 (by decide) (fun c386 => ?_) (fun c386 => ?_)
          · have ho := out_n (h383a.f c386)
            refine r_aload_n F dX12_step_391 rfl ?_
            refine r_aload_n F dX12_step_392 rfl ?_
            refine r_lload F dX12_step_393 rfl ?_
            refine r_l2i F dX12_step_395 ?_
            refine r_iload F dX12_step_396 rfl ?_
            refine r_iadd F dX12_step_398 ?_
            refine r_iload F dX12_step_399 rfl ?_
            rw [l2i_n ho.1, nI_add]
            refine c_Vl (ci := 12) F G (mm_load hS (a := (fv Fr (fh Fr - 1)).toInt.toNat + ka v (ff Fr) (fa Fr)) (n := 1) (by omega) (by omega)) (cwV 2 F.2.2.2.2 (zgV km_X12_351 ki_X12_load ke_X12_X12_load kn_X12 ko_X12_load) rfl rfl rfl ⟨rfl, hd_yX12_load⟩ ⟨Nat.le_of_ble_eq_true rfl, Nat.le_of_ble_eq_true rfl⟩) rfl (by decide) hS.al rfl rfl (Nat.le_of_ble_eq_true rfl) dX12_step_401 ⟨Nat.le_of_ble_eq_true rfl, Nat.le_of_ble_eq_true rfl⟩ (fun r401 S401 h401 => ?_)
            obtain ⟨h401a, h401b⟩ := h401
            have h401c := h401b.symm
            subst h401c
            rw [ldR_cg hR.2.2.2.2.1 (by omega) 1 (Nat.le_refl _)] at h401a
            subst h401a
            refine c_Vv (ci := 12) F G (mm_push hS (t := sH Fs + (fh Fr - 1)) hR.T (by omega)) (cwV 1 F.2.2.2.2 (zgV km_X12_343 ki_X12_push ke_X12_X12_push kn_X12 ko_X12_push) rfl rfl rfl ⟨rfl, hd_yX12_push⟩ ⟨Nat.le_of_ble_eq_true rfl, Nat.le_of_ble_eq_true rfl⟩) rfl (by decide) hS.al rfl rfl (Nat.le_of_ble_eq_true rfl) dX12_step_404 ⟨Nat.le_of_ble_eq_true rfl, Nat.le_of_ble_eq_true rfl⟩ (fun S404 hS => ?_)
            have hR : rR (fPu (fDr (fGo Fr (fa Fr + 1)) 1) (ldR U.1 ((fv Fr (fh Fr - 1)).toInt.toNat + ka v (ff Fr) (fa Fr)) 1 1) :: Fs, U) (u1 (u2 v1 1245 (sH Fs + (fh Fr - 1)) (ldR U.1 ((fv Fr (fh Fr - 1)).toInt.toNat + ka v (ff Fr) (fa Fr)) 1 1)) 1246 0 (nI (sH Fs + (fh Fr - 1) + 1))) := hR.pu
            have hT := (hT.uu (id := 1245) (k := sH Fs + (fh Fr - 1)) (x := (ldR U.1 ((fv Fr (fh Fr - 1)).toInt.toNat + ka v (ff Fr) (fa Fr)) 1 1)) (Or.inr rfl)).u (id := 1246) (k := 0) (x := nI (sH Fs + (fh Fr - 1) + 1)) (by omega)
            refine r_iconst (v := 0) F dX12_step_407 (by decide) ?_
            refine e_iret F hr hlk ⟨_, hS, ?_⟩ (by decide) (by decide) dX12_step_408
            rw [aSp_21 hw, if_neg (h383a.f c386)]
            exact stP.go hT hR
          · refine r_iconst (v := 3) F dX12_step_389 (by decide) ?_
            refine e_iret F hr hlk ⟨_, hS, ?_⟩ (by decide) (by decide) dX12_step_390
            rw [aSp_21 hw, if_pos (h383a.t c386)]
            exact stP.no (by decide) rfl hT hR
        · refine r_bipush (v := 8) F dX12_step_368 (by decide) ?_
          refine r_goto (tgt := 374) F dX12_step_370 (by decide) ?_
          refine r_istore F dX12_step_374 (by decide) ?_
          refine r_aload_n F dX12_step_376 rfl ?_
          refine r_lload F dX12_step_377 rfl ?_
          refine r_iload F dX12_step_379 rfl ?_
          refine r_iload F dX12_step_381 rfl ?_
          have hw : kw v (ff Fr) (fa Fr) = 19 := by
            have c9 := c365
            rw [nl19, nI_eq (by omega) (by omega)] at c9
            exact c9
          rw [ej]
          refine c_Vi (ci := 12) F G (mm_isOut hS (x := (fv Fr (fh Fr - 1))) (a := ka v (ff Fr) (fa Fr)) (n := 8) (by omega) (by omega)) (cwV 3 F.2.2.2.2 (zgV km_X12_347 ki_X12_isOut ke_X12_X12_isOut kn_X12 ko_X12_isOut) rfl rfl rfl ⟨rfl, hd_yX12_isOut⟩ ⟨Nat.le_of_ble_eq_true rfl, Nat.le_of_ble_eq_true rfl⟩) rfl (by decide) hS.al rfl rfl (Nat.le_of_ble_eq_true rfl) dX12_step_383 ⟨Nat.le_of_ble_eq_true rfl, Nat.le_of_ble_eq_true rfl⟩ (fun r383 S383 h383 => ?_)
          obtain ⟨h383a, h383b⟩ := h383
          have h383c := h383b.symm
          subst h383c
          refine r_if_eq (tgt := 391) F dX12_step_386 (by decide) (fun c386 => ?_) (fun c386 => ?_)
          · have ho := out_n (h383a.f c386)
            refine r_aload_n F dX12_step_391 rfl ?_
            refine r_aload_n F dX12_step_392 rfl ?_
            refine r_lload F dX12_step_393 rfl ?_
            refine r_l2i F dX12_step_395 ?_
            refine r_iload F dX12_step_396 rfl ?_
            refine r_iadd F dX12_step_398 ?_
            refine r_iload F dX12_step_399 rfl ?_
            rw [l2i_n ho.1, nI_add]
            refine c_Vl (ci := 12) F G (mm_load hS (a := (fv Fr (fh Fr - 1)).toInt.toNat + ka v (ff Fr) (fa Fr)) (n := 8) (by omega) (by omega)) (cwV 2 F.2.2.2.2 (zgV km_X12_351 ki_X12_load ke_X12_X12_load kn_X12 ko_X12_load) rfl rfl rfl ⟨rfl, hd_yX12_load⟩ ⟨Nat.le_of_ble_eq_true rfl, Nat.le_of_ble_eq_true rfl⟩) rfl (by decide) hS.al rfl rfl (Nat.le_of_ble_eq_true rfl) dX12_step_401 ⟨Nat.le_of_ble_eq_true rfl, Nat.le_of_ble_eq_true rfl⟩ (fun r401 S401 h401 => ?_)
            obtain ⟨h401a, h401b⟩ := h401
            have h401c := h401b.symm
            subst h401c
            rw [ldR_cg hR.2.2.2.2.1 (by omega) 8 (Nat.le_refl _)] at h401a
            subst h401a
            refine c_Vv (ci := 12) F G (mm_push hS (t := sH Fs + (fh Fr - 1)) hR.T (by omega)) (cwV 1 F.2.2.2.2 (zgV km_X12_343 ki_X12_push ke_X12_X12_push kn_X12 ko_X12_push) rfl rfl rfl ⟨rfl, hd_yX12_push⟩ ⟨Nat.le_of_ble_eq_true rfl, Nat.le_of_ble_eq_true rfl⟩) rfl (by decide) hS.al rfl rfl (Nat.le_of_ble_eq_true rfl) dX12_step_404 ⟨Nat.le_of_ble_eq_true rfl, Nat.le_of_ble_eq_true rfl⟩ (fun S404 hS => ?_)
            have hR : rR (fPu (fDr (fGo Fr (fa Fr + 1)) 1) (ldR U.1 ((fv Fr (fh Fr - 1)).toInt.toNat + ka v (ff Fr) (fa Fr)) 8 8) :: Fs, U) (u1 (u2 v1 1245 (sH Fs + (fh Fr - 1)) (ldR U.1 ((fv Fr (fh Fr - 1)).toInt.toNat + ka v (ff Fr) (fa Fr)) 8 8)) 1246 0 (nI (sH Fs + (fh Fr - 1) + 1))) := hR.pu
            have hT := (hT.uu (id := 1245) (k := sH Fs + (fh Fr - 1)) (x := (ldR U.1 ((fv Fr (fh Fr - 1)).toInt.toNat + ka v (ff Fr) (fa Fr)) 8 8)) (Or.inr rfl)).u (id := 1246) (k := 0) (x := nI (sH Fs + (fh Fr - 1) + 1)) (by omega)
            refine r_iconst (v := 0) F dX12_step_407 (by decide) ?_
            refine e_iret F hr hlk ⟨_, hS, ?_⟩ (by decide) (by decide) dX12_step_408
            rw [aSp_19 hw, if_neg (h383a.f c386)]
            exact stP.go hT hR
          · refine r_iconst (v := 3) F dX12_step_389 (by decide) ?_
            refine e_iret F hr hlk ⟨_, hS, ?_⟩ (by decide) (by decide) dX12_step_390
            rw [aSp_19 hw, if_pos (h383a.t c386)]
            exact stP.no (by decide) rfl hT hR
      · refine r_table (off := 304) (tgt := 409) F dX12_step_105 ((show ∀ w : Nat, w < 36 → (w = 20 ∨ w = 22) → (if (nI w).toInt < 0 ∨ 34 < (nI w).toInt then some (709 : Int) else (#[155, 164, 182, 709, 709, 709, 709, 709, 709, 709, 709, 709, 709, 709, 709, 709, 709, 200, 238, 250, 304, 250, 304, 388, 388, 395, 487, 512, 524, 533, 551, 557, 590, 650, 671] : Array Int)[((nI w).toInt - 0).toNat]?) = some (304 : Int) from by decide) (kw v (ff Fr) (fa Fr)) hw36 w105) (by decide) ?_
        have hp2 : 2 ≤ fh Fr := by
          rcases w105 with hw | hw
          · exact hpv _ 2 hw (by decide) (Nat.le_refl 2)
          · exact hpv _ 2 hw (by decide) (Nat.le_refl 2)
        obtain ⟨j9, q1, q2⟩ := hg9.2.1 (by omega)
        obtain ⟨ej, ek⟩ := ka_of q2 (by omega)
        refine r_aload_n F dX12_step_409 rfl ?_
        refine c_Vl (ci := 12) F G (mm_pop hS (t := sH Fs + (fh Fr - 1)) (by rw [show v1.1 1246 0 = nI (sH Fs + fh Fr) from hR.T, show sH Fs + fh Fr = sH Fs + (fh Fr - 1) + 1 from by omega]) (by omega)) (cwV 0 F.2.2.2.2 (zgV km_X12_331 ki_X12_pop ke_X12_X12_pop kn_X12 ko_X12_pop) rfl rfl rfl ⟨rfl, hd_yX12_pop⟩ ⟨Nat.le_of_ble_eq_true rfl, Nat.le_of_ble_eq_true rfl⟩) rfl (by decide) hS.al rfl rfl (Nat.le_of_ble_eq_true rfl) dX12_step_410 ⟨Nat.le_of_ble_eq_true rfl, Nat.le_of_ble_eq_true rfl⟩ (fun r410 S410 h410 => ?_)
        obtain ⟨h410a, hS⟩ := h410
        rw [show v1.2 1245 (sH Fs + (fh Fr - 1)) = fv Fr (fh Fr - 1) from hR.F1.2.2.2.2.2.1 (fh Fr - 1) (show fh Fr - 1 < fh Fr by omega)] at h410a
        subst h410a
        have hR : rR (fDr (fGo Fr (fa Fr + 1)) 1 :: Fs, U) (u1 v1 1246 0 (nI (sH Fs + (fh Fr - 1)))) := hR.dr (m := 1)
        have hT := hT.u (id := 1246) (k := 0) (x := nI (sH Fs + (fh Fr - 1))) (by omega)
        generalize u1 v1 1246 0 (nI (sH Fs + (fh Fr - 1))) = v1 at hS hR hT
        have hLL := hT.L hL
        refine r_lstore F dX12_step_413 (by decide) ?_
        refine r_aload_n F dX12_step_415 rfl ?_
        refine c_Vl (ci := 12) F G (mm_pop hS (t := sH Fs + (fh Fr - 2)) (by rw [show v1.1 1246 0 = nI (sH Fs + (fh Fr - 1)) from hR.T, show sH Fs + (fh Fr - 1) = sH Fs + (fh Fr - 2) + 1 from by omega]) (by omega)) (cwV 0 F.2.2.2.2 (zgV km_X12_331 ki_X12_pop ke_X12_X12_pop kn_X12 ko_X12_pop) rfl rfl rfl ⟨rfl, hd_yX12_pop⟩ ⟨Nat.le_of_ble_eq_true rfl, Nat.le_of_ble_eq_true rfl⟩) rfl (by decide) hS.al rfl rfl (Nat.le_of_ble_eq_true rfl) dX12_step_416 ⟨Nat.le_of_ble_eq_true rfl, Nat.le_of_ble_eq_true rfl⟩ (fun r416 S416 h416 => ?_)
        obtain ⟨h416a, hS⟩ := h416
        rw [show v1.2 1245 (sH Fs + (fh Fr - 2)) = fv Fr (fh Fr - 2) from hR.F1.2.2.2.2.2.1 (fh Fr - 2) (show fh Fr - 2 < (fh Fr - 1) by omega)] at h416a
        subst h416a
        have hR : rR (fDr (fGo Fr (fa Fr + 1)) 2 :: Fs, U) (u1 v1 1246 0 (nI (sH Fs + (fh Fr - 2)))) := hR.dr (m := 1)
        have hT := hT.u (id := 1246) (k := 0) (x := nI (sH Fs + (fh Fr - 2))) (by omega)
        generalize u1 v1 1246 0 (nI (sH Fs + (fh Fr - 2))) = v1 at hS hR hT
        have hLL := hT.L hL
        refine r_lstore F dX12_step_419 (by decide) ?_
        refine r_iload F dX12_step_421 rfl ?_
        refine r_bipush (v := 20) F dX12_step_423 (by decide) ?_
        refine r_icmp_ne (tgt := 433) F dX12_step_425 (by decide) (fun c425 => ?_) (fun c425 => ?_)
        · refine r_iconst (v := 1) F dX12_step_433 (by decide) ?_
          refine r_istore F dX12_step_434 (by decide) ?_
          refine r_aload_n F dX12_step_436 rfl ?_
          refine r_lload F dX12_step_437 rfl ?_
          refine r_iload F dX12_step_439 rfl ?_
          refine r_iload F dX12_step_441 rfl ?_
          have hw : kw v (ff Fr) (fa Fr) = 22 := by
            rcases w105 with hw | hw
            · exact absurd (show nI (kw v (ff Fr) (fa Fr)) = 20 by rw [hw]; rfl) c425
            · exact hw
          rw [ej]
          refine c_Vi (ci := 12) F G (mm_isOut hS (x := (fv Fr (fh Fr - 2))) (a := ka v (ff Fr) (fa Fr)) (n := 1) (by omega) (by omega)) (cwV 3 F.2.2.2.2 (zgV km_X12_347 ki_X12_isOut ke_X12_X12_isOut kn_X12 ko_X12_isOut) rfl rfl rfl ⟨rfl, hd_yX12_isOut⟩ ⟨Nat.le_of_ble_eq_true rfl, Nat.le_of_ble_eq_true rfl⟩) rfl (by decide) hS.al rfl rfl (Nat.le_of_ble_eq_true rfl) dX12_step_443 ⟨Nat.le_of_ble_eq_true rfl, Nat.le_of_ble_eq_true rfl⟩ (fun r443 S443 h443 => ?_)
          obtain ⟨h443a, h443b⟩ := h443
          have h443c := h443b.symm
          subst h443c
          refine r_if_eq (tgt := 451) F dX12_step_446 (by decide) (fun c446 => ?_) (fun c446 => ?_)
          · refine r_iconst (v := 0) F dX12_step_451 (by decide) ?_
            refine r_istore F dX12_step_452 (by decide) ?_
            have ho := out_n (h443a.f c446)
            refine zsub (lv' := [(17, .int (nI 0)), (14, .int (nI 1)), (12, .long (fv Fr (fh Fr - 2))), (15, .long (fv Fr (fh Fr - 1))), (5, .int (nI (ka v (ff Fr) (fa Fr)))), (0, .ref g)]) (by simp [zs1, zs2, lv_args, Value.category, show ((1 : Fin 4) : Nat) = 1 from rfl, show ((2 : Fin 4) : Nat) = 2 from rfl, show ((3 : Fin 4) : Nat) = 3 from rfl, show nI 0 = (0 : Int32) from rfl, show nI 8 = (8 : Int32) from rfl, show nI 1 = (1 : Int32) from rfl]) ?_
            refine z_loop (fun n9 S9 lv => ∃ (j : Nat) (v3 : zV), j + n9 = 1 ∧ zmR S0 g qa v3 S9 ∧ (∀ id k, id ≠ 1228 → v3.1 id k = v1.1 id k) ∧ v3.2 = v1.2 ∧ (∀ k, k < 1024 → v3.1 1228 k = pB U.1 ((fv Fr (fh Fr - 2)).toInt.toNat + ka v (ff Fr) (fa Fr)) (fv Fr (fh Fr - 1)) j k) ∧ lv = [(17, .int (nI j)), (14, .int (nI 1)), (12, .long (fv Fr (fh Fr - 2))), (15, .long (fv Fr (fh Fr - 1))), (5, .int (nI (ka v (ff Fr) (fa Fr)))), (0, .ref g)]) 1 ?_ ⟨0, v1, Nat.zero_add _, hS, fun _ _ _ => rfl, rfl, fun k hk9 => hR.2.2.2.2.1 k hk9, rfl⟩
            clear hS
            rintro n9 S lv ⟨j, v3, hjn, hS, g1, g2, g3, rfl⟩ ih
            refine r_iload F dX12_step_454 rfl ?_
            refine r_iload F dX12_step_456 rfl ?_
            refine r_icmp_ge (tgt := 491) F dX12_step_458 (by decide) (fun c458 => ?_) (fun c458 => ?_)
            · have hj : j = 1 := by have c9 := c458; rw [nI_leI (by omega) (by omega)] at c9; omega
              subst hj
              refine r_iconst (v := 0) F dX12_step_491 (by decide) ?_
              refine e_iret F hr hlk ⟨_, hS, ?_⟩ (by decide) (by decide) dX12_step_492
              rw [aSp_22 hw, if_neg (h443a.f c446)]
              exact stP.go ⟨fun id k hk9 => (g1 id k (by omega)).trans (hT.1 id k hk9), fun id k hk9 => by rw [g2]; exact hT.2 id k hk9⟩ (hR.mem g1 g2 g3)
            · have hj : j < 1 := by have c9 := c458; rw [nI_leI (by omega) (by omega)] at c9; omega
              refine r_aload_n F dX12_step_461 rfl ?_
              refine gq_memory F G hS dX12_step_462 ?_
              refine r_lload F dX12_step_465 rfl ?_
              refine r_l2i F dX12_step_467 ?_
              refine r_iload F dX12_step_468 rfl ?_
              refine r_iadd F dX12_step_470 ?_
              refine r_iload F dX12_step_471 rfl ?_
              refine r_iadd F dX12_step_473 ?_
              refine r_lload F dX12_step_474 rfl ?_
              refine r_bipush (v := 8) F dX12_step_476 (by decide) ?_
              refine r_iload F dX12_step_478 rfl ?_
              refine r_imul F dX12_step_480 ?_
              refine r_lshr F dX12_step_481 ?_
              refine r_l2i F dX12_step_482 ?_
              refine r_i2b F dX12_step_483 ?_
              rw [l2i_n ho.1, nI_add, nI_add]
              refine as_memory F G hS (((fv Fr (fh Fr - 2)).toInt.toNat + ka v (ff Fr) (fa Fr)) + j) rfl (by omega) dX12_step_484 (fun S hS => ?_)
              rw [bz_k _ (by omega)] at hS
              refine r_iinc F dX12_step_485 rfl (by decide) ?_
              refine r_goto (tgt := 454) F dX12_step_488 (by decide) ?_
              refine zsub (lv' := [(17, .int (nI (j + 1))), (14, .int (nI 1)), (12, .long (fv Fr (fh Fr - 2))), (15, .long (fv Fr (fh Fr - 1))), (5, .int (nI (ka v (ff Fr) (fa Fr)))), (0, .ref g)]) (by rw [show nI (j + 1) = nI j + Int32.ofInt 1 from (nI_add j 1).symm]; simp [zs1, zs2, lv_args, Value.category, show ((1 : Fin 4) : Nat) = 1 from rfl, show ((2 : Fin 4) : Nat) = 2 from rfl, show ((3 : Fin 4) : Nat) = 3 from rfl, show nI 0 = (0 : Int32) from rfl, show nI 8 = (8 : Int32) from rfl, show nI 1 = (1 : Int32) from rfl]) ?_
              refine ih (n9 - 1) _ _ (by omega) ⟨j + 1, _, by omega, hS, fun id k h9 => (u1_n (Or.inl h9)).trans (g1 id k h9), g2, fun k hk9 => ?_, rfl⟩
              show _ = upd (pB U.1 ((fv Fr (fh Fr - 2)).toInt.toNat + ka v (ff Fr) (fa Fr)) (fv Fr (fh Fr - 1)) j) (((fv Fr (fh Fr - 2)).toInt.toNat + ka v (ff Fr) (fa Fr)) + j) (pby (fv Fr (fh Fr - 1)) j) k
              by_cases e : k = ((fv Fr (fh Fr - 2)).toInt.toNat + ka v (ff Fr) (fa Fr)) + j
              · rw [e, u1_s]
                exact (if_pos rfl).symm
              · rw [u1_n (Or.inr e)]
                exact (g3 k hk9).trans (if_neg e).symm
          · refine r_iconst (v := 3) F dX12_step_449 (by decide) ?_
            refine e_iret F hr hlk ⟨_, hS, ?_⟩ (by decide) (by decide) dX12_step_450
            rw [aSp_22 hw, if_pos (h443a.t c446)]
            exact stP.no (by decide) rfl hT hR
        · refine r_bipush (v := 8) F dX12_step_428 (by decide) ?_
          refine r_goto (tgt := 434) F dX12_step_430 (by decide) ?_
          refine r_istore F dX12_step_434 (by decide) ?_
          refine r_aload_n F dX12_step_436 rfl ?_
          refine r_lload F dX12_step_437 rfl ?_
          refine r_iload F dX12_step_439 rfl ?_
          refine r_iload F dX12_step_441 rfl ?_
          have hw : kw v (ff Fr) (fa Fr) = 20 := by
            have c9 := c425
            rw [nl20, nI_eq (by omega) (by omega)] at c9
            exact c9
          rw [ej]
          refine c_Vi (ci := 12) F G (mm_isOut hS (x := (fv Fr (fh Fr - 2))) (a := ka v (ff Fr) (fa Fr)) (n := 8) (by omega) (by omega)) (cwV 3 F.2.2.2.2 (zgV km_X12_347 ki_X12_isOut ke_X12_X12_isOut kn_X12 ko_X12_isOut) rfl rfl rfl ⟨rfl, hd_yX12_isOut⟩ ⟨Nat.le_of_ble_eq_true rfl, Nat.le_of_ble_eq_true rfl⟩) rfl (by decide) hS.al rfl rfl (Nat.le_of_ble_eq_true rfl) dX12_step_443 ⟨Nat.le_of_ble_eq_true rfl, Nat.le_of_ble_eq_true rfl⟩ (fun r443 S443 h443 => ?_)
          obtain ⟨h443a, h443b⟩ := h443
          have h443c := h443b.symm
          subst h443c
          refine r_if_eq (tgt := 451) F dX12_step_446 (by decide) (fun c446 => ?_) (fun c446 => ?_)
          · refine r_iconst (v := 0) F dX12_step_451 (by decide) ?_
            refine r_istore F dX12_step_452 (by decide) ?_
            have ho := out_n (h443a.f c446)
            refine zsub (lv' := [(17, .int (nI 0)), (14, .int (nI 8)), (12, .long (fv Fr (fh Fr - 2))), (15, .long (fv Fr (fh Fr - 1))), (5, .int (nI (ka v (ff Fr) (fa Fr)))), (0, .ref g)]) (by simp [zs1, zs2, lv_args, Value.category, show ((1 : Fin 4) : Nat) = 1 from rfl, show ((2 : Fin 4) : Nat) = 2 from rfl, show ((3 : Fin 4) : Nat) = 3 from rfl, show nI 0 = (0 : Int32) from rfl, show nI 8 = (8 : Int32) from rfl, show nI 1 = (1 : Int32) from rfl]) ?_
            refine z_loop (fun n9 S9 lv => ∃ (j : Nat) (v3 : zV), j + n9 = 8 ∧ zmR S0 g qa v3 S9 ∧ (∀ id k, id ≠ 1228 → v3.1 id k = v1.1 id k) ∧ v3.2 = v1.2 ∧ (∀ k, k < 1024 → v3.1 1228 k = pB U.1 ((fv Fr (fh Fr - 2)).toInt.toNat + ka v (ff Fr) (fa Fr)) (fv Fr (fh Fr - 1)) j k) ∧ lv = [(17, .int (nI j)), (14, .int (nI 8)), (12, .long (fv Fr (fh Fr - 2))), (15, .long (fv Fr (fh Fr - 1))), (5, .int (nI (ka v (ff Fr) (fa Fr)))), (0, .ref g)]) 8 ?_ ⟨0, v1, Nat.zero_add _, hS, fun _ _ _ => rfl, rfl, fun k hk9 => hR.2.2.2.2.1 k hk9, rfl⟩
            clear hS
            rintro n9 S lv ⟨j, v3, hjn, hS, g1, g2, g3, rfl⟩ ih
            refine r_iload F dX12_step_454 rfl ?_
            refine r_iload F dX12_step_456 rfl ?_
            refine r_icmp_ge (tgt := 491) F dX12_step_458 (by decide) (fun c458 => ?_) (fun c458 => ?_)
            · have hj : j = 8 := by have c9 := c458; rw [nI_leI (by omega) (by omega)] at c9; omega
              subst hj
              refine r_iconst (v := 0) F dX12_step_491 (by decide) ?_
              refine e_iret F hr hlk ⟨_, hS, ?_⟩ (by decide) (by decide) dX12_step_492
              rw [aSp_20 hw, if_neg (h443a.f c446)]
              exact stP.go ⟨fun id k hk9 => (g1 id k (by omega)).trans (hT.1 id k hk9), fun id k hk9 => by rw [g2]; exact hT.2 id k hk9⟩ (hR.mem g1 g2 g3)
            · have hj : j < 8 := by have c9 := c458; rw [nI_leI (by omega) (by omega)] at c9; omega
              refine r_aload_n F dX12_step_461 rfl ?_
              refine gq_memory F G hS dX12_step_462 ?_
              refine r_lload F dX12_step_465 rfl ?_
              refine r_l2i F dX12_step_467 ?_
              refine r_iload F dX12_step_468 rfl ?_
              refine r_iadd F dX12_step_470 ?_
              refine r_iload F dX12_step_471 rfl ?_
              refine r_iadd F dX12_step_473 ?_
              refine r_lload F dX12_step_474 rfl ?_
              refine r_bipush (v := 8) F dX12_step_476 (by decide) ?_
              refine r_iload F dX12_step_478 rfl ?_
              refine r_imul F dX12_step_480 ?_
              refine r_lshr F dX12_step_481 ?_
              refine r_l2i F dX12_step_482 ?_
              refine r_i2b F dX12_step_483 ?_
              rw [l2i_n ho.1, nI_add, nI_add]
              refine as_memory F G hS (((fv Fr (fh Fr - 2)).toInt.toNat + ka v (ff Fr) (fa Fr)) + j) rfl (by omega) dX12_step_484 (fun S hS => ?_)
              rw [bz_k _ (by omega)] at hS
              refine r_iinc F dX12_step_485 rfl (by decide) ?_
              refine r_goto (tgt := 454) F dX12_step_488 (by decide) ?_
              refine zsub (lv' := [(17, .int (nI (j + 1))), (14, .int (nI 8)), (12, .long (fv Fr (fh Fr - 2))), (15, .long (fv Fr (fh Fr - 1))), (5, .int (nI (ka v (ff Fr) (fa Fr)))), (0, .ref g)]) (by rw [show nI (j + 1) = nI j + Int32.ofInt 1 from (nI_add j 1).symm]; simp [zs1, zs2, lv_args, Value.category, show ((1 : Fin 4) : Nat) = 1 from rfl, show ((2 : Fin 4) : Nat) = 2 from rfl, show ((3 : Fin 4) : Nat) = 3 from rfl, show nI 0 = (0 : Int32) from rfl, show nI 8 = (8 : Int32) from rfl, show nI 1 = (1 : Int32) from rfl]) ?_
              refine ih (n9 - 1) _ _ (by omega) ⟨j + 1, _, by omega, hS, fun id k h9 => (u1_n (Or.inl h9)).trans (g1 id k h9), g2, fun k hk9 => ?_, rfl⟩
              show _ = upd (pB U.1 ((fv Fr (fh Fr - 2)).toInt.toNat + ka v (ff Fr) (fa Fr)) (fv Fr (fh Fr - 1)) j) (((fv Fr (fh Fr - 2)).toInt.toNat + ka v (ff Fr) (fa Fr)) + j) (pby (fv Fr (fh Fr - 1)) j) k
              by_cases e : k = ((fv Fr (fh Fr - 2)).toInt.toNat + ka v (ff Fr) (fa Fr)) + j
              · rw [e, u1_s]
                exact (if_pos rfl).symm
              · rw [u1_n (Or.inr e)]
                exact (g3 k hk9).trans (if_neg e).symm
          · refine r_iconst (v := 3) F dX12_step_449 (by decide) ?_
            refine e_iret F hr hlk ⟨_, hS, ?_⟩ (by decide) (by decide) dX12_step_450
            rw [aSp_20 hw, if_pos (h443a.t c446)]
            exact stP.no (by decide) rfl hT hR
      · refine r_table (off := 388) (tgt := 493) F dX12_step_105 ((show ∀ w : Nat, w < 36 → ((23 ≤ w ∧ w ≤ 24)) → (if (nI w).toInt < 0 ∨ 34 < (nI w).toInt then some (709 : Int) else (#[155, 164, 182, 709, 709, 709, 709, 709, 709, 709, 709, 709, 709, 709, 709, 709, 709, 200, 238, 250, 304, 250, 304, 388, 388, 395, 487, 512, 524, 533, 551, 557, 590, 650, 671] : Array Int)[((nI w).toInt - 0).toNat]?) = some (388 : Int) from by decide) (kw v (ff Fr) (fa Fr)) hw36 w105) (by decide) ?_
        refine r_aload_n F dX12_step_493 rfl ?_
        refine r_iload_n F dX12_step_494 rfl ?_
        refine c_Vv (ci := 12) F G (mm_openBlock hS (n := sK Fs + fn Fr) hR.K (by omega)) (cwV 1 F.2.2.2.2 (zgV km_X12_355 ki_X12_openBlock ke_X12_X12_openBlock kn_X12 ko_X12_openBlock) rfl rfl rfl ⟨rfl, hd_yX12_openBlock⟩ ⟨Nat.le_of_ble_eq_true rfl, Nat.le_of_ble_eq_true rfl⟩) rfl (by decide) hS.al rfl rfl (Nat.le_of_ble_eq_true rfl) dX12_step_495 ⟨Nat.le_of_ble_eq_true rfl, Nat.le_of_ble_eq_true rfl⟩ (fun S495 hS => ?_)
        have hR := hR.op (p := fa Fr)
        have hT := ((hT.u (id := 1247) (k := sK Fs + fn Fr) (x := nI (fa Fr)) (by omega)).u (id := 1248) (k := sK Fs + fn Fr) (x := v1.1 1246 0) (by omega)).u (id := 1249) (k := 0) (x := nI (sK Fs + fn Fr + 1)) (by omega)
        refine r_iconst (v := 0) F dX12_step_498 (by decide) ?_
        refine e_iret F hr hlk ⟨_, hS, ?_⟩ (by decide) (by decide) dX12_step_499
        rcases (show kw v (ff Fr) (fa Fr) = 23 ∨ kw v (ff Fr) (fa Fr) = 24 by omega) with hw | hw
        · rw [aSp_23 hw]
          exact stP.go hT hR
        · rw [aSp_24 hw]
          exact stP.go hT hR
      · refine r_table (off := 395) (tgt := 500) F dX12_step_105 ((show ∀ w : Nat, w < 36 → (w = 25) → (if (nI w).toInt < 0 ∨ 34 < (nI w).toInt then some (709 : Int) else (#[155, 164, 182, 709, 709, 709, 709, 709, 709, 709, 709, 709, 709, 709, 709, 709, 709, 200, 238, 250, 304, 250, 304, 388, 388, 395, 487, 512, 524, 533, 551, 557, 590, 650, 671] : Array Int)[((nI w).toInt - 0).toNat]?) = some (395 : Int) from by decide) (kw v (ff Fr) (fa Fr)) hw36 w105) (by decide) ?_
        have hw : kw v (ff Fr) (fa Fr) = 25 := w105
        have hp1 : 1 ≤ fh Fr := hpv _ 1 hw (by decide) (Nat.le_refl 1)
        have hCl := clE_c hc hk (by omega)
        have hbx : bhT v (ff Fr) (fa Fr) 1 (clT v (ff Fr) (fa Fr)) := bhT.x hc hCl
        have hbl := hbx.2.1
        refine r_aload_n F dX12_step_500 rfl ?_
        refine c_Vl (ci := 12) F G (mm_pop hS (t := sH Fs + (fh Fr - 1)) (by rw [show v1.1 1246 0 = nI (sH Fs + fh Fr) from hR.T, show sH Fs + fh Fr = sH Fs + (fh Fr - 1) + 1 from by omega]) (by omega)) (cwV 0 F.2.2.2.2 (zgV km_X12_331 ki_X12_pop ke_X12_X12_pop kn_X12 ko_X12_pop) rfl rfl rfl ⟨rfl, hd_yX12_pop⟩ ⟨Nat.le_of_ble_eq_true rfl, Nat.le_of_ble_eq_true rfl⟩) rfl (by decide) hS.al rfl rfl (Nat.le_of_ble_eq_true rfl) dX12_step_501 ⟨Nat.le_of_ble_eq_true rfl, Nat.le_of_ble_eq_true rfl⟩ (fun r501 S501 h501 => ?_)
        obtain ⟨h501a, hS⟩ := h501
        rw [show v1.2 1245 (sH Fs + (fh Fr - 1)) = fv Fr (fh Fr - 1) from hR.F1.2.2.2.2.2.1 (fh Fr - 1) (show fh Fr - 1 < fh Fr by omega)] at h501a
        subst h501a
        have hR : rR (fDr (fGo Fr (fa Fr + 1)) 1 :: Fs, U) (u1 v1 1246 0 (nI (sH Fs + (fh Fr - 1)))) := hR.dr (m := 1)
        have hT := hT.u (id := 1246) (k := 0) (x := nI (sH Fs + (fh Fr - 1))) (by omega)
        generalize u1 v1 1246 0 (nI (sH Fs + (fh Fr - 1))) = v1 at hS hR hT
        have hLL := hT.L hL
        refine r_lconst (v := 0) F dX12_step_504 (by decide) ?_
        refine r_lcmp F dX12_step_505 ?_
        refine r_if_eq (tgt := 513) F dX12_step_506 (by decide) (fun c506 => ?_) (fun c506 => ?_)
        · refine r_iconst (v := 0) F dX12_step_513 (by decide) ?_
          refine r_istore F dX12_step_514 (by decide) ?_
          refine r_aload_n F dX12_step_516 rfl ?_
          refine r_iload_n F dX12_step_517 rfl ?_
          refine r_iload_n F dX12_step_518 rfl ?_
          refine r_iconst (v := 1) F dX12_step_519 (by decide) ?_
          refine c_Vi (ci := 12) F G (mm_behind hS (f := ff Fr) (p9 := fa Fr) (e9 := clT v (ff Fr) (fa Fr)) (o3 := 1) (hLL.rg hv) hf.1 (hLL.ecOK hc) (hLL.ebhT hbx)) (cwV 3 F.2.2.2.2 (zgV km_X12_323 ki_X12_behind ke_X12_X12_behind kn_X12 ko_X12_behind) rfl rfl rfl ⟨rfl, hd_yX12_behind⟩ ⟨Nat.le_of_ble_eq_true rfl, Nat.le_of_ble_eq_true rfl⟩) rfl (by decide) hS.al rfl rfl (Nat.le_of_ble_eq_true rfl) dX12_step_520 ⟨Nat.le_of_ble_eq_true rfl, Nat.le_of_ble_eq_true rfl⟩ (fun r520 S520 h520 => ?_)
          obtain ⟨h520a, h520b⟩ := h520
          have h520c := h520b.symm
          subst h520c
          subst h520a
          refine r_istore F dX12_step_523 (by decide) ?_
          refine r_iload F dX12_step_525 rfl ?_
          refine r_aload_n F dX12_step_527 rfl ?_
          refine gq_words F G hS dX12_step_528 ?_
          refine r_iload_n F dX12_step_531 rfl ?_
          refine al_words F G hS (ff Fr) rfl (by omega) dX12_step_532 ?_
          rw [show v1.1 1208 (ff Fr) = nI (cn v 1208 (ff Fr)) from (hLL _ _ (by omega)).trans (rg_1208 hv hf.1).1]
          refine r_icmp_ge (tgt := 557) F dX12_step_533 (by decide) (fun h9 => absurd h9 (by rw [nI_leI (by omega) (by omega)]; omega)) (fun _ => ?_)
          refine r_aload_n F dX12_step_536 rfl ?_
          refine gq_word F G hS dX12_step_537 ?_
          refine r_bipush (v := 60) F dX12_step_540 (by decide) ?_
          refine r_iload_n F dX12_step_542 rfl ?_
          refine r_imul F dX12_step_543 ?_
          refine r_iload F dX12_step_544 rfl ?_
          refine r_iadd F dX12_step_546 ?_
          refine al_word F G hS (60 * ff Fr + clT v (ff Fr) (fa Fr)) (by simp only [nl0, nl1, nl2, nl3, nl4, nl5, nl6, nl7, nl8, nl9, nl10, nl16, nl60, nl64, nI_mul, nI_add]) (by omega) dX12_step_547 ?_
          rw [show v1.1 1209 (60 * ff Fr + clT v (ff Fr) (fa Fr)) = nI (kw v (ff Fr) (clT v (ff Fr) (fa Fr))) from (hLL _ _ (by omega)).trans (rg_1209 hv (k := 60 * ff Fr + clT v (ff Fr) (fa Fr)) (by omega)).1]
          refine r_bipush (v := 26) F dX12_step_548 (by decide) ?_
          refine r_icmp_ne (tgt := 557) F dX12_step_550 (by decide) (fun c550 => ?_) (fun c550 => ?_)
          · refine r_iconst (v := 0) F dX12_step_557 (by decide) ?_
            have hx : clX v (ff Fr) (fa Fr) = none := by
              cases hx : clX v (ff Fr) (fa Fr) with
              | none => rfl
              | some x =>
                have hx2 := hx
                have hox := (hCl.2.2.2.2.2.2.2.2.2.2.2.2.2 x hx2).2.2.1
                exact absurd (show nI (kw v (ff Fr) (clT v (ff Fr) (fa Fr))) = 26 from by unfold clT; rw [hx]; show nI (kw v (ff Fr) x) = 26; rw [hox]; rfl) c550
            have ht : clT v (ff Fr) (fa Fr) = clE v (ff Fr) (fa Fr) := by unfold clT; rw [hx]
            refine r_istore F dX12_step_558 (by decide) ?_
            refine r_iload F dX12_step_560 rfl ?_
            refine r_if_ne (tgt := 570) F dX12_step_562 (by decide) (fun h9 => absurd rfl h9) (fun _ => ?_)
            refine r_iload F dX12_step_565 rfl ?_
            refine r_if_eq (tgt := 575) F dX12_step_567 (by decide) (fun _ => ?_) (fun h9 => absurd rfl h9)
            refine r_iload F dX12_step_575 rfl ?_
            refine r_if_ne (tgt := 590) F dX12_step_577 (by decide) (fun h9 => absurd rfl h9) (fun _ => ?_)
            refine r_aload_n F dX12_step_580 rfl ?_
            refine gq_frameAt F G hS dX12_step_581 ?_
            refine r_iload_n F dX12_step_584 rfl ?_
            refine r_iload F dX12_step_585 rfl ?_
            refine r_iconst (v := 1) F dX12_step_587 (by decide) ?_
            refine r_iadd F dX12_step_588 ?_
            rw [show nI (clT v (ff Fr) (fa Fr)) + 1 = nI (clT v (ff Fr) (fa Fr) + 1) from nI_add _ 1]
            refine as_frameAt F G hS (Fs.length) rfl (by omega) dX12_step_589 (fun S hS => ?_)
            have hR := hR.go (k := clT v (ff Fr) (fa Fr) + 1)
            have hT := hT.u (id := 1241) (k := Fs.length) (x := nI (clT v (ff Fr) (fa Fr) + 1)) (by omega)
            refine r_iconst (v := 0) F dX12_step_590 (by decide) ?_
            refine e_iret F hr hlk ⟨_, hS, ?_⟩ (by decide) (by decide) dX12_step_591
            rw [aSp_25 hw, if_pos ((lg_cmp_eq _ _).mp c506), hx]
            rw [ht] at hR hT ⊢
            exact stP.go hT hR
          · refine r_iconst (v := 1) F dX12_step_553 (by decide) ?_
            refine r_goto (tgt := 558) F dX12_step_554 (by decide) ?_
            obtain ⟨x, hx, ht⟩ : ∃ x, clX v (ff Fr) (fa Fr) = some x ∧ clT v (ff Fr) (fa Fr) = x := by
              cases hx : clX v (ff Fr) (fa Fr) with
              | some x => exact ⟨x, rfl, by unfold clT; rw [hx]⟩
              | none =>
                have c9 := c550
                rw [nl26, nI_eq (by have := rg_1209 hv (k := 60 * ff Fr + clT v (ff Fr) (fa Fr)) (by omega); have h9 : kw v (ff Fr) (clT v (ff Fr) (fa Fr)) ≤ 35 := this.2; omega) (by omega)] at c9
                rw [show clT v (ff Fr) (fa Fr) = clE v (ff Fr) (fa Fr) from by unfold clT; rw [hx], hCl.2.2.1] at c9
                exact absurd c9 (by decide)
            refine r_istore F dX12_step_558 (by decide) ?_
            refine r_iload F dX12_step_560 rfl ?_
            refine r_if_ne (tgt := 570) F dX12_step_562 (by decide) (fun h9 => absurd rfl h9) (fun _ => ?_)
            refine r_iload F dX12_step_565 rfl ?_
            refine r_if_eq (tgt := 575) F dX12_step_567 (by decide) (fun h9 => absurd h9 (by decide)) (fun _ => ?_)
            refine r_aload_n F dX12_step_570 rfl ?_
            refine r_iload_n F dX12_step_571 rfl ?_
            refine c_Vv (ci := 12) F G (mm_openBlock hS (n := sK Fs + fn Fr) hR.K (by omega)) (cwV 1 F.2.2.2.2 (zgV km_X12_355 ki_X12_openBlock ke_X12_X12_openBlock kn_X12 ko_X12_openBlock) rfl rfl rfl ⟨rfl, hd_yX12_openBlock⟩ ⟨Nat.le_of_ble_eq_true rfl, Nat.le_of_ble_eq_true rfl⟩) rfl (by decide) hS.al rfl rfl (Nat.le_of_ble_eq_true rfl) dX12_step_572 ⟨Nat.le_of_ble_eq_true rfl, Nat.le_of_ble_eq_true rfl⟩ (fun S572 hS => ?_)
            have hR := hR.op (p := fa Fr)
            have hT := ((hT.u (id := 1247) (k := sK Fs + fn Fr) (x := nI (fa Fr)) (by omega)).u (id := 1248) (k := sK Fs + fn Fr) (x := v1.1 1246 0) (by omega)).u (id := 1249) (k := 0) (x := nI (sK Fs + fn Fr + 1)) (by omega)
            refine r_iload F dX12_step_575 rfl ?_
            refine r_if_ne (tgt := 590) F dX12_step_577 (by decide) (fun h9 => absurd rfl h9) (fun _ => ?_)
            refine r_aload_n F dX12_step_580 rfl ?_
            refine gq_frameAt F G hS dX12_step_581 ?_
            refine r_iload_n F dX12_step_584 rfl ?_
            refine r_iload F dX12_step_585 rfl ?_
            refine r_iconst (v := 1) F dX12_step_587 (by decide) ?_
            refine r_iadd F dX12_step_588 ?_
            rw [show nI (clT v (ff Fr) (fa Fr)) + 1 = nI (clT v (ff Fr) (fa Fr) + 1) from nI_add _ 1]
            refine as_frameAt F G hS (Fs.length) rfl (by omega) dX12_step_589 (fun S hS => ?_)
            have hR := hR.go (k := clT v (ff Fr) (fa Fr) + 1)
            have hT := hT.u (id := 1241) (k := Fs.length) (x := nI (clT v (ff Fr) (fa Fr) + 1)) (by omega)
            refine r_iconst (v := 0) F dX12_step_590 (by decide) ?_
            refine e_iret F hr hlk ⟨_, hS, ?_⟩ (by decide) (by decide) dX12_step_591
            rw [aSp_25 hw, if_pos ((lg_cmp_eq _ _).mp c506), hx]
            rw [ht] at hR hT ⊢
            exact stP.go hT hR
        · refine r_iconst (v := 1) F dX12_step_509 (by decide) ?_
          refine r_goto (tgt := 514) F dX12_step_510 (by decide) ?_
          refine r_istore F dX12_step_514 (by decide) ?_
          refine r_aload_n F dX12_step_516 rfl ?_
          refine r_iload_n F dX12_step_517 rfl ?_
          refine r_iload_n F dX12_step_518 rfl ?_
          refine r_iconst (v := 1) F dX12_step_519 (by decide) ?_
          refine c_Vi (ci := 12) F G (mm_behind hS (f := ff Fr) (p9 := fa Fr) (e9 := clT v (ff Fr) (fa Fr)) (o3 := 1) (hLL.rg hv) hf.1 (hLL.ecOK hc) (hLL.ebhT hbx)) (cwV 3 F.2.2.2.2 (zgV km_X12_323 ki_X12_behind ke_X12_X12_behind kn_X12 ko_X12_behind) rfl rfl rfl ⟨rfl, hd_yX12_behind⟩ ⟨Nat.le_of_ble_eq_true rfl, Nat.le_of_ble_eq_true rfl⟩) rfl (by decide) hS.al rfl rfl (Nat.le_of_ble_eq_true rfl) dX12_step_520 ⟨Nat.le_of_ble_eq_true rfl, Nat.le_of_ble_eq_true rfl⟩ (fun r520 S520 h520 => ?_)
          obtain ⟨h520a, h520b⟩ := h520
          have h520c := h520b.symm
          subst h520c
          subst h520a
          refine r_istore F dX12_step_523 (by decide) ?_
          refine r_iload F dX12_step_525 rfl ?_
          refine r_aload_n F dX12_step_527 rfl ?_
          refine gq_words F G hS dX12_step_528 ?_
          refine r_iload_n F dX12_step_531 rfl ?_
          refine al_words F G hS (ff Fr) rfl (by omega) dX12_step_532 ?_
          rw [show v1.1 1208 (ff Fr) = nI (cn v 1208 (ff Fr)) from (hLL _ _ (by omega)).trans (rg_1208 hv hf.1).1]
          refine r_icmp_ge (tgt := 557) F dX12_step_533 (by decide) (fun h9 => absurd h9 (by rw [nI_leI (by omega) (by omega)]; omega)) (fun _ => ?_)
          refine r_aload_n F dX12_step_536 rfl ?_
          refine gq_word F G hS dX12_step_537 ?_
          refine r_bipush (v := 60) F dX12_step_540 (by decide) ?_
          refine r_iload_n F dX12_step_542 rfl ?_
          refine r_imul F dX12_step_543 ?_
          refine r_iload F dX12_step_544 rfl ?_
          refine r_iadd F dX12_step_546 ?_
          refine al_word F G hS (60 * ff Fr + clT v (ff Fr) (fa Fr)) (by simp only [nl0, nl1, nl2, nl3, nl4, nl5, nl6, nl7, nl8, nl9, nl10, nl16, nl60, nl64, nI_mul, nI_add]) (by omega) dX12_step_547 ?_
          rw [show v1.1 1209 (60 * ff Fr + clT v (ff Fr) (fa Fr)) = nI (kw v (ff Fr) (clT v (ff Fr) (fa Fr))) from (hLL _ _ (by omega)).trans (rg_1209 hv (k := 60 * ff Fr + clT v (ff Fr) (fa Fr)) (by omega)).1]
          refine r_bipush (v := 26) F dX12_step_548 (by decide) ?_
          refine r_icmp_ne (tgt := 557) F dX12_step_550 (by decide) (fun c550 => ?_) (fun c550 => ?_)
          · refine r_iconst (v := 0) F dX12_step_557 (by decide) ?_
            have hx : clX v (ff Fr) (fa Fr) = none := by
              cases hx : clX v (ff Fr) (fa Fr) with
              | none => rfl
              | some x =>
                have hx2 := hx
                have hox := (hCl.2.2.2.2.2.2.2.2.2.2.2.2.2 x hx2).2.2.1
                exact absurd (show nI (kw v (ff Fr) (clT v (ff Fr) (fa Fr))) = 26 from by unfold clT; rw [hx]; show nI (kw v (ff Fr) x) = 26; rw [hox]; rfl) c550
            have ht : clT v (ff Fr) (fa Fr) = clE v (ff Fr) (fa Fr) := by unfold clT; rw [hx]
            refine r_istore F dX12_step_558 (by decide) ?_
            refine r_iload F dX12_step_560 rfl ?_
            refine r_if_ne (tgt := 570) F dX12_step_562 (by decide) (fun _ => ?_) (fun h9 => absurd h9 (by decide))
            refine r_aload_n F dX12_step_570 rfl ?_
            refine r_iload_n F dX12_step_571 rfl ?_
            refine c_Vv (ci := 12) F G (mm_openBlock hS (n := sK Fs + fn Fr) hR.K (by omega)) (cwV 1 F.2.2.2.2 (zgV km_X12_355 ki_X12_openBlock ke_X12_X12_openBlock kn_X12 ko_X12_openBlock) rfl rfl rfl ⟨rfl, hd_yX12_openBlock⟩ ⟨Nat.le_of_ble_eq_true rfl, Nat.le_of_ble_eq_true rfl⟩) rfl (by decide) hS.al rfl rfl (Nat.le_of_ble_eq_true rfl) dX12_step_572 ⟨Nat.le_of_ble_eq_true rfl, Nat.le_of_ble_eq_true rfl⟩ (fun S572 hS => ?_)
            have hR := hR.op (p := fa Fr)
            have hT := ((hT.u (id := 1247) (k := sK Fs + fn Fr) (x := nI (fa Fr)) (by omega)).u (id := 1248) (k := sK Fs + fn Fr) (x := v1.1 1246 0) (by omega)).u (id := 1249) (k := 0) (x := nI (sK Fs + fn Fr + 1)) (by omega)
            refine r_iload F dX12_step_575 rfl ?_
            refine r_if_ne (tgt := 590) F dX12_step_577 (by decide) (fun _ => ?_) (fun h9 => absurd h9 (by decide))
            refine r_iconst (v := 0) F dX12_step_590 (by decide) ?_
            refine e_iret F hr hlk ⟨_, hS, ?_⟩ (by decide) (by decide) dX12_step_591
            rw [aSp_25 hw, if_neg (fun h9 => c506 ((lg_cmp_eq _ _).mpr h9))]
            exact stP.go hT hR
          · refine r_iconst (v := 1) F dX12_step_553 (by decide) ?_
            refine r_goto (tgt := 558) F dX12_step_554 (by decide) ?_
            obtain ⟨x, hx, ht⟩ : ∃ x, clX v (ff Fr) (fa Fr) = some x ∧ clT v (ff Fr) (fa Fr) = x := by
              cases hx : clX v (ff Fr) (fa Fr) with
              | some x => exact ⟨x, rfl, by unfold clT; rw [hx]⟩
              | none =>
                have c9 := c550
                rw [nl26, nI_eq (by have := rg_1209 hv (k := 60 * ff Fr + clT v (ff Fr) (fa Fr)) (by omega); have h9 : kw v (ff Fr) (clT v (ff Fr) (fa Fr)) ≤ 35 := this.2; omega) (by omega)] at c9
                rw [show clT v (ff Fr) (fa Fr) = clE v (ff Fr) (fa Fr) from by unfold clT; rw [hx], hCl.2.2.1] at c9
                exact absurd c9 (by decide)
            refine r_istore F dX12_step_558 (by decide) ?_
            refine r_iload F dX12_step_560 rfl ?_
            refine r_if_ne (tgt := 570) F dX12_step_562 (by decide) (fun _ => ?_) (fun h9 => absurd h9 (by decide))
            refine r_aload_n F dX12_step_570 rfl ?_
            refine r_iload_n F dX12_step_571 rfl ?_
            refine c_Vv (ci := 12) F G (mm_openBlock hS (n := sK Fs + fn Fr) hR.K (by omega)) (cwV 1 F.2.2.2.2 (zgV km_X12_355 ki_X12_openBlock ke_X12_X12_openBlock kn_X12 ko_X12_openBlock) rfl rfl rfl ⟨rfl, hd_yX12_openBlock⟩ ⟨Nat.le_of_ble_eq_true rfl, Nat.le_of_ble_eq_true rfl⟩) rfl (by decide) hS.al rfl rfl (Nat.le_of_ble_eq_true rfl) dX12_step_572 ⟨Nat.le_of_ble_eq_true rfl, Nat.le_of_ble_eq_true rfl⟩ (fun S572 hS => ?_)
            have hR := hR.op (p := fa Fr)
            have hT := ((hT.u (id := 1247) (k := sK Fs + fn Fr) (x := nI (fa Fr)) (by omega)).u (id := 1248) (k := sK Fs + fn Fr) (x := v1.1 1246 0) (by omega)).u (id := 1249) (k := 0) (x := nI (sK Fs + fn Fr + 1)) (by omega)
            refine r_iload F dX12_step_575 rfl ?_
            refine r_if_ne (tgt := 590) F dX12_step_577 (by decide) (fun _ => ?_) (fun h9 => absurd h9 (by decide))
            refine r_iconst (v := 0) F dX12_step_590 (by decide) ?_
            refine e_iret F hr hlk ⟨_, hS, ?_⟩ (by decide) (by decide) dX12_step_591
            rw [aSp_25 hw, if_neg (fun h9 => c506 ((lg_cmp_eq _ _).mpr h9))]
            exact stP.go hT hR
      · refine r_table (off := 487) (tgt := 592) F dX12_step_105 ((show ∀ w : Nat, w < 36 → (w = 26) → (if (nI w).toInt < 0 ∨ 34 < (nI w).toInt then some (709 : Int) else (#[155, 164, 182, 709, 709, 709, 709, 709, 709, 709, 709, 709, 709, 709, 709, 709, 709, 200, 238, 250, 304, 250, 304, 388, 388, 395, 487, 512, 524, 533, 551, 557, 590, 650, 671] : Array Int)[((nI w).toInt - 0).toNat]?) = some (487 : Int) from by decide) (kw v (ff Fr) (fa Fr)) hw36 w105) (by decide) ?_
        have hw : kw v (ff Fr) (fa Fr) = 26 := w105
        obtain ⟨b1, b2, b3, _⟩ := hF.el hs hk hw
        refine r_aload_n F dX12_step_592 rfl ?_
        refine gq_frameAt F G hS dX12_step_593 ?_
        refine r_iload_n F dX12_step_596 rfl ?_
        refine r_aload_n F dX12_step_597 rfl ?_
        refine r_iload_n F dX12_step_598 rfl ?_
        refine r_aload_n F dX12_step_599 rfl ?_
        refine gq_runWord F G hS dX12_step_600 ?_
        refine r_aload_n F dX12_step_603 rfl ?_
        refine gi_runBlocks F G hS dX12_step_604 ?_
        refine r_iconst (v := 1) F dX12_step_607 (by decide) ?_
        refine r_isub F dX12_step_608 ?_
        rw [show v1.1 1249 0 = nI (sK Fs + fn Fr) from hR.K, show nI (sK Fs + fn Fr) - 1 = nI (sK Fs + (fn Fr - 1)) from by rw [nl1, nI_sub (by omega), Nat.add_sub_assoc (by omega)]]
        refine al_runWord F G hS (sK Fs + (fn Fr - 1)) rfl (by omega) dX12_step_609 ?_
        rw [(hR.F1.2.2.2.2.2.2 (fn Fr - 1) (show fn Fr - 1 < fn Fr by omega)).1]
        refine r_iconst (v := 0) F dX12_step_610 (by decide) ?_
        refine c_Vi (ci := 12) F G (mm_behind hS (f := ff Fr) (p9 := (fo Fr (fn Fr - 1))) (e9 := clE v (ff Fr) (fo Fr (fn Fr - 1))) (o3 := 0) (hLL.rg hv) hf.1 (hLL.ecOK hc) (hLL.ebhT (bhT.e hc (clE_c hc b2 (by omega))))) (cwV 3 F.2.2.2.2 (zgV km_X12_323 ki_X12_behind ke_X12_X12_behind kn_X12 ko_X12_behind) rfl rfl rfl ⟨rfl, hd_yX12_behind⟩ ⟨Nat.le_of_ble_eq_true rfl, Nat.le_of_ble_eq_true rfl⟩) rfl (by decide) hS.al rfl rfl (Nat.le_of_ble_eq_true rfl) dX12_step_611 ⟨Nat.le_of_ble_eq_true rfl, Nat.le_of_ble_eq_true rfl⟩ (fun r611 S611 h611 => ?_)
        obtain ⟨h611a, h611b⟩ := h611
        have h611c := h611b.symm
        subst h611c
        subst h611a
        refine as_frameAt F G hS (Fs.length) rfl (by omega) dX12_step_614 (fun S hS => ?_)
        have hR := hR.go (k := clE v (ff Fr) (fo Fr (fn Fr - 1)))
        have hT := hT.u (id := 1241) (k := Fs.length) (x := nI (clE v (ff Fr) (fo Fr (fn Fr - 1)))) (by omega)
        refine r_iconst (v := 0) F dX12_step_615 (by decide) ?_
        refine e_iret F hr hlk ⟨_, hS, ?_⟩ (by decide) (by decide) dX12_step_616
        rw [aSp_26 hw]
        exact stP.go hT hR
      · refine r_table (off := 512) (tgt := 617) F dX12_step_105 ((show ∀ w : Nat, w < 36 → (w = 27) → (if (nI w).toInt < 0 ∨ 34 < (nI w).toInt then some (709 : Int) else (#[155, 164, 182, 709, 709, 709, 709, 709, 709, 709, 709, 709, 709, 709, 709, 709, 709, 200, 238, 250, 304, 250, 304, 388, 388, 395, 487, 512, 524, 533, 551, 557, 590, 650, 671] : Array Int)[((nI w).toInt - 0).toNat]?) = some (512 : Int) from by decide) (kw v (ff Fr) (fa Fr)) hw36 w105) (by decide) ?_
        have hw : kw v (ff Fr) (fa Fr) = 27 := w105
        have b1 := (hF.en hs hk hw).1
        refine r_aload_n F dX12_step_617 rfl ?_
        refine r_dup F dX12_step_618 rfl ?_
        refine gi_runBlocks F G hS dX12_step_619 ?_
        refine r_iconst (v := 1) F dX12_step_622 (by decide) ?_
        refine r_isub F dX12_step_623 ?_
        rw [show v1.1 1249 0 = nI (sK Fs + fn Fr) from hR.K, show nI (sK Fs + fn Fr) - 1 = nI (sK Fs + (fn Fr - 1)) from by rw [nl1, nI_sub (by omega), Nat.add_sub_assoc (by omega)]]
        refine pi_runBlocks F G hS dX12_step_624 (fun S hS => ?_)
        have hR := hR.cu (m := fn Fr - 1) (show fn Fr - 1 ≤ fn Fr by omega)
        have hT := hT.u (id := 1249) (k := 0) (x := nI (sK Fs + (fn Fr - 1))) (by omega)
        refine r_iconst (v := 0) F dX12_step_627 (by decide) ?_
        refine e_iret F hr hlk ⟨_, hS, ?_⟩ (by decide) (by decide) dX12_step_628
        rw [aSp_27 hw]
        exact stP.go hT hR
      · refine r_table (off := 524) (tgt := 629) F dX12_step_105 ((show ∀ w : Nat, w < 36 → (w = 28) → (if (nI w).toInt < 0 ∨ 34 < (nI w).toInt then some (709 : Int) else (#[155, 164, 182, 709, 709, 709, 709, 709, 709, 709, 709, 709, 709, 709, 709, 709, 709, 200, 238, 250, 304, 250, 304, 388, 388, 395, 487, 512, 524, 533, 551, 557, 590, 650, 671] : Array Int)[((nI w).toInt - 0).toNat]?) = some (524 : Int) from by decide) (kw v (ff Fr) (fa Fr)) hw36 w105) (by decide) ?_
        have hw : kw v (ff Fr) (fa Fr) = 28 := w105
        obtain ⟨j9, q1, q2⟩ := hg9.2.2.2.1 (Or.inl hw)
        obtain ⟨ej, ek⟩ := ka_of q2 (by omega)
        refine r_aload_n F dX12_step_629 rfl ?_
        refine r_iload_n F dX12_step_630 rfl ?_
        refine r_iload F dX12_step_631 rfl ?_
        rw [ej]
        obtain ⟨d0, d1, d2, d3, d4⟩ := hF.br (G := (fGo Fr (fa Fr + 1))) hs hk (Or.inl ⟨hw, rfl⟩) rfl rfl rfl rfl rfl rfl
        refine c_Vv (ci := 12) F G (mm_branch hS (Fr := (fGo Fr (fa Fr + 1))) hL hT hR hv hf hlen (show sH Fs + (fh Fr - 0) ≤ 2400 by omega) (show sK Fs + fn Fr ≤ 2400 by omega) hc d1 d2 (fun h9 => ⟨Nat.lt_trans (d3 h9).1 hk, (d3 h9).2⟩) (fun p p1 p2 => by obtain ⟨j8, z1, z2⟩ := (hs.g hf p1).2.2.1 p2; exact (ka_of z2 (by omega)).1)) (cwV 2 F.2.2.2.2 (zgV km_X12_358 ki_X12_branch ke_X12_X12_branch kn_X12 ko_X12_branch) rfl rfl rfl ⟨rfl, hd_yX12_branch⟩ ⟨Nat.le_of_ble_eq_true rfl, Nat.le_of_ble_eq_true rfl⟩) rfl (by decide) hS.al rfl rfl (Nat.le_of_ble_eq_true rfl) dX12_step_633 ⟨Nat.le_of_ble_eq_true rfl, Nat.le_of_ble_eq_true rfl⟩ (fun S633 h633 => ?_)
        obtain ⟨v2, hS, hT, hq⟩ := h633
        refine r_iconst (v := 0) F dX12_step_636 (by decide) ?_
        refine e_iret F hr hlk ⟨_, hS, ?_⟩ (by decide) (by decide) dX12_step_637
        rw [aSp_28 hw]
        exact ⟨hT, rfl, fun _ => hq, fun h9 => absurd rfl h9⟩
      · refine r_table (off := 533) (tgt := 638) F dX12_step_105 ((show ∀ w : Nat, w < 36 → (w = 29) → (if (nI w).toInt < 0 ∨ 34 < (nI w).toInt then some (709 : Int) else (#[155, 164, 182, 709, 709, 709, 709, 709, 709, 709, 709, 709, 709, 709, 709, 709, 709, 200, 238, 250, 304, 250, 304, 388, 388, 395, 487, 512, 524, 533, 551, 557, 590, 650, 671] : Array Int)[((nI w).toInt - 0).toNat]?) = some (533 : Int) from by decide) (kw v (ff Fr) (fa Fr)) hw36 w105) (by decide) ?_
        have hw : kw v (ff Fr) (fa Fr) = 29 := w105
        obtain ⟨j9, q1, q2⟩ := hg9.2.2.2.1 (Or.inr hw)
        obtain ⟨ej, ek⟩ := ka_of q2 (by omega)
        have hp1 : 1 ≤ fh Fr := hpv _ 1 hw (by decide) (Nat.le_refl 1)
        refine r_aload_n F dX12_step_638 rfl ?_
        refine c_Vl (ci := 12) F G (mm_pop hS (t := sH Fs + (fh Fr - 1)) (by rw [show v1.1 1246 0 = nI (sH Fs + fh Fr) from hR.T, show sH Fs + fh Fr = sH Fs + (fh Fr - 1) + 1 from by omega]) (by omega)) (cwV 0 F.2.2.2.2 (zgV km_X12_331 ki_X12_pop ke_X12_X12_pop kn_X12 ko_X12_pop) rfl rfl rfl ⟨rfl, hd_yX12_pop⟩ ⟨Nat.le_of_ble_eq_true rfl, Nat.le_of_ble_eq_true rfl⟩) rfl (by decide) hS.al rfl rfl (Nat.le_of_ble_eq_true rfl) dX12_step_639 ⟨Nat.le_of_ble_eq_true rfl, Nat.le_of_ble_eq_true rfl⟩ (fun r639 S639 h639 => ?_)
        obtain ⟨h639a, hS⟩ := h639
        rw [show v1.2 1245 (sH Fs + (fh Fr - 1)) = fv Fr (fh Fr - 1) from hR.F1.2.2.2.2.2.1 (fh Fr - 1) (show fh Fr - 1 < fh Fr by omega)] at h639a
        subst h639a
        have hR : rR (fDr (fGo Fr (fa Fr + 1)) 1 :: Fs, U) (u1 v1 1246 0 (nI (sH Fs + (fh Fr - 1)))) := hR.dr (m := 1)
        have hT := hT.u (id := 1246) (k := 0) (x := nI (sH Fs + (fh Fr - 1))) (by omega)
        generalize u1 v1 1246 0 (nI (sH Fs + (fh Fr - 1))) = v1 at hS hR hT
        have hLL := hT.L hL
        refine r_lconst (v := 0) F dX12_step_642 (by decide) ?_
        refine r_lcmp F dX12_step_643 ?_
        refine r_if_eq (tgt := 654) F dX12_step_644 (by decide) (fun c644 => ?_) (fun c644 => ?_)
        · refine r_iconst (v := 0) F dX12_step_654 (by decide) ?_
          refine e_iret F hr hlk ⟨_, hS, ?_⟩ (by decide) (by decide) dX12_step_655
          rw [aSp_29 hw, if_pos ((lg_cmp_eq _ _).mp c644)]
          exact stP.go hT hR
        · refine r_aload_n F dX12_step_647 rfl ?_
          refine r_iload_n F dX12_step_648 rfl ?_
          refine r_iload F dX12_step_649 rfl ?_
          rw [ej]
          obtain ⟨d0, d1, d2, d3, d4⟩ := hF.br (G := (fDr (fGo Fr (fa Fr + 1)) 1)) hs hk (Or.inr ⟨hw, rfl⟩) rfl rfl rfl rfl rfl rfl
          refine c_Vv (ci := 12) F G (mm_branch hS (Fr := (fDr (fGo Fr (fa Fr + 1)) 1)) hL hT hR hv hf hlen (show sH Fs + (fh Fr - 1) ≤ 2400 by omega) (show sK Fs + fn Fr ≤ 2400 by omega) hc d1 d2 (fun h9 => ⟨Nat.lt_trans (d3 h9).1 hk, (d3 h9).2⟩) (fun p p1 p2 => by obtain ⟨j8, z1, z2⟩ := (hs.g hf p1).2.2.1 p2; exact (ka_of z2 (by omega)).1)) (cwV 2 F.2.2.2.2 (zgV km_X12_358 ki_X12_branch ke_X12_X12_branch kn_X12 ko_X12_branch) rfl rfl rfl ⟨rfl, hd_yX12_branch⟩ ⟨Nat.le_of_ble_eq_true rfl, Nat.le_of_ble_eq_true rfl⟩) rfl (by decide) hS.al rfl rfl (Nat.le_of_ble_eq_true rfl) dX12_step_651 ⟨Nat.le_of_ble_eq_true rfl, Nat.le_of_ble_eq_true rfl⟩ (fun S651 h651 => ?_)
          obtain ⟨v2, hS, hT, hq⟩ := h651
          refine r_iconst (v := 0) F dX12_step_654 (by decide) ?_
          refine e_iret F hr hlk ⟨_, hS, ?_⟩ (by decide) (by decide) dX12_step_655
          rw [aSp_29 hw, if_neg (fun h9 => c644 ((lg_cmp_eq _ _).mpr h9))]
          exact ⟨hT, rfl, fun _ => hq, fun h9 => absurd rfl h9⟩
      · refine r_table (off := 551) (tgt := 656) F dX12_step_105 ((show ∀ w : Nat, w < 36 → (w = 30) → (if (nI w).toInt < 0 ∨ 34 < (nI w).toInt then some (709 : Int) else (#[155, 164, 182, 709, 709, 709, 709, 709, 709, 709, 709, 709, 709, 709, 709, 709, 709, 200, 238, 250, 304, 250, 304, 388, 388, 395, 487, 512, 524, 533, 551, 557, 590, 650, 671] : Array Int)[((nI w).toInt - 0).toNat]?) = some (551 : Int) from by decide) (kw v (ff Fr) (fa Fr)) hw36 w105) (by decide) ?_
        have hw : kw v (ff Fr) (fa Fr) = 30 := w105
        have hcr := (hF.rt hs hk hw).1
        refine r_aload_n F dX12_step_656 rfl ?_
        have e06 : v1.1 1206 (ff Fr) = nI (cn v 1206 (ff Fr)) := ((hT.L hL) _ _ (by omega)).trans (rg_1206 hv hf.1).1
        have r106 := (rg_1206 hv hf.1).2
        refine c_Vv (ci := 12) F G (mm_leave hS (n := Fs.length) (b := sH Fs) (t := sH Fs + (fh Fr)) (r9 := cn v 1206 (ff Fr)) (rb := sK Fs) (f := ff Fr) hR.N (by omega) hR.F1.2.2.1 (by omega) hR.F1.1 hf.1 e06 r106 hR.T (by omega) (by omega) hR.F1.2.2.2.1) (cwV 0 F.2.2.2.2 (zgV km_X12_320 ki_X12_leave ke_X12_X12_leave kn_X12 ko_X12_leave) rfl rfl rfl ⟨rfl, hd_yX12_leave⟩ ⟨Nat.le_of_ble_eq_true rfl, Nat.le_of_ble_eq_true rfl⟩) rfl (by decide) hS.al rfl rfl (Nat.le_of_ble_eq_true rfl) dX12_step_657 ⟨Nat.le_of_ble_eq_true rfl, Nat.le_of_ble_eq_true rfl⟩ (fun S657 hS => ?_)
        have hLv := hR.lv (v := v) r106 rfl hcr
        have hT := (((hT.u (id := 1239) (k := 0) (x := nI Fs.length) (by omega)).kp (b := sH Fs) (t := sH Fs + (fh Fr)) (m := cn v 1206 (ff Fr))).u (id := 1249) (k := 0) (x := nI (sK Fs)) (by omega))
        refine r_iconst (v := 0) F dX12_step_660 (by decide) ?_
        refine e_iret F hr hlk ⟨_, hS, ?_⟩ (by decide) (by decide) dX12_step_661
        rw [aSp_30 hw]
        exact ⟨hT, rfl, fun _ => Or.inr ⟨_, Fs, U, rfl, Nat.le_refl _, (by rw [aLv_go]; exact hLv.1), fun h9 => (by rw [aLv_go]; exact hLv.2 h9)⟩, fun h9 => absurd rfl h9⟩
      · refine r_table (off := 557) (tgt := 662) F dX12_step_105 ((show ∀ w : Nat, w < 36 → (w = 31) → (if (nI w).toInt < 0 ∨ 34 < (nI w).toInt then some (709 : Int) else (#[155, 164, 182, 709, 709, 709, 709, 709, 709, 709, 709, 709, 709, 709, 709, 709, 709, 200, 238, 250, 304, 250, 304, 388, 388, 395, 487, 512, 524, 533, 551, 557, 590, 650, 671] : Array Int)[((nI w).toInt - 0).toNat]?) = some (557 : Int) from by decide) (kw v (ff Fr) (fa Fr)) hw36 w105) (by decide) ?_
        have hw : kw v (ff Fr) (fa Fr) = 31 := w105
        obtain ⟨j9, q1, q2, q3⟩ := hg9.2.2.2.2.1 (Or.inl hw)
        have hj16 := (rg_1204 hv (k := ff Fr / 8) (by omega)).2
        obtain ⟨ej, ek⟩ := ka_of q2 (by omega)
        have hy : (16 * (ff Fr / 8) + ka v (ff Fr) (fa Fr)) < 96 := by omega
        have ht9 : (16 * (ff Fr / 8) + ka v (ff Fr) (fa Fr)) % 16 < cn v 1204 ((16 * (ff Fr / 8) + ka v (ff Fr) (fa Fr)) / 16) := by rw [show (16 * (ff Fr / 8) + ka v (ff Fr) (fa Fr)) / 16 = ff Fr / 8 by omega]; omega
        refine r_aload_n F dX12_step_662 rfl ?_
        refine r_bipush (v := 16) F dX12_step_663 (by decide) ?_
        refine r_iload_n F dX12_step_665 rfl ?_
        refine r_bipush (v := 8) F dX12_step_666 (by decide) ?_
        refine r_idiv F dX12_step_668 (by decide) ?_
        refine r_imul F dX12_step_669 ?_
        refine r_iload F dX12_step_670 rfl ?_
        refine r_iadd F dX12_step_672 ?_
        rw [ej, show (16 : Int32) * (nI (ff Fr) / 8) + nI (ka v (ff Fr) (fa Fr)) = nI (16 * (ff Fr / 8) + ka v (ff Fr) (fa Fr)) from by rw [nl8, nl16, nI_div (by omega) (by omega), nI_mul, nI_add]]
        refine c_Vi (ci := 12) F G (mm_functionOf hS (y := (16 * (ff Fr / 8) + ka v (ff Fr) (fa Fr))) (hLL.rg hv) (hLL.A hA) (hLL.D hs.2.1) hy (by rw [hLL.c (by omega)]; exact ht9)) (cwV 1 F.2.2.2.2 (zgV km_X12_189 ki_X12_functionOf ke_X12_X12_functionOf kn_X12 ko_X12_functionOf) rfl rfl rfl ⟨rfl, hd_yX12_functionOf⟩ ⟨Nat.le_of_ble_eq_true rfl, Nat.le_of_ble_eq_true rfl⟩) rfl (by decide) hS.al rfl rfl (Nat.le_of_ble_eq_true rfl) dX12_step_673 ⟨Nat.le_of_ble_eq_true rfl, Nat.le_of_ble_eq_true rfl⟩ (fun r673 S673 h673 => ?_)
        obtain ⟨h673a, h673b⟩ := h673
        have h673c := h673b.symm
        subst h673c
        rw [hLL.efO] at h673a
        subst h673a
        have hfl : ∀ z, fO v (16 * (ff Fr / 8) + ka v (ff Fr) (fa Fr)) = some z → z < 2 ^ 31 := fun z hz => by have := fO_lt hv hs.2.1 hy ht9 hz; omega
        refine r_istore F dX12_step_676 (by decide) ?_
        refine r_iload F dX12_step_678 rfl ?_
        refine r_if_ge (tgt := 688) F dX12_step_680 (by decide) (fun c680 => ?_) (fun c680 => ?_)
        · obtain ⟨gg, hgg⟩ : ∃ z, fO v (16 * (ff Fr / 8) + ka v (ff Fr) (fa Fr)) = some z := by
            cases h8 : fO v (16 * (ff Fr / 8) + ka v (ff Fr) (fa Fr)) with
            | some z => exact ⟨z, rfl⟩
            | none => rw [h8] at c680; exact absurd c680 (by decide)
          obtain ⟨hgg1, hgg2⟩ := ((hs.2.2.1 _ hf.1 hf.2).2 _ hk).2 hw gg hgg
          have hpr := call_31 hs hw hgg2 hgg1
          have hpg : cn v 1205 gg ≤ fh Fr := by have h9 := hF.pv hs hk (by omega); rw [hpr.1] at h9; omega
          rw [show enc (fO v (16 * (ff Fr / 8) + ka v (ff Fr) (fa Fr))) = nI gg from by rw [hgg]; rfl]
          refine r_aload_n F dX12_step_688 rfl ?_
          refine r_iload F dX12_step_689 rfl ?_
          refine c_Vi (ci := 12) F G (mm_called hS (Fr := (fGo Fr (fa Fr + 1))) hL hT hR hv hf hlen (show sH Fs + fh Fr ≤ 2400 by omega) (show sK Fs + fn Fr ≤ 2400 by omega) (f2 := gg) hgg1.1 hpg hU) (cwV 1 F.2.2.2.2 (zgV km_X12_361 ki_X12_called ke_X12_X12_called kn_X12 ko_X12_called) rfl rfl rfl ⟨rfl, hd_yX12_called⟩ ⟨Nat.le_of_ble_eq_true rfl, Nat.le_of_ble_eq_true rfl⟩) rfl (by decide) hS.al rfl rfl (Nat.le_of_ble_eq_true rfl) dX12_step_691 ⟨Nat.le_of_ble_eq_true rfl, Nat.le_of_ble_eq_true rfl⟩ (fun r691 S691 h691 => ?_)
          obtain ⟨v2, hS, hq⟩ := h691
          refine e_iret F hr hlk ⟨_, hS, ?_⟩ (by decide) (by decide) dX12_step_694
          rw [aSp_31 hw, hgg]
          exact hq
        · refine r_bipush (v := 7) F dX12_step_683 (by decide) ?_
          refine r_goto (tgt := 694) F dX12_step_685 (by decide) ?_
          refine e_iret F hr hlk ⟨_, hS, ?_⟩ (by decide) (by decide) dX12_step_694
          rw [aSp_31 hw, (enc_lt hfl).mp (Int32.not_le.mp c680)]
          exact stP.no (by decide) rfl hT hR
      · refine r_table (off := 590) (tgt := 695) F dX12_step_105 ((show ∀ w : Nat, w < 36 → (w = 32) → (if (nI w).toInt < 0 ∨ 34 < (nI w).toInt then some (709 : Int) else (#[155, 164, 182, 709, 709, 709, 709, 709, 709, 709, 709, 709, 709, 709, 709, 709, 709, 200, 238, 250, 304, 250, 304, 388, 388, 395, 487, 512, 524, 533, 551, 557, 590, 650, 671] : Array Int)[((nI w).toInt - 0).toNat]?) = some (590 : Int) from by decide) (kw v (ff Fr) (fa Fr)) hw36 w105) (by decide) ?_
        have hw : kw v (ff Fr) (fa Fr) = 32 := w105
        obtain ⟨j9, q1, q2⟩ := hg9.2.2.2.2.2.1 hw
        obtain ⟨ej, ek⟩ := ka_of q2 (by omega)
        have hp1 : 1 ≤ fh Fr := hpv _ 1 hw (by decide) (Nat.le_add_right 1 _)
        have hnS : Ss.length ≤ 48 := nD_len 48 Ss hs.2.2.2.1
        refine r_aload_n F dX12_step_695 rfl ?_
        refine c_Vl (ci := 12) F G (mm_pop hS (t := sH Fs + (fh Fr - 1)) (by rw [show v1.1 1246 0 = nI (sH Fs + fh Fr) from hR.T, show sH Fs + fh Fr = sH Fs + (fh Fr - 1) + 1 from by omega]) (by omega)) (cwV 0 F.2.2.2.2 (zgV km_X12_331 ki_X12_pop ke_X12_X12_pop kn_X12 ko_X12_pop) rfl rfl rfl ⟨rfl, hd_yX12_pop⟩ ⟨Nat.le_of_ble_eq_true rfl, Nat.le_of_ble_eq_true rfl⟩) rfl (by decide) hS.al rfl rfl (Nat.le_of_ble_eq_true rfl) dX12_step_696 ⟨Nat.le_of_ble_eq_true rfl, Nat.le_of_ble_eq_true rfl⟩ (fun r696 S696 h696 => ?_)
        obtain ⟨h696a, hS⟩ := h696
        rw [show v1.2 1245 (sH Fs + (fh Fr - 1)) = fv Fr (fh Fr - 1) from hR.F1.2.2.2.2.2.1 (fh Fr - 1) (show fh Fr - 1 < fh Fr by omega)] at h696a
        subst h696a
        have hR : rR (fDr (fGo Fr (fa Fr + 1)) 1 :: Fs, U) (u1 v1 1246 0 (nI (sH Fs + (fh Fr - 1)))) := hR.dr (m := 1)
        have hT := hT.u (id := 1246) (k := 0) (x := nI (sH Fs + (fh Fr - 1))) (by omega)
        generalize u1 v1 1246 0 (nI (sH Fs + (fh Fr - 1))) = v1 at hS hR hT
        have hLL := hT.L hL
        refine r_lstore F dX12_step_699 (by decide) ?_
        refine r_lload F dX12_step_701 rfl ?_
        refine r_lconst (v := 1) F dX12_step_703 (by decide) ?_
        refine r_lcmp F dX12_step_704 ?_
        refine r_if_lt (tgt := 719) F dX12_step_705 (by decide) (fun c705 => ?_) (fun c705 => ?_)
        · refine r_iconst (v := 4) F dX12_step_719 (by decide) ?_
          refine e_iret F hr hlk ⟨_, hS, ?_⟩ (by decide) (by decide) dX12_step_720
          rw [aSp_32 hw, if_pos (Or.inl ((lg_cmp_lt _ _).mp c705))]
          exact stP.no (by decide) rfl hT hR
        · refine r_lload F dX12_step_708 rfl ?_
          refine r_aload_n F dX12_step_710 rfl ?_
          refine gi_slots F G hS dX12_step_711 ?_
          rw [show v1.1 1225 0 = nI Ss.length from (hT.Q hQ).1]
          refine r_i2l F dX12_step_714 ?_
          refine r_lcmp F dX12_step_715 ?_
          refine r_if_le (tgt := 721) F dX12_step_716 (by decide) (fun c716 => ?_) (fun c716 => ?_)
          · have hno : ¬ ((fv Fr (fh Fr - 1)) < 1 ∨ (Ss.length : Int) < (fv Fr (fh Fr - 1)).toInt) := fun h9 => by
              rcases h9 with h9 | h9
              · exact c705 ((lg_cmp_lt _ _).mpr h9)
              · have c9 := c716
                rw [lg_cmp_le, Int64.le_iff_toInt_le, i2l_n (by omega)] at c9
                omega
            obtain ⟨s1, s2, hgg1⟩ := slot_in hs hno
            have hx0 : ¬ (fv Fr (fh Fr - 1)) < 0 := fun h9 => by
              rw [Int64.lt_iff_toInt_lt] at h9
              have h8 : (fv Fr (fh Fr - 1)).toInt < 0 := h9
              omega
            have esl : v1.1 1224 ((fv Fr (fh Fr - 1)).toInt.toNat - 1) = nI (Ss.getD ((fv Fr (fh Fr - 1)).toInt.toNat - 1) 0) := (hT.Q hQ).2 _ (by omega)
            refine r_aload_n F dX12_step_721 rfl ?_
            refine gq_slot F G hS dX12_step_722 ?_
            refine r_lload F dX12_step_725 rfl ?_
            refine r_l2i F dX12_step_727 ?_
            refine r_iconst (v := 1) F dX12_step_728 (by decide) ?_
            refine r_isub F dX12_step_729 ?_
            rw [l2i_n hx0, show nI (fv Fr (fh Fr - 1)).toInt.toNat - 1 = nI ((fv Fr (fh Fr - 1)).toInt.toNat - 1) from by rw [nl1, nI_sub (by omega)]]
            refine al_slot F G hS ((fv Fr (fh Fr - 1)).toInt.toNat - 1) rfl (by omega) dX12_step_730 ?_
            rw [esl]
            generalize hgd : Ss.getD ((fv Fr (fh Fr - 1)).toInt.toNat - 1) 0 = gg at hgg1
            refine r_istore F dX12_step_731 (by decide) ?_
            refine r_aload_n F dX12_step_733 rfl ?_
            refine r_iload F dX12_step_734 rfl ?_
            refine c_Vi (ci := 12) F G (mm_shape hS (f := gg) (hLL.rg hv) hgg1.1) (cwV 1 F.2.2.2.2 (zgV km_X12_156 ki_X12_shape ke_X12_X12_shape kn_X12 ko_X12_shape) rfl rfl rfl ⟨rfl, hd_yX12_shape⟩ ⟨Nat.le_of_ble_eq_true rfl, Nat.le_of_ble_eq_true rfl⟩) rfl (by decide) hS.al rfl rfl (Nat.le_of_ble_eq_true rfl) dX12_step_736 ⟨Nat.le_of_ble_eq_true rfl, Nat.le_of_ble_eq_true rfl⟩ (fun r736 S736 h736 => ?_)
            obtain ⟨h736a, h736b⟩ := h736
            have h736c := h736b.symm
            subst h736c
            rw [hLL.esh] at h736a
            subst h736a
            have hsh9 : sh v gg ≤ 9 := by have r5 := (rg_1205 hv hgg1.1).2; have r6 := (rg_1206 hv hgg1.1).2; unfold sh; omega
            refine r_iload F dX12_step_739 rfl ?_
            rw [ej]
            refine r_icmp_eq (tgt := 748) F dX12_step_741 (by decide) (fun c741 => ?_) (fun c741 => ?_)
            · have hsa : sh v gg = ka v (ff Fr) (fa Fr) := by have c9 := c741; rw [nI_eq (by omega) (by omega)] at c9; exact c9
              have hpr := call_32 hs hw hsa hgg1
              have hpg : cn v 1205 gg ≤ fh Fr - 1 := by have h9 := hF.pv hs hk (by omega); rw [hpr.1] at h9; omega
              refine r_aload_n F dX12_step_748 rfl ?_
              refine r_iload F dX12_step_749 rfl ?_
              refine c_Vi (ci := 12) F G (mm_called hS (Fr := (fDr (fGo Fr (fa Fr + 1)) 1)) hL hT hR hv hf hlen (show sH Fs + (fh Fr - 1) ≤ 2400 by omega) (show sK Fs + fn Fr ≤ 2400 by omega) (f2 := gg) hgg1.1 hpg hU) (cwV 1 F.2.2.2.2 (zgV km_X12_361 ki_X12_called ke_X12_X12_called kn_X12 ko_X12_called) rfl rfl rfl ⟨rfl, hd_yX12_called⟩ ⟨Nat.le_of_ble_eq_true rfl, Nat.le_of_ble_eq_true rfl⟩) rfl (by decide) hS.al rfl rfl (Nat.le_of_ble_eq_true rfl) dX12_step_751 ⟨Nat.le_of_ble_eq_true rfl, Nat.le_of_ble_eq_true rfl⟩ (fun r751 S751 h751 => ?_)
              obtain ⟨v2, hS, hq⟩ := h751
              refine e_iret F hr hlk ⟨_, hS, ?_⟩ (by decide) (by decide) dX12_step_754
              rw [aSp_32 hw, if_neg hno, hgd, if_pos hsa]
              exact hq
            · refine r_iconst (v := 5) F dX12_step_744 (by decide) ?_
              refine r_goto (tgt := 754) F dX12_step_745 (by decide) ?_
              refine e_iret F hr hlk ⟨_, hS, ?_⟩ (by decide) (by decide) dX12_step_754
              rw [aSp_32 hw, if_neg hno, hgd, if_neg (fun h9 => c741 (by rw [h9]))]
              exact stP.no (by decide) rfl hT hR
          · refine r_iconst (v := 4) F dX12_step_719 (by decide) ?_
            refine e_iret F hr hlk ⟨_, hS, ?_⟩ (by decide) (by decide) dX12_step_720
            rw [aSp_32 hw, if_pos (Or.inr (by have c9 := c716; rw [lg_cmp_le, Int64.le_iff_toInt_le, i2l_n (by omega)] at c9; omega))]
            exact stP.no (by decide) rfl hT hR
      · refine r_table (off := 650) (tgt := 755) F dX12_step_105 ((show ∀ w : Nat, w < 36 → (w = 33) → (if (nI w).toInt < 0 ∨ 34 < (nI w).toInt then some (709 : Int) else (#[155, 164, 182, 709, 709, 709, 709, 709, 709, 709, 709, 709, 709, 709, 709, 709, 709, 200, 238, 250, 304, 250, 304, 388, 388, 395, 487, 512, 524, 533, 551, 557, 590, 650, 671] : Array Int)[((nI w).toInt - 0).toNat]?) = some (650 : Int) from by decide) (kw v (ff Fr) (fa Fr)) hw36 w105) (by decide) ?_
        have hw : kw v (ff Fr) (fa Fr) = 33 := w105
        obtain ⟨j9, q1, q2, q3⟩ := hg9.2.2.2.2.2.2 hw
        have hj16 := (rg_1204 hv (k := ff Fr / 8) (by omega)).2
        obtain ⟨ej, ek⟩ := ka_of q2 (by omega)
        have hy : (16 * (ff Fr / 8) + ka v (ff Fr) (fa Fr)) < 96 := by omega
        have ht9 : (16 * (ff Fr / 8) + ka v (ff Fr) (fa Fr)) % 16 < cn v 1204 ((16 * (ff Fr / 8) + ka v (ff Fr) (fa Fr)) / 16) := by rw [show (16 * (ff Fr / 8) + ka v (ff Fr) (fa Fr)) / 16 = ff Fr / 8 by omega]; omega
        refine r_aload_n F dX12_step_755 rfl ?_
        refine r_aload_n F dX12_step_756 rfl ?_
        refine r_bipush (v := 16) F dX12_step_757 (by decide) ?_
        refine r_iload_n F dX12_step_759 rfl ?_
        refine r_bipush (v := 8) F dX12_step_760 (by decide) ?_
        refine r_idiv F dX12_step_762 (by decide) ?_
        refine r_imul F dX12_step_763 ?_
        refine r_iload F dX12_step_764 rfl ?_
        refine r_iadd F dX12_step_766 ?_
        rw [ej, show (16 : Int32) * (nI (ff Fr) / 8) + nI (ka v (ff Fr) (fa Fr)) = nI (16 * (ff Fr / 8) + ka v (ff Fr) (fa Fr)) from by rw [nl8, nl16, nI_div (by omega) (by omega), nI_mul, nI_add]]
        refine c_Vi (ci := 12) F G (mm_addressOf hS (y := (16 * (ff Fr / 8) + ka v (ff Fr) (fa Fr))) (hLL.rg hv) (hLL.A hA) (hLL.D hs.2.1) hy (by rw [hLL.c (by omega)]; exact ht9) (fun z hz => by rw [hLL.emng] at hz; have h9 := hK _ hy ht9 z hz; rw [hLL _ _ (by omega), h9, ek, q3]; decide)) (cwV 1 F.2.2.2.2 (zgV km_X12_297 ki_X12_addressOf ke_X12_X12_addressOf kn_X12 ko_X12_addressOf) rfl rfl rfl ⟨rfl, hd_yX12_addressOf⟩ ⟨Nat.le_of_ble_eq_true rfl, Nat.le_of_ble_eq_true rfl⟩) rfl (by decide) hS.al rfl rfl (Nat.le_of_ble_eq_true rfl) dX12_step_767 ⟨Nat.le_of_ble_eq_true rfl, Nat.le_of_ble_eq_true rfl⟩ (fun r767 S767 h767 => ?_)
        obtain ⟨h767a, h767b⟩ := h767
        have h767c := h767b.symm
        subst h767c
        rw [hLL.eaO] at h767a
        subst h767a
        refine r_i2l F dX12_step_770 ?_
        refine c_Vv (ci := 12) F G (mm_push hS (t := sH Fs + fh Fr) hR.T (by omega)) (cwV 1 F.2.2.2.2 (zgV km_X12_343 ki_X12_push ke_X12_X12_push kn_X12 ko_X12_push) rfl rfl rfl ⟨rfl, hd_yX12_push⟩ ⟨Nat.le_of_ble_eq_true rfl, Nat.le_of_ble_eq_true rfl⟩) rfl (by decide) hS.al rfl rfl (Nat.le_of_ble_eq_true rfl) dX12_step_771 ⟨Nat.le_of_ble_eq_true rfl, Nat.le_of_ble_eq_true rfl⟩ (fun S771 hS => ?_)
        have hR : rR (fPu (fGo Fr (fa Fr + 1)) (nI (aO v (16 * (ff Fr / 8) + ka v (ff Fr) (fa Fr)))).toInt64 :: Fs, U) (u1 (u2 v1 1245 (sH Fs + fh Fr) (nI (aO v (16 * (ff Fr / 8) + ka v (ff Fr) (fa Fr)))).toInt64) 1246 0 (nI (sH Fs + fh Fr + 1))) := hR.pu
        have hT := (hT.uu (id := 1245) (k := sH Fs + fh Fr) (x := (nI (aO v (16 * (ff Fr / 8) + ka v (ff Fr) (fa Fr)))).toInt64) (Or.inr rfl)).u (id := 1246) (k := 0) (x := nI (sH Fs + fh Fr + 1)) (by omega)
        refine r_iconst (v := 0) F dX12_step_774 (by decide) ?_
        refine e_iret F hr hlk ⟨_, hS, ?_⟩ (by decide) (by decide) dX12_step_775
        rw [aSp_33 hw]
        exact stP.go hT hR
      · refine r_table (off := 671) (tgt := 776) F dX12_step_105 ((show ∀ w : Nat, w < 36 → (w = 34) → (if (nI w).toInt < 0 ∨ 34 < (nI w).toInt then some (709 : Int) else (#[155, 164, 182, 709, 709, 709, 709, 709, 709, 709, 709, 709, 709, 709, 709, 709, 709, 200, 238, 250, 304, 250, 304, 388, 388, 395, 487, 512, 524, 533, 551, 557, 590, 650, 671] : Array Int)[((nI w).toInt - 0).toNat]?) = some (671 : Int) from by decide) (kw v (ff Fr) (fa Fr)) hw36 w105) (by decide) ?_
        have hw : kw v (ff Fr) (fa Fr) = 34 := w105
        obtain ⟨j9, q1, q2, q3⟩ := hg9.2.2.2.2.1 (Or.inr hw)
        have hj16 := (rg_1204 hv (k := ff Fr / 8) (by omega)).2
        obtain ⟨ej, ek⟩ := ka_of q2 (by omega)
        have hy : (16 * (ff Fr / 8) + ka v (ff Fr) (fa Fr)) < 96 := by omega
        have ht9 : (16 * (ff Fr / 8) + ka v (ff Fr) (fa Fr)) % 16 < cn v 1204 ((16 * (ff Fr / 8) + ka v (ff Fr) (fa Fr)) / 16) := by rw [show (16 * (ff Fr / 8) + ka v (ff Fr) (fa Fr)) / 16 = ff Fr / 8 by omega]; omega
        refine r_aload_n F dX12_step_776 rfl ?_
        refine r_bipush (v := 16) F dX12_step_777 (by decide) ?_
        refine r_iload_n F dX12_step_779 rfl ?_
        refine r_bipush (v := 8) F dX12_step_780 (by decide) ?_
        refine r_idiv F dX12_step_782 (by decide) ?_
        refine r_imul F dX12_step_783 ?_
        refine r_iload F dX12_step_784 rfl ?_
        refine r_iadd F dX12_step_786 ?_
        rw [ej, show (16 : Int32) * (nI (ff Fr) / 8) + nI (ka v (ff Fr) (fa Fr)) = nI (16 * (ff Fr / 8) + ka v (ff Fr) (fa Fr)) from by rw [nl8, nl16, nI_div (by omega) (by omega), nI_mul, nI_add]]
        refine c_Vi (ci := 12) F G (mm_functionOf hS (y := (16 * (ff Fr / 8) + ka v (ff Fr) (fa Fr))) (hLL.rg hv) (hLL.A hA) (hLL.D hs.2.1) hy (by rw [hLL.c (by omega)]; exact ht9)) (cwV 1 F.2.2.2.2 (zgV km_X12_189 ki_X12_functionOf ke_X12_X12_functionOf kn_X12 ko_X12_functionOf) rfl rfl rfl ⟨rfl, hd_yX12_functionOf⟩ ⟨Nat.le_of_ble_eq_true rfl, Nat.le_of_ble_eq_true rfl⟩) rfl (by decide) hS.al rfl rfl (Nat.le_of_ble_eq_true rfl) dX12_step_787 ⟨Nat.le_of_ble_eq_true rfl, Nat.le_of_ble_eq_true rfl⟩ (fun r787 S787 h787 => ?_)
        obtain ⟨h787a, h787b⟩ := h787
        have h787c := h787b.symm
        subst h787c
        rw [hLL.efO] at h787a
        subst h787a
        have hfl : ∀ z, fO v (16 * (ff Fr / 8) + ka v (ff Fr) (fa Fr)) = some z → z < 2 ^ 31 := fun z hz => by have := fO_lt hv hs.2.1 hy ht9 hz; omega
        refine r_istore F dX12_step_790 (by decide) ?_
        refine r_aload_n F dX12_step_792 rfl ?_
        refine r_iload F dX12_step_793 rfl ?_
        refine r_if_ge (tgt := 802) F dX12_step_795 (by decide) (fun c795 => ?_) (fun c795 => ?_)
        · obtain ⟨gg, hgg⟩ : ∃ z, fO v (16 * (ff Fr / 8) + ka v (ff Fr) (fa Fr)) = some z := by
            cases h8 : fO v (16 * (ff Fr / 8) + ka v (ff Fr) (fa Fr)) with
            | some z => exact ⟨z, rfl⟩
            | none => rw [h8] at c795; exact absurd c795 (by decide)
          refine r_aload_n F dX12_step_802 rfl ?_
          refine r_iload F dX12_step_803 rfl ?_
          refine c_Vi (ci := 12) F G (mm_slotOf hS (Ts := Ss) (x := fO v (16 * (ff Fr / 8) + ka v (ff Fr) (fa Fr))) (hT.Q hQ) (by have := nD_len 48 Ss hs.2.2.2.1; omega) (fun k hk9 => by have h9 := hs.2.2.2.1.2 (Ss.getD k 0) (by rw [List.getD_eq_getElem?_getD, List.getElem?_eq_getElem hk9]; exact List.getElem_mem hk9); omega) hfl) (cwV 1 F.2.2.2.2 (zgV km_X12_257 ki_X12_slotOf ke_X12_X12_slotOf kn_X12 ko_X12_slotOf) rfl rfl rfl ⟨rfl, hd_yX12_slotOf⟩ ⟨Nat.le_of_ble_eq_true rfl, Nat.le_of_ble_eq_true rfl⟩) rfl (by decide) hS.al rfl rfl (Nat.le_of_ble_eq_true rfl) dX12_step_805 ⟨Nat.le_of_ble_eq_true rfl, Nat.le_of_ble_eq_true rfl⟩ (fun r805 S805 h805 => ?_)
          obtain ⟨h805b, h805a⟩ := h805
          have h805c := h805b.symm
          subst h805c
          have hr9 : r805 = nI (slN Ss (fO v (16 * (ff Fr / 8) + ka v (ff Fr) (fa Fr)))) := by
            unfold slN
            rcases h805a with ⟨k9, z1, z2, z3⟩ | ⟨z1, z2⟩
            · rw [z1]; exact z3
            · rw [z1]; exact z2
          subst hr9
          refine r_i2l F dX12_step_808 ?_
          refine c_Vv (ci := 12) F G (mm_push hS (t := sH Fs + fh Fr) hR.T (by omega)) (cwV 1 F.2.2.2.2 (zgV km_X12_343 ki_X12_push ke_X12_X12_push kn_X12 ko_X12_push) rfl rfl rfl ⟨rfl, hd_yX12_push⟩ ⟨Nat.le_of_ble_eq_true rfl, Nat.le_of_ble_eq_true rfl⟩) rfl (by decide) hS.al rfl rfl (Nat.le_of_ble_eq_true rfl) dX12_step_809 ⟨Nat.le_of_ble_eq_true rfl, Nat.le_of_ble_eq_true rfl⟩ (fun S809 hS => ?_)
          have hR : rR (fPu (fGo Fr (fa Fr + 1)) (nI (slN Ss (fO v (16 * (ff Fr / 8) + ka v (ff Fr) (fa Fr))))).toInt64 :: Fs, U) (u1 (u2 v1 1245 (sH Fs + fh Fr) (nI (slN Ss (fO v (16 * (ff Fr / 8) + ka v (ff Fr) (fa Fr))))).toInt64) 1246 0 (nI (sH Fs + fh Fr + 1))) := hR.pu
          have hT := (hT.uu (id := 1245) (k := sH Fs + fh Fr) (x := (nI (slN Ss (fO v (16 * (ff Fr / 8) + ka v (ff Fr) (fa Fr))))).toInt64) (Or.inr rfl)).u (id := 1246) (k := 0) (x := nI (sH Fs + fh Fr + 1)) (by omega)
          refine r_iconst (v := 0) F dX12_step_812 (by decide) ?_
          refine e_iret F hr hlk ⟨_, hS, ?_⟩ (by decide) (by decide) dX12_step_813
          rw [aSp_34 hw]
          exact stP.go hT hR
        · refine r_lconst (v := 0) F dX12_step_798 (by decide) ?_
          refine r_goto (tgt := 809) F dX12_step_799 (by decide) ?_
          refine c_Vv (ci := 12) F G (mm_push hS (t := sH Fs + fh Fr) hR.T (by omega)) (cwV 1 F.2.2.2.2 (zgV km_X12_343 ki_X12_push ke_X12_X12_push kn_X12 ko_X12_push) rfl rfl rfl ⟨rfl, hd_yX12_push⟩ ⟨Nat.le_of_ble_eq_true rfl, Nat.le_of_ble_eq_true rfl⟩) rfl (by decide) hS.al rfl rfl (Nat.le_of_ble_eq_true rfl) dX12_step_809 ⟨Nat.le_of_ble_eq_true rfl, Nat.le_of_ble_eq_true rfl⟩ (fun S809 hS => ?_)
          have hR : rR (fPu (fGo Fr (fa Fr + 1)) 0 :: Fs, U) (u1 (u2 v1 1245 (sH Fs + fh Fr) 0) 1246 0 (nI (sH Fs + fh Fr + 1))) := hR.pu
          have hT := (hT.uu (id := 1245) (k := sH Fs + fh Fr) (x := 0) (Or.inr rfl)).u (id := 1246) (k := 0) (x := nI (sH Fs + fh Fr + 1)) (by omega)
          refine r_iconst (v := 0) F dX12_step_812 (by decide) ?_
          refine e_iret F hr hlk ⟨_, hS, ?_⟩ (by decide) (by decide) dX12_step_813
          rw [aSp_34 hw, (enc_lt hfl).mp (Int32.not_le.mp c795), show slN Ss none = 0 from by unfold slN; rw [show plc Ss none = none from fnd_none.mpr (fun k _ => rfl)]]
          exact stP.go hT hR
    · have hw : 3 ≤ kw v (ff Fr) (fa Fr) ∧ kw v (ff Fr) (fa Fr) ≤ 16 := by
        have c8 := c52
        have c9 := c59
        rw [nl3, nI_ltI (by omega) (by omega)] at c8
        rw [nl16, nI_ltI (by omega) (by omega)] at c9
        omega
      have hp2 : 2 ≤ fh Fr := hpv _ 2 rfl (by omega) (by rw [(pp_t (by omega) (by omega)).1]; exact ((show ∀ w, w < 36 → 3 ≤ w ∧ w ≤ 16 → 2 ≤ pTb.getD w 0 by decide) _ hw36 hw))
      refine r_aload_n F dX12_step_62 rfl ?_
      refine c_Vl (ci := 12) F G (mm_pop hS (t := sH Fs + (fh Fr - 1)) (by rw [show v1.1 1246 0 = nI (sH Fs + fh Fr) from hR.T, show sH Fs + fh Fr = sH Fs + (fh Fr - 1) + 1 from by omega]) (by omega)) (cwV 0 F.2.2.2.2 (zgV km_X12_331 ki_X12_pop ke_X12_X12_pop kn_X12 ko_X12_pop) rfl rfl rfl ⟨rfl, hd_yX12_pop⟩ ⟨Nat.le_of_ble_eq_true rfl, Nat.le_of_ble_eq_true rfl⟩) rfl (by decide) hS.al rfl rfl (Nat.le_of_ble_eq_true rfl) dX12_step_63 ⟨Nat.le_of_ble_eq_true rfl, Nat.le_of_ble_eq_true rfl⟩ (fun r63 S63 h63 => ?_)
      obtain ⟨h63a, hS⟩ := h63
      rw [show v1.2 1245 (sH Fs + (fh Fr - 1)) = fv Fr (fh Fr - 1) from hR.F1.2.2.2.2.2.1 (fh Fr - 1) (show fh Fr - 1 < fh Fr by omega)] at h63a
      subst h63a
      have hR : rR (fDr (fGo Fr (fa Fr + 1)) 1 :: Fs, U) (u1 v1 1246 0 (nI (sH Fs + (fh Fr - 1)))) := hR.dr (m := 1)
      have hT := hT.u (id := 1246) (k := 0) (x := nI (sH Fs + (fh Fr - 1))) (by omega)
      generalize u1 v1 1246 0 (nI (sH Fs + (fh Fr - 1))) = v1 at hS hR hT
      have hLL := hT.L hL
      refine r_lstore F dX12_step_66 (by decide) ?_
      refine r_aload_n F dX12_step_68 rfl ?_
      refine c_Vl (ci := 12) F G (mm_pop hS (t := sH Fs + (fh Fr - 2)) (by rw [show v1.1 1246 0 = nI (sH Fs + (fh Fr - 1)) from hR.T, show sH Fs + (fh Fr - 1) = sH Fs + (fh Fr - 2) + 1 from by omega]) (by omega)) (cwV 0 F.2.2.2.2 (zgV km_X12_331 ki_X12_pop ke_X12_X12_pop kn_X12 ko_X12_pop) rfl rfl rfl ⟨rfl, hd_yX12_pop⟩ ⟨Nat.le_of_ble_eq_true rfl, Nat.le_of_ble_eq_true rfl⟩) rfl (by decide) hS.al rfl rfl (Nat.le_of_ble_eq_true rfl) dX12_step_69 ⟨Nat.le_of_ble_eq_true rfl, Nat.le_of_ble_eq_true rfl⟩ (fun r69 S69 h69 => ?_)
      obtain ⟨h69a, hS⟩ := h69
      rw [show v1.2 1245 (sH Fs + (fh Fr - 2)) = fv Fr (fh Fr - 2) from hR.F1.2.2.2.2.2.1 (fh Fr - 2) (show fh Fr - 2 < (fh Fr - 1) by omega)] at h69a
      subst h69a
      have hR : rR (fDr (fGo Fr (fa Fr + 1)) 2 :: Fs, U) (u1 v1 1246 0 (nI (sH Fs + (fh Fr - 2)))) := hR.dr (m := 1)
      have hT := hT.u (id := 1246) (k := 0) (x := nI (sH Fs + (fh Fr - 2))) (by omega)
      generalize u1 v1 1246 0 (nI (sH Fs + (fh Fr - 2))) = v1 at hS hR hT
      have hLL := hT.L hL
      refine r_lstore F dX12_step_72 (by decide) ?_
      refine r_iload F dX12_step_74 rfl ?_
      refine r_lload F dX12_step_76 rfl ?_
      refine r_lload F dX12_step_78 rfl ?_
      refine c_Si F G (mm_bad (w := kw v (ff Fr) (fa Fr)) (x := (fv Fr (fh Fr - 2))) (y := (fv Fr (fh Fr - 1))) hw36) (va_cwS 3 F.2.2.2.2 (zgS km_X12_335 ks_X12_isBadQuotient kn_X12 ko_X12_isBadQuotient) rfl rfl rfl hd_yX12_isBadQuotient ⟨Nat.le_of_ble_eq_true rfl, Nat.le_of_ble_eq_true rfl⟩) rfl rfl (Nat.le_of_ble_eq_true rfl) dX12_step_80 ⟨Nat.le_of_ble_eq_true rfl, Nat.le_of_ble_eq_true rfl⟩ (fun r80 S80 h80 => ?_)
      obtain ⟨h80a, h80b⟩ := h80
      have h80c := h80b.symm
      subst h80c
      refine r_if_eq (tgt := 88) F dX12_step_83 (by decide) (fun c83 => ?_) (fun c83 => ?_)
      · refine r_aload_n F dX12_step_88 rfl ?_
        refine r_iload F dX12_step_89 rfl ?_
        refine r_lload F dX12_step_91 rfl ?_
        refine r_lload F dX12_step_93 rfl ?_
        refine c_Sl F G (mm_worked (w := kw v (ff Fr) (fa Fr)) (x := (fv Fr (fh Fr - 2))) (y := (fv Fr (fh Fr - 1))) hw.1 hw.2 (h80a.f c83)) (va_cwS 3 F.2.2.2.2 (zgS km_X12_339 ks_X12_worked kn_X12 ko_X12_worked) rfl rfl rfl hd_yX12_worked ⟨Nat.le_of_ble_eq_true rfl, Nat.le_of_ble_eq_true rfl⟩) rfl rfl (Nat.le_of_ble_eq_true rfl) dX12_step_95 ⟨Nat.le_of_ble_eq_true rfl, Nat.le_of_ble_eq_true rfl⟩ (fun r95 S95 h95 => ?_)
        obtain ⟨h95a, h95b⟩ := h95
        have h95c := h95b.symm
        subst h95c
        subst h95a
        refine c_Vv (ci := 12) F G (mm_push hS (t := sH Fs + (fh Fr - 2)) hR.T (by omega)) (cwV 1 F.2.2.2.2 (zgV km_X12_343 ki_X12_push ke_X12_X12_push kn_X12 ko_X12_push) rfl rfl rfl ⟨rfl, hd_yX12_push⟩ ⟨Nat.le_of_ble_eq_true rfl, Nat.le_of_ble_eq_true rfl⟩) rfl (by decide) hS.al rfl rfl (Nat.le_of_ble_eq_true rfl) dX12_step_98 ⟨Nat.le_of_ble_eq_true rfl, Nat.le_of_ble_eq_true rfl⟩ (fun S98 hS => ?_)
        have hR : rR (fPu (fDr (fGo Fr (fa Fr + 1)) 2) (wkd (kw v (ff Fr) (fa Fr)) (fv Fr (fh Fr - 2)) (fv Fr (fh Fr - 1))) :: Fs, U) (u1 (u2 v1 1245 (sH Fs + (fh Fr - 2)) (wkd (kw v (ff Fr) (fa Fr)) (fv Fr (fh Fr - 2)) (fv Fr (fh Fr - 1)))) 1246 0 (nI (sH Fs + (fh Fr - 2) + 1))) := hR.pu
        have hT := (hT.uu (id := 1245) (k := sH Fs + (fh Fr - 2)) (x := (wkd (kw v (ff Fr) (fa Fr)) (fv Fr (fh Fr - 2)) (fv Fr (fh Fr - 1)))) (Or.inr rfl)).u (id := 1246) (k := 0) (x := nI (sH Fs + (fh Fr - 2) + 1)) (by omega)
        refine r_iconst (v := 0) F dX12_step_101 (by decide) ?_
        refine e_iret F hr hlk ⟨_, hS, ?_⟩ (by decide) (by decide) dX12_step_102
        rw [aSp_r hw, if_neg (h80a.f c83)]
        exact stP.go hT hR
      · refine r_iconst (v := 2) F dX12_step_86 (by decide) ?_
        refine e_iret F hr hlk ⟨_, hS, ?_⟩ (by decide) (by decide) dX12_step_87
        rw [aSp_r hw, if_pos (h80a.t c83)]
        exact stP.no (by decide) rfl hT hR
