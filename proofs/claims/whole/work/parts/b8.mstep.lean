theorem nl31 : (31 : Int32) = nI 31 := rfl
theorem nl32 : (32 : Int32) = nI 32 := rfl
theorem nl22 : (22 : Int32) = nI 22 := rfl
theorem nl23 : (23 : Int32) = nI 23 := rfl
theorem nl30 : (30 : Int32) = nI 30 := rfl
theorem cP.cl {v : zV} {U : aU} {M0 M M' : mKt} {G : aF} {Fs : List aF} {g : Nat} {A9 : aM} (hC : cRp v (G :: Fs, U) M) (hK : mKp M0 M) (hp : cn v 1205 g ≤ fh G) (h : (Fs.length + 1 = 40 ∧ M' = (va_up M.1 408 6, M.2)) ∨ (Fs.length + 1 < 40 ∧ enC M M' (Fs.length + 1) g (fBz v G Fs + fh G) (cn v 1205 g) (cn v 1207 g) U.2.1)) : cP v U M0 M' (aCl v G Fs U g) := by
  rcases h with ⟨h1, h2⟩ | ⟨h1, h2⟩
  · rw [show aCl v G Fs U g = (6, G :: Fs, U) from if_pos h1, h2]
    exact cP.no (by decide) rfl hC hK
  · rw [show aCl v G Fs U g = (0, aCa v G Fs U g) from if_neg (by omega)]
    exact cP.go (hC.en hp h2) (hK.en h2)
theorem cP.tr {v : zV} {U : aU} {M0 M M' : mKt} {R : Nat × aM} (hK : mKp M0 M) (h : cP v U M M' R) : cP v U M0 M' R := ⟨fun h9 => ⟨(h.1 h9).1, hK.tr (h.1 h9).2⟩, fun h9 => ⟨(h.2 h9).1, (h.2 h9).2.1.trans (hK.1 410 (Or.inr rfl)), (h.2 h9).2.2.1.trans hK.2.1, (h.2 h9).2.2.2.1.trans hK.2.2, (h.2 h9).2.2.2.2⟩⟩
set_option maxRecDepth 100000 in
set_option maxHeartbeats 4000000 in
theorem c_mgo {l : Launch} {N0 t0 : Nat} {D : va_G} {cy : Nat → ClassId} {S : zS} {X : Nat → Prop} {S0 : zS} {ad : Nat → Nat} {W : zO} {M : mKt} (hM : nZ t0 X S0 ad W M S) {v : zV} {Fr : aF} {Fs : List aF} {U : aU} (hC : cRp v (fGo Fr (fa Fr + 1) :: Fs, U) M) {Ss : List Nat} (hW : cW v W Ss) (hs : sOK v Ss) (hA : vA v) (hK : kEq v) (hO : aOK v (Fr :: Fs, U)) (hk : fa Fr < cn v 1208 (ff Fr)) (hwr : 23 ≤ kw v (ff Fr) (fa Fr) ∧ kw v (ff Fr) (fa Fr) ≤ 30) : zMv l yX3_go (zws yX3_go cX3_go 3 none) { frames := 3, cells := 0, slots := 0, locals := 70 } N0 t0 D cy S [.ref (ad 14), .ref (ad (200 + 12 * ff Fr)), .int (nI (fa Fr))] (fun S' => ∃ M', nZ t0 X S0 ad W M' S' ∧ cP v U M M' (aSp v Ss Fr Fs U)) 0 0 := by
  refine zMv.of (cc := cX3_go) (maxL := 3) (ret := none) (by decide) rfl (Nat.le_of_ble_eq_true rfl) ?_
  intro p e s m args below meth c F G hr hlk hnm
  obtain ⟨M0, eM0⟩ : ∃ M0, M0 = M := ⟨_, rfl⟩
  have hKp : mKp M0 M := by rw [eM0]; exact mKp.rf
  rw [← eM0]
  clear eM0
  have hF := hO.1.1
  have hf := hF.1
  have hv := hs.1
  have hf48 := hf.1
  have hRd := (hW.r hf).1
  have hsz := hs.sz hf
  have hlen : Fs.length + 1 ≤ 40 := hO.2.1
  have hU : U.2.1 ≤ 40 := hO.2.2
  have hbs := sC_b hs Fs _ hO.1.2
  have hfh : fh Fr + 0 ≤ fa Fr := hF.2.2.1
  have hp4 := (rg_1205 hs.1 hf.1).2
  have hl4 := (rg_1207 hs.1 hf.1).2
  have hsB : fBz v Fr Fs = sC v Fs + (cn v 1205 (ff Fr) + cn v 1207 (ff Fr)) := rfl
  have hB : fBz v Fr Fs + fh Fr ≤ 2719 := by omega
  have hw36 := hs.w hf hk
  have hg9 := hs.g hf hk
  have hpv : ∀ w n, kw v (ff Fr) (fa Fr) = w → ¬ w = 27 → n ≤ pp v (ff Fr / 8) w (v.1 1210 (60 * ff Fr + fa Fr)) → n ≤ fh Fr := fun w n e1 e2 e3 => by
    have h9 := hF.pv hs hk (by rw [e1]; exact e2)
    rw [e1] at h9
    omega
  refine r_aload_n F dX3_go_0 rfl ?_
  refine gr_words F G hM hf48 hRd dX3_go_1 ?_
  refine r_iload_n F dX3_go_4 rfl ?_
  refine lr_words F G hM hf48 hRd (by omega) dX3_go_5 ?_
  rw [hW.w hs hf hk]
  rcases (show ((23 ≤ kw v (ff Fr) (fa Fr) ∧ kw v (ff Fr) (fa Fr) ≤ 24) ∨ kw v (ff Fr) (fa Fr) = 27) ∨ (kw v (ff Fr) (fa Fr) = 25) ∨ (kw v (ff Fr) (fa Fr) = 26) ∨ (kw v (ff Fr) (fa Fr) = 28) ∨ (kw v (ff Fr) (fa Fr) = 29) ∨ (kw v (ff Fr) (fa Fr) = 30) by omega) with w6 | w6 | w6 | w6 | w6 | w6
  · refine r_table (off := 133) (tgt := 139) F dX3_go_6 ((show ∀ w : Nat, w < 36 → ((23 ≤ w ∧ w ≤ 24) ∨ w = 27) → (if (nI w).toInt < 25 ∨ 30 < (nI w).toInt then some (133 : Int) else (#[38, 67, 133, 87, 101, 124] : Array Int)[((nI w).toInt - 25).toNat]?) = some (133 : Int) from by decide) (kw v (ff Fr) (fa Fr)) hw36 w6) (by decide) ?_
    refine e_vret F hr hlk ⟨_, hM, ?_⟩ (by decide) (by decide) dX3_go_139
    rcases (show kw v (ff Fr) (fa Fr) = 23 ∨ kw v (ff Fr) (fa Fr) = 24 ∨ kw v (ff Fr) (fa Fr) = 27 by omega) with hw | hw | hw
    · rw [aSp_23 hw]
      exact cP.go (hC.bk rfl rfl rfl rfl rfl) hKp
    · rw [aSp_24 hw]
      exact cP.go (hC.bk rfl rfl rfl rfl rfl) hKp
    · rw [aSp_27 hw]
      exact cP.go (hC.bk rfl rfl rfl rfl rfl) hKp
  · refine r_table (off := 38) (tgt := 44) F dX3_go_6 ((show ∀ w : Nat, w < 36 → (w = 25) → (if (nI w).toInt < 25 ∨ 30 < (nI w).toInt then some (133 : Int) else (#[38, 67, 133, 87, 101, 124] : Array Int)[((nI w).toInt - 25).toNat]?) = some (38 : Int) from by decide) (kw v (ff Fr) (fa Fr)) hw36 w6) (by decide) ?_
    have hw : kw v (ff Fr) (fa Fr) = 25 := w6
    have hp1 : 1 ≤ fh Fr := hpv _ 1 hw (by decide) (Nat.le_refl 1)
    refine r_aload_n F dX3_go_44 rfl ?_
    refine c_Vl (ci := 4) F G (c_mpop hM.1 hM.2.1 hM.2.2 (h := fBz v Fr Fs + (fh Fr - 1)) (by rw [show M.1 406 = nI (fBz v Fr Fs + fh Fr) from hC.H, show fBz v Fr Fs + fh Fr = fBz v Fr Fs + (fh Fr - 1) + 1 from by omega]) (by omega)) (cwV 0 F.2.2.2.2 (zgV km_X3_128 ki_X3_pop ke_X3_X3_pop kn_X3 ko_X3_pop) rfl rfl rfl ⟨rfl, hd_yX3_pop⟩ ⟨Nat.le_of_ble_eq_true rfl, Nat.le_of_ble_eq_true rfl⟩) rfl (by decide) hM.A rfl rfl (Nat.le_of_ble_eq_true rfl) dX3_go_45 ⟨Nat.le_of_ble_eq_true rfl, Nat.le_of_ble_eq_true rfl⟩ (fun r45 S45 h45 => ?_)
    obtain ⟨h45a, h45b⟩ := h45
    have hM : nZ t0 X S0 ad W (mHt M (fBz v Fr Fs + (fh Fr - 1))) S45 := ⟨hM.1, hM.2.1, h45b⟩
    rw [show M.2.2.2.1 (fBz v Fr Fs + (fh Fr - 1)) = fv Fr (fh Fr - 1) from hC.va (j := fh Fr - 1) (show fh Fr - 1 < fh Fr by omega)] at h45a
    subst h45a
    have hC : cRp v (fDr (fGo Fr (fa Fr + 1)) 1 :: Fs, U) (mHt M (fBz v Fr Fs + (fh Fr - 1))) := hC.dr (m := 1) (show 1 ≤ fh Fr by omega)
    have hKp := hKp.ht (h := fBz v Fr Fs + (fh Fr - 1))
    generalize mHt M (fBz v Fr Fs + (fh Fr - 1)) = M at hM hC hKp
    refine r_lconst (v := 0) F dX3_go_48 (by decide) ?_
    refine r_lcmp F dX3_go_49 ?_
    refine r_if_ne (tgt := 139) F dX3_go_50 (by decide) (fun c50 => ?_) (fun c50 => ?_)
    · refine e_vret F hr hlk ⟨_, hM, ?_⟩ (by decide) (by decide) dX3_go_139
      rw [aSp_25 hw, if_neg (fun h9 => c50 ((lg_cmp_eq _ _).mpr h9))]
      exact cP.go (hC.bk rfl rfl rfl rfl rfl) hKp
    · refine r_aload_n F dX3_go_53 rfl ?_
      refine gm_nexts F G hM dX3_go_54 ?_
      refine r_aload_n F dX3_go_57 rfl ?_
      refine gm_depthS F G hM hC.N dX3_go_58 ?_
      refine r_iconst (v := 1) F dX3_go_61 (by decide) ?_
      refine r_isub F dX3_go_62 ?_
      rw [show nI (Fs.length + 1) - 1 = nI Fs.length from by rw [nl1, nI_sub (by omega), Nat.add_sub_cancel]]
      refine r_aload_n F dX3_go_63 rfl ?_
      refine gr_goals F G hM hf48 hRd dX3_go_64 ?_
      refine r_iload_n F dX3_go_67 rfl ?_
      refine lr_goals F G hM hf48 hRd (by omega) dX3_go_68 ?_
      rw [hW.g hs hf hk (by omega)]
      refine sm_nexts F G hM (by omega) dX3_go_69 (fun S hM => ?_)
      have hC := hC.go (k := clT v (ff Fr) (fa Fr) + 1)
      refine r_goto (tgt := 139) F dX3_go_70 (by decide) ?_
      refine e_vret F hr hlk ⟨_, hM, ?_⟩ (by decide) (by decide) dX3_go_139
      rw [aSp_25 hw, if_pos ((lg_cmp_eq _ _).mp c50)]
      have ht9 : clT v (ff Fr) (fa Fr) = clT v (ff Fr) (fa Fr) := rfl
      cases hx : clX v (ff Fr) (fa Fr) with
      | some x =>
        rw [show clT v (ff Fr) (fa Fr) = x from by unfold clT; rw [hx]] at hC ⊢
        exact cP.go (hC.bk rfl rfl rfl rfl rfl) ⟨hKp.1, hKp.2.1, hKp.2.2⟩
      | none =>
        rw [show clT v (ff Fr) (fa Fr) = clE v (ff Fr) (fa Fr) from by unfold clT; rw [hx]] at hC ⊢
        exact cP.go (hC.bk rfl rfl rfl rfl rfl) ⟨hKp.1, hKp.2.1, hKp.2.2⟩
  · refine r_table (off := 67) (tgt := 73) F dX3_go_6 ((show ∀ w : Nat, w < 36 → (w = 26) → (if (nI w).toInt < 25 ∨ 30 < (nI w).toInt then some (133 : Int) else (#[38, 67, 133, 87, 101, 124] : Array Int)[((nI w).toInt - 25).toNat]?) = some (67 : Int) from by decide) (kw v (ff Fr) (fa Fr)) hw36 w6) (by decide) ?_
    have hw : kw v (ff Fr) (fa Fr) = 26 := w6
    obtain ⟨b1, b2, b3, b4⟩ := hF.el hs hk hw
    have hC9 := clE_c (hs.c hf) b2 (by omega)
    refine r_aload_n F dX3_go_73 rfl ?_
    refine gm_nexts F G hM dX3_go_74 ?_
    refine r_aload_n F dX3_go_77 rfl ?_
    refine gm_depthS F G hM hC.N dX3_go_78 ?_
    refine r_iconst (v := 1) F dX3_go_81 (by decide) ?_
    refine r_isub F dX3_go_82 ?_
    rw [show nI (Fs.length + 1) - 1 = nI Fs.length from by rw [nl1, nI_sub (by omega), Nat.add_sub_cancel]]
    refine r_aload_n F dX3_go_83 rfl ?_
    refine gr_ends F G hM hf48 hRd dX3_go_84 ?_
    refine r_iload_n F dX3_go_87 rfl ?_
    refine lr_ends F G hM hf48 hRd (by omega) dX3_go_88 ?_
    rw [hW.ex hs hf hC9 (hF.ex hs hk hw)]
    refine sm_nexts F G hM (by omega) dX3_go_89 (fun S hM => ?_)
    have hC := hC.go (k := clE v (ff Fr) (fo Fr (fn Fr - 1)))
    refine r_goto (tgt := 139) F dX3_go_90 (by decide) ?_
    refine e_vret F hr hlk ⟨_, hM, ?_⟩ (by decide) (by decide) dX3_go_139
    rw [aSp_26 hw]
    exact cP.go (hC.bk rfl rfl rfl rfl rfl) ⟨hKp.1, hKp.2.1, hKp.2.2⟩
  · refine r_table (off := 87) (tgt := 93) F dX3_go_6 ((show ∀ w : Nat, w < 36 → (w = 28) → (if (nI w).toInt < 25 ∨ 30 < (nI w).toInt then some (133 : Int) else (#[38, 67, 133, 87, 101, 124] : Array Int)[((nI w).toInt - 25).toNat]?) = some (87 : Int) from by decide) (kw v (ff Fr) (fa Fr)) hw36 w6) (by decide) ?_
    have hw : kw v (ff Fr) (fa Fr) = 28 := w6
    refine r_aload_n F dX3_go_93 rfl ?_
    refine r_aload_n F dX3_go_94 rfl ?_
    refine r_aload_n F dX3_go_95 rfl ?_
    refine gr_goals F G hM hf48 hRd dX3_go_96 ?_
    refine r_iload_n F dX3_go_99 rfl ?_
    refine lr_goals F G hM hf48 hRd (by omega) dX3_go_100 ?_
    obtain ⟨d0, d1, d2, d3, d4⟩ := hF.br (G := (fGo Fr (fa Fr + 1))) hs hk (Or.inl ⟨hw, rfl⟩) rfl rfl rfl rfl rfl rfl
    refine c_Vv (ci := 4) F G (c_mjump hM (Fr := (fGo Fr (fa Fr + 1))) hC (show fBz v Fr Fs + (fh Fr - 0) ≤ 2719 by omega) hW hs hf hlen (a := ka v (ff Fr) (fa Fr)) (hW.gb hs hF hk (Or.inl hw) d1) d1 (fun h9 => ⟨Nat.lt_trans (d3 h9).1 hk, (d3 h9).2.1, (d3 h9).2.2.1, (d3 h9).2.2.2, hF.bX hs hk (show fn Fr - 1 - ka v (ff Fr) (fa Fr) < fn Fr by have h8 : ka v (ff Fr) (fa Fr) < fn Fr := h9; omega)⟩)) (cwV 2 F.2.2.2.2 (zgV km_X3_203 ki_X3_jump ke_X3_X3_jump kn_X3 ko_X3_jump) rfl rfl rfl ⟨rfl, hd_yX3_jump⟩ ⟨Nat.le_of_ble_eq_true rfl, Nat.le_of_ble_eq_true rfl⟩) rfl (by decide) hM.A rfl rfl (Nat.le_of_ble_eq_true rfl) dX3_go_101 ⟨Nat.le_of_ble_eq_true rfl, Nat.le_of_ble_eq_true rfl⟩ (fun S101 h101 => ?_)
    obtain ⟨M1, hM, hC, hKp2⟩ := h101
    have hKp := hKp.tr hKp2
    refine r_goto (tgt := 139) F dX3_go_104 (by decide) ?_
    refine e_vret F hr hlk ⟨_, hM, ?_⟩ (by decide) (by decide) dX3_go_139
    rw [aSp_28 hw]
    exact cP.go hC hKp
  · refine r_table (off := 101) (tgt := 107) F dX3_go_6 ((show ∀ w : Nat, w < 36 → (w = 29) → (if (nI w).toInt < 25 ∨ 30 < (nI w).toInt then some (133 : Int) else (#[38, 67, 133, 87, 101, 124] : Array Int)[((nI w).toInt - 25).toNat]?) = some (101 : Int) from by decide) (kw v (ff Fr) (fa Fr)) hw36 w6) (by decide) ?_
    have hw : kw v (ff Fr) (fa Fr) = 29 := w6
    have hp1 : 1 ≤ fh Fr := hpv _ 1 hw (by decide) (Nat.le_refl 1)
    refine r_aload_n F dX3_go_107 rfl ?_
    refine c_Vl (ci := 4) F G (c_mpop hM.1 hM.2.1 hM.2.2 (h := fBz v Fr Fs + (fh Fr - 1)) (by rw [show M.1 406 = nI (fBz v Fr Fs + fh Fr) from hC.H, show fBz v Fr Fs + fh Fr = fBz v Fr Fs + (fh Fr - 1) + 1 from by omega]) (by omega)) (cwV 0 F.2.2.2.2 (zgV km_X3_128 ki_X3_pop ke_X3_X3_pop kn_X3 ko_X3_pop) rfl rfl rfl ⟨rfl, hd_yX3_pop⟩ ⟨Nat.le_of_ble_eq_true rfl, Nat.le_of_ble_eq_true rfl⟩) rfl (by decide) hM.A rfl rfl (Nat.le_of_ble_eq_true rfl) dX3_go_108 ⟨Nat.le_of_ble_eq_true rfl, Nat.le_of_ble_eq_true rfl⟩ (fun r108 S108 h108 => ?_)
    obtain ⟨h108a, h108b⟩ := h108
    have hM : nZ t0 X S0 ad W (mHt M (fBz v Fr Fs + (fh Fr - 1))) S108 := ⟨hM.1, hM.2.1, h108b⟩
    rw [show M.2.2.2.1 (fBz v Fr Fs + (fh Fr - 1)) = fv Fr (fh Fr - 1) from hC.va (j := fh Fr - 1) (show fh Fr - 1 < fh Fr by omega)] at h108a
    subst h108a
    have hC : cRp v (fDr (fGo Fr (fa Fr + 1)) 1 :: Fs, U) (mHt M (fBz v Fr Fs + (fh Fr - 1))) := hC.dr (m := 1) (show 1 ≤ fh Fr by omega)
    have hKp := hKp.ht (h := fBz v Fr Fs + (fh Fr - 1))
    generalize mHt M (fBz v Fr Fs + (fh Fr - 1)) = M at hM hC hKp
    refine r_lconst (v := 0) F dX3_go_111 (by decide) ?_
    refine r_lcmp F dX3_go_112 ?_
    refine r_if_eq (tgt := 139) F dX3_go_113 (by decide) (fun c113 => ?_) (fun c113 => ?_)
    · refine e_vret F hr hlk ⟨_, hM, ?_⟩ (by decide) (by decide) dX3_go_139
      rw [aSp_29 hw, if_pos ((lg_cmp_eq _ _).mp c113)]
      exact cP.go hC hKp
    · refine r_aload_n F dX3_go_116 rfl ?_
      refine r_aload_n F dX3_go_117 rfl ?_
      refine r_aload_n F dX3_go_118 rfl ?_
      refine gr_goals F G hM hf48 hRd dX3_go_119 ?_
      refine r_iload_n F dX3_go_122 rfl ?_
      refine lr_goals F G hM hf48 hRd (by omega) dX3_go_123 ?_
      obtain ⟨d0, d1, d2, d3, d4⟩ := hF.br (G := (fDr (fGo Fr (fa Fr + 1)) 1)) hs hk (Or.inr ⟨hw, rfl⟩) rfl rfl rfl rfl rfl rfl
      refine c_Vv (ci := 4) F G (c_mjump hM (Fr := (fDr (fGo Fr (fa Fr + 1)) 1)) hC (show fBz v Fr Fs + (fh Fr - 1) ≤ 2719 by omega) hW hs hf hlen (a := ka v (ff Fr) (fa Fr)) (hW.gb hs hF hk (Or.inr hw) d1) d1 (fun h9 => ⟨Nat.lt_trans (d3 h9).1 hk, (d3 h9).2.1, (d3 h9).2.2.1, (d3 h9).2.2.2, hF.bX hs hk (show fn Fr - 1 - ka v (ff Fr) (fa Fr) < fn Fr by have h8 : ka v (ff Fr) (fa Fr) < fn Fr := h9; omega)⟩)) (cwV 2 F.2.2.2.2 (zgV km_X3_203 ki_X3_jump ke_X3_X3_jump kn_X3 ko_X3_jump) rfl rfl rfl ⟨rfl, hd_yX3_jump⟩ ⟨Nat.le_of_ble_eq_true rfl, Nat.le_of_ble_eq_true rfl⟩) rfl (by decide) hM.A rfl rfl (Nat.le_of_ble_eq_true rfl) dX3_go_124 ⟨Nat.le_of_ble_eq_true rfl, Nat.le_of_ble_eq_true rfl⟩ (fun S124 h124 => ?_)
      obtain ⟨M1, hM, hC, hKp2⟩ := h124
      have hKp := hKp.tr hKp2
      refine r_goto (tgt := 139) F dX3_go_127 (by decide) ?_
      refine e_vret F hr hlk ⟨_, hM, ?_⟩ (by decide) (by decide) dX3_go_139
      rw [aSp_29 hw, if_neg (fun h9 => c113 ((lg_cmp_eq _ _).mpr h9))]
      exact cP.go hC hKp
  · refine r_table (off := 124) (tgt := 130) F dX3_go_6 ((show ∀ w : Nat, w < 36 → (w = 30) → (if (nI w).toInt < 25 ∨ 30 < (nI w).toInt then some (133 : Int) else (#[38, 67, 133, 87, 101, 124] : Array Int)[((nI w).toInt - 25).toNat]?) = some (124 : Int) from by decide) (kw v (ff Fr) (fa Fr)) hw36 w6) (by decide) ?_
    have hw : kw v (ff Fr) (fa Fr) = 30 := w6
    refine r_aload_n F dX3_go_130 rfl ?_
    refine r_aload_n F dX3_go_131 rfl ?_
    refine r_iconst (v := -1) F dX3_go_132 (by decide) ?_
    refine c_Vv (ci := 4) F G (c_mjump hM (Fr := (fGo Fr (fa Fr + 1))) hC (show fBz v Fr Fs + fh Fr ≤ 2719 by omega) hW hs hf hlen (a := fn Fr) (if_pos rfl).symm (Nat.le_refl _) (fun h9 => absurd h9 (Nat.lt_irrefl _))) (cwV 2 F.2.2.2.2 (zgV km_X3_203 ki_X3_jump ke_X3_X3_jump kn_X3 ko_X3_jump) rfl rfl rfl ⟨rfl, hd_yX3_jump⟩ ⟨Nat.le_of_ble_eq_true rfl, Nat.le_of_ble_eq_true rfl⟩) rfl (by decide) hM.A rfl rfl (Nat.le_of_ble_eq_true rfl) dX3_go_133 ⟨Nat.le_of_ble_eq_true rfl, Nat.le_of_ble_eq_true rfl⟩ (fun S133 h133 => ?_)
    obtain ⟨M1, hM, hC, hKp2⟩ := h133
    have hKp := hKp.tr hKp2
    refine r_goto (tgt := 139) F dX3_go_136 (by decide) ?_
    refine e_vret F hr hlk ⟨_, hM, ?_⟩ (by decide) (by decide) dX3_go_139
    rw [aSp_30 hw]
    unfold aBr at hC
    rw [if_pos rfl] at hC
    exact cP.go (hC.bk rfl rfl rfl rfl rfl) hKp
set_option maxRecDepth 100000 in
set_option maxHeartbeats 4000000 in
theorem c_mmeantN {l : Launch} {N0 t0 : Nat} {D : va_G} {cy : Nat → ClassId} {S : zS} {X : Nat → Prop} {S0 : zS} {ad : Nat → Nat} {W : zO} {M : mKt} (hM : nZ t0 X S0 ad W M S) : zMv l yX3_enterMeant (zws yX3_enterMeant cX3_enterMeant 2 none) { frames := 2, cells := 0, slots := 0, locals := 44 } N0 t0 D cy S [.ref (ad 14), .null] (fun S' => nZ t0 X S0 ad W (va_up M.1 408 7, M.2) S') 0 0 := by
  refine zMv.of (cc := cX3_enterMeant) (maxL := 2) (ret := none) (by decide) rfl (Nat.le_of_ble_eq_true rfl) ?_
  intro p e s m args below meth c F G hr hlk hnm
  refine r_aload_nQ (x := none) F dX3_enterMeant_0 rfl ?_
  refine r_ifnonnullN F dX3_enterMeant_1 ?_
  refine r_aload_n F dX3_enterMeant_4 rfl ?_
  refine r_bipush (v := 7) F dX3_enterMeant_5 (by decide) ?_
  refine pm_end F G hM dX3_enterMeant_7 (fun S hM => ?_)
  refine r_goto (tgt := 18) F dX3_enterMeant_10 (by decide) ?_
  exact e_vret F hr hlk hM (by decide) (by decide) dX3_enterMeant_18
set_option maxRecDepth 100000 in
set_option maxHeartbeats 4000000 in
theorem c_mmeantR {l : Launch} {N0 t0 : Nat} {D : va_G} {cy : Nat → ClassId} {S : zS} {X : Nat → Prop} {S0 : zS} {ad : Nat → Nat} {W : zO} {M : mKt} (hM : nZ t0 X S0 ad W M S) {n h f2 p9 l9 dp : Nat} (hdep : M.1 407 = nI n) (hn : n ≤ 40) (hh : M.1 406 = nI h) (hph : p9 ≤ h) (hh9 : h ≤ 2720) (hhl9 : n < 40 → h + l9 ≤ 2720) (hf48 : f2 < 48) (hRd : oa W (200 + 12 * f2)) (hP : oi W (200 + 12 * f2) 702 = nI p9) (hL9 : oi W (200 + 12 * f2) 704 = nI l9) (hdp : M.1 411 = nI dp) (hdp4 : dp ≤ 40) : zMv l yX3_enterMeant (zws yX3_enterMeant cX3_enterMeant 2 none) { frames := 2, cells := 0, slots := 0, locals := 44 } N0 t0 D cy S [.ref (ad 14), .ref (ad (200 + 12 * f2))] (fun S' => (n = 40 ∧ nZ t0 X S0 ad W (va_up M.1 408 6, M.2) S') ∨ (n < 40 ∧ ∃ M', nZ t0 X S0 ad W M' S' ∧ enC M M' n f2 h p9 l9 dp)) 0 0 := by
  refine zMv.of (cc := cX3_enterMeant) (maxL := 2) (ret := none) (by decide) rfl (Nat.le_of_ble_eq_true rfl) ?_
  intro p e s m args below meth c F G hr hlk hnm
  refine r_aload_n F dX3_enterMeant_0 rfl ?_
  refine r_ifnonnull (tgt := 13) F dX3_enterMeant_1 (by decide) ?_
  refine r_aload_n F dX3_enterMeant_13 rfl ?_
  refine r_aload_n F dX3_enterMeant_14 rfl ?_
  refine c_Vv (ci := 4) F G (c_menter hM hdep hn hh hph hh9 hhl9 hf48 hRd hP hL9 hdp hdp4) (cwV 1 F.2.2.2.2 (zgV km_X3_97 ki_X3_enter ke_X3_X3_enter kn_X3 ko_X3_enter) rfl rfl rfl ⟨rfl, hd_yX3_enter⟩ ⟨Nat.le_of_ble_eq_true rfl, Nat.le_of_ble_eq_true rfl⟩) rfl (by decide) hM.A rfl rfl (Nat.le_of_ble_eq_true rfl) dX3_enterMeant_15 ⟨Nat.le_of_ble_eq_true rfl, Nat.le_of_ble_eq_true rfl⟩ (fun S15 h15 => ?_)
  exact e_vret F hr hlk h15 (by decide) (by decide) dX3_enterMeant_18
set_option maxRecDepth 100000 in
set_option maxHeartbeats 4000000 in
theorem c_mslot {l : Launch} {N0 t0 : Nat} {D : va_G} {cy : Nat → ClassId} {S : zS} {X : Nat → Prop} {S0 : zS} {ad : Nat → Nat} {W : zO} {M : mKt} (hM : nZ t0 X S0 ad W M S) {v : zV} {Fr : aF} {Fs : List aF} {U : aU} (hC : cRp v (fGo Fr (fa Fr + 1) :: Fs, U) M) {Ss : List Nat} (hW : cW v W Ss) (hs : sOK v Ss) (hA : vA v) (hK : kEq v) (hO : aOK v (Fr :: Fs, U)) (hk : fa Fr < cn v 1208 (ff Fr)) (hw : kw v (ff Fr) (fa Fr) = 32) (hsl : M.2.2.1 = some 38) : zMv l yX3_enterSlot (zws yX3_enterSlot cX3_enterSlot 5 none) { frames := 3, cells := 0, slots := 0, locals := 65 } N0 t0 D cy S [.ref (ad 14), .int (v.1 1210 (60 * ff Fr + fa Fr))] (fun S' => ∃ M', nZ t0 X S0 ad W M' S' ∧ cP v U M M' (aSp v Ss Fr Fs U)) 0 0 := by
  refine zMv.of (cc := cX3_enterSlot) (maxL := 5) (ret := none) (by decide) rfl (Nat.le_of_ble_eq_true rfl) ?_
  intro p e s m args below meth c F G hr hlk hnm
  obtain ⟨M0, eM0⟩ : ∃ M0, M0 = M := ⟨_, rfl⟩
  have hKp : mKp M0 M := by rw [eM0]; exact mKp.rf
  rw [← eM0]
  clear eM0
  have hF := hO.1.1
  have hf := hF.1
  have hv := hs.1
  have hf48 := hf.1
  have hRd := (hW.r hf).1
  have hsz := hs.sz hf
  have hlen : Fs.length + 1 ≤ 40 := hO.2.1
  have hU : U.2.1 ≤ 40 := hO.2.2
  have hbs := sC_b hs Fs _ hO.1.2
  have hfh : fh Fr + 0 ≤ fa Fr := hF.2.2.1
  have hp4 := (rg_1205 hs.1 hf.1).2
  have hl4 := (rg_1207 hs.1 hf.1).2
  have hsB : fBz v Fr Fs = sC v Fs + (cn v 1205 (ff Fr) + cn v 1207 (ff Fr)) := rfl
  have hB : fBz v Fr Fs + fh Fr ≤ 2719 := by omega
  have hw36 := hs.w hf hk
  have hg9 := hs.g hf hk
  have hpv : ∀ w n, kw v (ff Fr) (fa Fr) = w → ¬ w = 27 → n ≤ pp v (ff Fr / 8) w (v.1 1210 (60 * ff Fr + fa Fr)) → n ≤ fh Fr := fun w n e1 e2 e3 => by
    have h9 := hF.pv hs hk (by rw [e1]; exact e2)
    rw [e1] at h9
    omega
  have hp1 : 1 ≤ fh Fr := hpv _ 1 hw (by decide) (Nat.le_add_right 1 _)
  have hnS : Ss.length ≤ 48 := nD_len 48 Ss hs.2.2.2.1
  have hVL := (hW.n (M := M)).1
  obtain ⟨j9, q1, q2⟩ := hg9.2.2.2.2.2.1 hw
  obtain ⟨ej, ek⟩ := ka_of q2 (by omega)
  rw [ej]
  have hsl0 : M0.2.2.1 = some 38 := hKp.2.2.symm.trans hsl
  refine r_aload_n F dX3_enterSlot_0 rfl ?_
  refine c_Vl (ci := 4) F G (c_mpop hM.1 hM.2.1 hM.2.2 (h := fBz v Fr Fs + (fh Fr - 1)) (by rw [show M.1 406 = nI (fBz v Fr Fs + fh Fr) from hC.H, show fBz v Fr Fs + fh Fr = fBz v Fr Fs + (fh Fr - 1) + 1 from by omega]) (by omega)) (cwV 0 F.2.2.2.2 (zgV km_X3_128 ki_X3_pop ke_X3_X3_pop kn_X3 ko_X3_pop) rfl rfl rfl ⟨rfl, hd_yX3_pop⟩ ⟨Nat.le_of_ble_eq_true rfl, Nat.le_of_ble_eq_true rfl⟩) rfl (by decide) hM.A rfl rfl (Nat.le_of_ble_eq_true rfl) dX3_enterSlot_1 ⟨Nat.le_of_ble_eq_true rfl, Nat.le_of_ble_eq_true rfl⟩ (fun r1 S1 h1 => ?_)
  obtain ⟨h1a, h1b⟩ := h1
  have hM : nZ t0 X S0 ad W (mHt M (fBz v Fr Fs + (fh Fr - 1))) S1 := ⟨hM.1, hM.2.1, h1b⟩
  rw [show M.2.2.2.1 (fBz v Fr Fs + (fh Fr - 1)) = fv Fr (fh Fr - 1) from hC.va (j := fh Fr - 1) (show fh Fr - 1 < fh Fr by omega)] at h1a
  subst h1a
  have hC : cRp v (fDr (fGo Fr (fa Fr + 1)) 1 :: Fs, U) (mHt M (fBz v Fr Fs + (fh Fr - 1))) := hC.dr (m := 1) (show 1 ≤ fh Fr by omega)
  have hKp := hKp.ht (h := fBz v Fr Fs + (fh Fr - 1))
  generalize mHt M (fBz v Fr Fs + (fh Fr - 1)) = M at hM hC hKp
  have hVL := (hW.n (M := M)).1
  have hsl : M.2.2.1 = some 38 := hKp.2.2.trans hsl0
  refine r_lstore_n F dX3_enterSlot_4 (by decide) ?_
  refine r_aload_n F dX3_enterSlot_5 rfl ?_
  refine gm_slots F G hM hsl dX3_enterSlot_6 ?_
  refine r_ifnull F dX3_enterSlot_9 ?_
  refine r_lload_n F dX3_enterSlot_12 rfl ?_
  refine r_lconst (v := 1) F dX3_enterSlot_13 (by decide) ?_
  refine r_lcmp F dX3_enterSlot_14 ?_
  refine r_if_lt (tgt := 33) F dX3_enterSlot_15 (by decide) (fun c15 => ?_) (fun c15 => ?_)
  · refine r_aload_n F dX3_enterSlot_33 rfl ?_
    refine r_iconst (v := 4) F dX3_enterSlot_34 (by decide) ?_
    refine pm_end F G hM dX3_enterSlot_35 (fun S hM => ?_)
    refine e_vret F hr hlk ⟨_, hM, ?_⟩ (by decide) (by decide) dX3_enterSlot_38
    rw [aSp_32 hw, if_pos (Or.inl ((lg_cmp_lt _ _).mp c15))]
    exact cP.no (by decide) rfl hC hKp
  · refine r_lload_n F dX3_enterSlot_18 rfl ?_
    refine r_aload_n F dX3_enterSlot_19 rfl ?_
    refine gm_slots F G hM hsl dX3_enterSlot_20 ?_
    refine c_Fi (ci := 0) F G (k_ListSize (hVL.al hM.2.2 rfl rfl)) (va_cwF 0 F.2.2.2.2 (zgF km_X3_48 ke_Jx4a65c_Jxbd725_size ki_Jx4a65c_size_8abf5 kn_Jx4a65c ko_Jx4a65c_size_8abf5) rfl rfl rfl (G.2.2.2.2.1 (⟨"java/util/List", "size", "()I"⟩, yJx4a65c_size_8abf5) (List.mem_of_getElem? (i := 0) rfl)) hdF_size ⟨Nat.le_of_ble_eq_true rfl, Nat.le_of_ble_eq_true rfl⟩) rfl (by decide) (hVL.al hM.2.2 rfl rfl) rfl rfl (Nat.le_of_ble_eq_true rfl) dX3_enterSlot_23 ⟨Nat.le_of_ble_eq_true rfl, Nat.le_of_ble_eq_true rfl⟩ (fun r23 S23 h23 => ?_)
    obtain ⟨h23a, h23b⟩ := h23
    have h23c := h23b.symm
    subst h23c
    rw [hVL.z hM.2.2 rfl rfl] at h23a
    subst h23a
    refine r_i2l F dX3_enterSlot_28 ?_
    refine r_lcmp F dX3_enterSlot_29 ?_
    refine r_if_le (tgt := 39) F dX3_enterSlot_30 (by decide) (fun c30 => ?_) (fun c30 => ?_)
    · have hno : ¬ ((fv Fr (fh Fr - 1)) < 1 ∨ (Ss.length : Int) < (fv Fr (fh Fr - 1)).toInt) := fun h9 => by
        rcases h9 with h9 | h9
        · exact c15 ((lg_cmp_lt _ _).mpr h9)
        · have c9 := c30
          rw [lg_cmp_le, Int64.le_iff_toInt_le, i2l_n (by omega)] at c9
          omega
      obtain ⟨s1, s2, hgg1⟩ := slot_in hs hno
      have hx0 : ¬ (fv Fr (fh Fr - 1)) < 0 := fun h9 => by
        rw [Int64.lt_iff_toInt_lt] at h9
        have h8 : (fv Fr (fh Fr - 1)).toInt < 0 := h9
        omega
      have L2 := hVL.E hM.2.2 rfl rfl
      have gg9 := hVL.get hM.2.2 rfl (j := (fv Fr (fh Fr - 1)).toInt.toNat - 1) (by omega)
      refine r_aload_n F dX3_enterSlot_39 rfl ?_
      refine gm_slots F G hM hsl dX3_enterSlot_40 ?_
      refine r_lload_n F dX3_enterSlot_43 rfl ?_
      refine r_l2i F dX3_enterSlot_44 ?_
      refine r_iconst (v := 1) F dX3_enterSlot_45 (by decide) ?_
      refine r_isub F dX3_enterSlot_46 ?_
      rw [l2i_n hx0, show nI (fv Fr (fh Fr - 1)).toInt.toNat - 1 = nI ((fv Fr (fh Fr - 1)).toInt.toNat - 1) from by rw [nl1, nI_sub (by omega)]]
      refine c_Fq (ci := 0) F G (k_get (hVL.al hM.2.2 rfl rfl) L2 gg9.1 (hVL.z hM.2.2 rfl rfl) (by omega) gg9.2.1 gg9.2.2.1) (va_cwF 1 F.2.2.2.2 (zgF km_X3_54 ke_Jx4a65c_Jxbd725_get ki_Jx4a65c_get_915e3 kn_Jx4a65c ko_Jx4a65c_get_915e3) rfl rfl rfl (G.2.2.2.2.1 (⟨"java/util/List", "get", "(I)Ljava/lang/Object;"⟩, yJx4a65c_get_915e3) (List.mem_of_getElem? (i := 2) rfl)) hdF_get ⟨Nat.le_of_ble_eq_true rfl, Nat.le_of_ble_eq_true rfl⟩) rfl (by decide) (hVL.al hM.2.2 rfl rfl) rfl rfl (Nat.le_of_ble_eq_true rfl) dX3_enterSlot_47 ⟨Nat.le_of_ble_eq_true rfl, Nat.le_of_ble_eq_true rfl⟩ (fun r47 S47 h47 => ?_)
      obtain ⟨h47a, h47b⟩ := h47
      have h47c := h47b.symm
      subst h47c
      rw [gg9.2.2.2] at h47a
      subst h47a
      generalize hgd : Ss.getD ((fv Fr (fh Fr - 1)).toInt.toNat - 1) 0 = gg at hgg1
      refine r_cast (a := ad (200 + 12 * gg)) (ci := 7) F G (hM.r (hW.r hgg1).1 (kd_r gg hgg1.1).1) (by decide) rfl (List.mem_of_getElem? (i := 2) rfl) (zin kc_X3_15) dX3_enterSlot_52 ?_
      refine r_astore F dX3_enterSlot_55 (by decide) ?_
      refine r_aload F dX3_enterSlot_57 rfl ?_
      refine c_Vi (ci := 7) F G (c_Rsig hM.2.2 hW.b hs.1 hgg1.1 hgg1.2 rfl) (cwV 0 F.2.2.2.2 (zgV km_X3_209 ki_X6_signature ke_X6_X6_signature kn_X6 ko_X6_signature) rfl rfl rfl ⟨rfl, hd_yX6_signature⟩ ⟨Nat.le_of_ble_eq_true rfl, Nat.le_of_ble_eq_true rfl⟩) rfl (by decide) (hM.r (hW.r hgg1).1 (kd_r gg hgg1.1).1) rfl rfl (Nat.le_of_ble_eq_true rfl) dX3_enterSlot_59 ⟨Nat.le_of_ble_eq_true rfl, Nat.le_of_ble_eq_true rfl⟩ (fun r59 S59 h59 => ?_)
      obtain ⟨h59a, h59b⟩ := h59
      have h59c := h59b.symm
      subst h59c
      subst h59a
      have hsh9 : sh v gg ≤ 9 := by have r5 := (rg_1205 hs.1 hgg1.1).2; have r6 := (rg_1206 hs.1 hgg1.1).2; unfold sh; omega
      refine r_iload_n F dX3_enterSlot_62 rfl ?_
      refine r_icmp_eq (tgt := 74) F dX3_enterSlot_63 (by decide) (fun c63 => ?_) (fun c63 => ?_)
      · have hsa : sh v gg = ka v (ff Fr) (fa Fr) := by have c9 := c63; rw [nI_eq (by omega) (by omega)] at c9; exact c9
        have hpr := call_32 hs hw hsa hgg1
        have hpg : cn v 1205 gg ≤ fh Fr - 1 := by have h9 := hF.pv hs hk (by omega); rw [hpr.1] at h9; omega
        refine r_aload_n F dX3_enterSlot_74 rfl ?_
        refine r_aload F dX3_enterSlot_75 rfl ?_
        have e702 : oi W (200 + 12 * gg) 702 = nI (cn v 1205 gg) := (hW.r hgg1).2.2.2.1.trans (rg_1205 hs.1 hgg1.1).1
        have e704 : oi W (200 + 12 * gg) 704 = nI (cn v 1207 gg) := (hW.r hgg1).2.2.2.2.2.1.trans (rg_1207 hs.1 hgg1.1).1
        have hgl := (rg_1207 hs.1 hgg1.1).2
        refine c_Vv (ci := 4) F G (c_menter hM (n := Fs.length + 1) (h := fBz v Fr Fs + (fh Fr - 1)) (f2 := gg) (p9 := cn v 1205 gg) (l9 := cn v 1207 gg) (dp := U.2.1) hC.N hlen hC.H (by omega) (by omega) (by omega) hgg1.1 (hW.r hgg1).1 e702 e704 hC.2.2.2.2 hU) (cwV 1 F.2.2.2.2 (zgV km_X3_97 ki_X3_enter ke_X3_X3_enter kn_X3 ko_X3_enter) rfl rfl rfl ⟨rfl, hd_yX3_enter⟩ ⟨Nat.le_of_ble_eq_true rfl, Nat.le_of_ble_eq_true rfl⟩) rfl (by decide) hM.A rfl rfl (Nat.le_of_ble_eq_true rfl) dX3_enterSlot_77 ⟨Nat.le_of_ble_eq_true rfl, Nat.le_of_ble_eq_true rfl⟩ (fun S77 h77 => ?_)
        have hEE : ∃ M', nZ t0 X S0 ad W M' S77 ∧ cP v U M0 M' (aCl v (fDr (fGo Fr (fa Fr + 1)) 1) Fs U gg) := by
          rcases h77 with ⟨z1, z2⟩ | ⟨z1, M2, z2, z3⟩
          · exact ⟨_, z2, cP.cl (A9 := (Fr :: Fs, U)) hC hKp hpg (Or.inl ⟨z1, rfl⟩)⟩
          · exact ⟨M2, z2, cP.cl (A9 := (Fr :: Fs, U)) hC hKp hpg (Or.inr ⟨z1, z3⟩)⟩
        obtain ⟨M1, hM, hPP⟩ := hEE
        refine e_vret F hr hlk ⟨_, hM, ?_⟩ (by decide) (by decide) dX3_enterSlot_80
        rw [aSp_32 hw, if_neg hno, hgd, if_pos hsa]
        exact hPP
      · refine r_aload_n F dX3_enterSlot_66 rfl ?_
        refine r_iconst (v := 5) F dX3_enterSlot_67 (by decide) ?_
        refine pm_end F G hM dX3_enterSlot_68 (fun S hM => ?_)
        refine r_goto (tgt := 80) F dX3_enterSlot_71 (by decide) ?_
        refine e_vret F hr hlk ⟨_, hM, ?_⟩ (by decide) (by decide) dX3_enterSlot_80
        rw [aSp_32 hw, if_neg hno, hgd, if_neg (fun h9 => c63 (by rw [h9]))]
        exact cP.no (by decide) rfl hC hKp
    · refine r_aload_n F dX3_enterSlot_33 rfl ?_
      refine r_iconst (v := 4) F dX3_enterSlot_34 (by decide) ?_
      refine pm_end F G hM dX3_enterSlot_35 (fun S hM => ?_)
      refine e_vret F hr hlk ⟨_, hM, ?_⟩ (by decide) (by decide) dX3_enterSlot_38
      rw [aSp_32 hw, if_pos (Or.inr (by have c9 := c30; rw [lg_cmp_le, Int64.le_iff_toInt_le, i2l_n (by omega)] at c9; omega))]
      exact cP.no (by decide) rfl hC hKp
set_option maxRecDepth 100000 in
set_option maxHeartbeats 4000000 in
theorem c_mmove {l : Launch} {N0 t0 : Nat} {D : va_G} {cy : Nat → ClassId} {S : zS} {X : Nat → Prop} {S0 : zS} {ad : Nat → Nat} {W : zO} {M : mKt} (hM : nZ t0 X S0 ad W M S) {v : zV} {Fr : aF} {Fs : List aF} {U : aU} (hC : cRp v (fGo Fr (fa Fr + 1) :: Fs, U) M) {Ss : List Nat} (hW : cW v W Ss) (hs : sOK v Ss) (hA : vA v) (hK : kEq v) (hO : aOK v (Fr :: Fs, U)) (hk : fa Fr < cn v 1208 (ff Fr)) (hwr : kw v (ff Fr) (fa Fr) < 3 ∨ kw v (ff Fr) (fa Fr) = 17 ∨ kw v (ff Fr) (fa Fr) = 18 ∨ 33 ≤ kw v (ff Fr) (fa Fr)) : zMv l yX3_move (zws yX3_move cX3_move 4 none) { frames := 5, cells := 0, slots := 0, locals := 108 } N0 t0 D cy S [.ref (ad 14), .ref (ad (200 + 12 * ff Fr)), .int (nI (fa Fr))] (fun S' => ∃ M', nZ t0 X S0 ad W M' S' ∧ cP v U M M' (aSp v Ss Fr Fs U)) 0 0 := by
  refine zMv.of (cc := cX3_move) (maxL := 4) (ret := none) (by decide) rfl (Nat.le_of_ble_eq_true rfl) ?_
  intro p e s m args below meth c F G hr hlk hnm
  obtain ⟨M0, eM0⟩ : ∃ M0, M0 = M := ⟨_, rfl⟩
  have hKp : mKp M0 M := by rw [eM0]; exact mKp.rf
  rw [← eM0]
  clear eM0
  have hF := hO.1.1
  have hf := hF.1
  have hv := hs.1
  have hf48 := hf.1
  have hRd := (hW.r hf).1
  have hsz := hs.sz hf
  have hlen : Fs.length + 1 ≤ 40 := hO.2.1
  have hU : U.2.1 ≤ 40 := hO.2.2
  have hbs := sC_b hs Fs _ hO.1.2
  have hfh : fh Fr + 0 ≤ fa Fr := hF.2.2.1
  have hp4 := (rg_1205 hs.1 hf.1).2
  have hl4 := (rg_1207 hs.1 hf.1).2
  have hsB : fBz v Fr Fs = sC v Fs + (cn v 1205 (ff Fr) + cn v 1207 (ff Fr)) := rfl
  have hB : fBz v Fr Fs + fh Fr ≤ 2719 := by omega
  have hw36 := hs.w hf hk
  have hg9 := hs.g hf hk
  have hpv : ∀ w n, kw v (ff Fr) (fa Fr) = w → ¬ w = 27 → n ≤ pp v (ff Fr / 8) w (v.1 1210 (60 * ff Fr + fa Fr)) → n ≤ fh Fr := fun w n e1 e2 e3 => by
    have h9 := hF.pv hs hk (by rw [e1]; exact e2)
    rw [e1] at h9
    omega
  refine r_aload_n F dX3_move_0 rfl ?_
  refine gr_numbers F G hM hf48 hRd dX3_move_1 ?_
  refine r_iload_n F dX3_move_4 rfl ?_
  refine lr_numbers F G hM hf48 hRd (by omega) dX3_move_5 ?_
  rw [hW.nu hs hf hk]
  refine r_istore_n F dX3_move_6 (by decide) ?_
  refine r_aload_n F dX3_move_7 rfl ?_
  refine gr_words F G hM hf48 hRd dX3_move_8 ?_
  refine r_iload_n F dX3_move_11 rfl ?_
  refine lr_words F G hM hf48 hRd (by omega) dX3_move_12 ?_
  rw [hW.w hs hf hk]
  rcases (show (kw v (ff Fr) (fa Fr) = 0) ∨ (kw v (ff Fr) (fa Fr) = 1) ∨ (kw v (ff Fr) (fa Fr) = 2) ∨ (kw v (ff Fr) (fa Fr) = 35) ∨ (kw v (ff Fr) (fa Fr) = 17) ∨ (kw v (ff Fr) (fa Fr) = 18) ∨ (kw v (ff Fr) (fa Fr) = 33) ∨ (kw v (ff Fr) (fa Fr) = 34) by omega) with w13 | w13 | w13 | w13 | w13 | w13 | w13 | w13
  · refine r_lookup (off := 67) (tgt := 80) F dX3_move_13 (by decide) ((show ∀ w : Nat, w < 36 → (w = 0) → Op.lookupswitch.offset (#[(0, 67), (1, 76), (2, 101), (17, 126), (18, 133), (33, 141), (34, 154)] : Array (Int × Int)).toList (167 : Int) (nI w).toInt = (67 : Int) from by decide) (kw v (ff Fr) (fa Fr)) hw36 w13) (by decide) ?_
    have hw : kw v (ff Fr) (fa Fr) = 0 := w13
    refine r_aload_n F dX3_move_80 rfl ?_
    refine r_iload_n F dX3_move_81 rfl ?_
    refine r_i2l F dX3_move_82 ?_
    refine c_Vv (ci := 4) F G (c_mpush hM.1 hM.2.1 hM.2.2 (h := fBz v Fr Fs + fh Fr) (x := (v.1 1210 (60 * ff Fr + fa Fr)).toInt64) hC.H (by omega)) (cwV 1 F.2.2.2.2 (zgV km_X3_93 ki_X3_push ke_X3_X3_push kn_X3 ko_X3_push) rfl rfl rfl ⟨rfl, hd_yX3_push⟩ ⟨Nat.le_of_ble_eq_true rfl, Nat.le_of_ble_eq_true rfl⟩) rfl (by decide) hM.A rfl rfl (Nat.le_of_ble_eq_true rfl) dX3_move_83 ⟨Nat.le_of_ble_eq_true rfl, Nat.le_of_ble_eq_true rfl⟩ (fun S83 h83 => ?_)
    have hM : nZ t0 X S0 ad W (mPu M (fBz v Fr Fs + fh Fr) (v.1 1210 (60 * ff Fr + fa Fr)).toInt64) S83 := ⟨hM.1, hM.2.1, h83⟩
    have hC : cRp v (fPu (fGo Fr (fa Fr + 1)) (v.1 1210 (60 * ff Fr + fa Fr)).toInt64 :: Fs, U) (mPu M (fBz v Fr Fs + fh Fr) (v.1 1210 (60 * ff Fr + fa Fr)).toInt64) := hC.pu
    have hKp := hKp.pu (h := fBz v Fr Fs + fh Fr) (x := (v.1 1210 (60 * ff Fr + fa Fr)).toInt64)
    generalize mPu M (fBz v Fr Fs + fh Fr) (v.1 1210 (60 * ff Fr + fa Fr)).toInt64 = M at hM hC hKp
    refine r_goto (tgt := 187) F dX3_move_86 (by decide) ?_
    refine e_vret F hr hlk ⟨_, hM, ?_⟩ (by decide) (by decide) dX3_move_187
    rw [aSp_0 hw]
    exact cP.go hC hKp
  · refine r_lookup (off := 76) (tgt := 89) F dX3_move_13 (by decide) ((show ∀ w : Nat, w < 36 → (w = 1) → Op.lookupswitch.offset (#[(0, 67), (1, 76), (2, 101), (17, 126), (18, 133), (33, 141), (34, 154)] : Array (Int × Int)).toList (167 : Int) (nI w).toInt = (76 : Int) from by decide) (kw v (ff Fr) (fa Fr)) hw36 w13) (by decide) ?_
    have hw : kw v (ff Fr) (fa Fr) = 1 := w13
    obtain ⟨j9, q1, q2⟩ := hg9.1 (Or.inl hw)
    obtain ⟨ej, ek⟩ := ka_of q2 (by omega)
    refine r_aload_n F dX3_move_89 rfl ?_
    refine r_aload_n F dX3_move_90 rfl ?_
    refine gm_stack F G hM dX3_move_91 ?_
    refine r_aload_n F dX3_move_94 rfl ?_
    refine gm_floors F G hM dX3_move_95 ?_
    refine r_aload_n F dX3_move_98 rfl ?_
    refine gm_depthS F G hM hC.N dX3_move_99 ?_
    refine r_iconst (v := 1) F dX3_move_102 (by decide) ?_
    refine r_isub F dX3_move_103 ?_
    rw [show nI (Fs.length + 1) - 1 = nI Fs.length from by rw [nl1, nI_sub (by omega), Nat.add_sub_cancel]]
    refine lm_floors F G hM (by omega) dX3_move_104 ?_
    rw [show M.2.2.2.2.2.2.1 Fs.length = nI (sC v Fs) from hC.F1.2.2.1]
    refine r_iload_n F dX3_move_105 rfl ?_
    refine r_iadd F dX3_move_106 ?_
    rw [ej, nI_add]
    refine lm_stack F G hM (by omega) dX3_move_107 ?_
    rw [show M.2.2.2.1 (sC v Fs + ka v (ff Fr) (fa Fr)) = fc Fr (ka v (ff Fr) (fa Fr)) from hC.F1.2.2.2.1 _ (show ka v (ff Fr) (fa Fr) < cn v 1205 (ff Fr) + cn v 1207 (ff Fr) by omega)]
    refine c_Vv (ci := 4) F G (c_mpush hM.1 hM.2.1 hM.2.2 (h := fBz v Fr Fs + fh Fr) (x := (fc Fr (ka v (ff Fr) (fa Fr)))) hC.H (by omega)) (cwV 1 F.2.2.2.2 (zgV km_X3_93 ki_X3_push ke_X3_X3_push kn_X3 ko_X3_push) rfl rfl rfl ⟨rfl, hd_yX3_push⟩ ⟨Nat.le_of_ble_eq_true rfl, Nat.le_of_ble_eq_true rfl⟩) rfl (by decide) hM.A rfl rfl (Nat.le_of_ble_eq_true rfl) dX3_move_108 ⟨Nat.le_of_ble_eq_true rfl, Nat.le_of_ble_eq_true rfl⟩ (fun S108 h108 => ?_)
    have hM : nZ t0 X S0 ad W (mPu M (fBz v Fr Fs + fh Fr) (fc Fr (ka v (ff Fr) (fa Fr)))) S108 := ⟨hM.1, hM.2.1, h108⟩
    have hC : cRp v (fPu (fGo Fr (fa Fr + 1)) (fc Fr (ka v (ff Fr) (fa Fr))) :: Fs, U) (mPu M (fBz v Fr Fs + fh Fr) (fc Fr (ka v (ff Fr) (fa Fr)))) := hC.pu
    have hKp := hKp.pu (h := fBz v Fr Fs + fh Fr) (x := (fc Fr (ka v (ff Fr) (fa Fr))))
    generalize mPu M (fBz v Fr Fs + fh Fr) (fc Fr (ka v (ff Fr) (fa Fr))) = M at hM hC hKp
    refine r_goto (tgt := 187) F dX3_move_111 (by decide) ?_
    refine e_vret F hr hlk ⟨_, hM, ?_⟩ (by decide) (by decide) dX3_move_187
    rw [aSp_1 hw]
    exact cP.go hC hKp
  · refine r_lookup (off := 101) (tgt := 114) F dX3_move_13 (by decide) ((show ∀ w : Nat, w < 36 → (w = 2) → Op.lookupswitch.offset (#[(0, 67), (1, 76), (2, 101), (17, 126), (18, 133), (33, 141), (34, 154)] : Array (Int × Int)).toList (167 : Int) (nI w).toInt = (101 : Int) from by decide) (kw v (ff Fr) (fa Fr)) hw36 w13) (by decide) ?_
    have hw : kw v (ff Fr) (fa Fr) = 2 := w13
    obtain ⟨j9, q1, q2⟩ := hg9.1 (Or.inr hw)
    obtain ⟨ej, ek⟩ := ka_of q2 (by omega)
    have hp1 : 1 ≤ fh Fr := hpv _ 1 hw (by decide) (Nat.le_refl 1)
    refine r_aload_n F dX3_move_114 rfl ?_
    refine gm_stack F G hM dX3_move_115 ?_
    refine r_aload_n F dX3_move_118 rfl ?_
    refine gm_floors F G hM dX3_move_119 ?_
    refine r_aload_n F dX3_move_122 rfl ?_
    refine gm_depthS F G hM hC.N dX3_move_123 ?_
    refine r_iconst (v := 1) F dX3_move_126 (by decide) ?_
    refine r_isub F dX3_move_127 ?_
    rw [show nI (Fs.length + 1) - 1 = nI Fs.length from by rw [nl1, nI_sub (by omega), Nat.add_sub_cancel]]
    refine lm_floors F G hM (by omega) dX3_move_128 ?_
    rw [show M.2.2.2.2.2.2.1 Fs.length = nI (sC v Fs) from hC.F1.2.2.1]
    refine r_iload_n F dX3_move_129 rfl ?_
    refine r_iadd F dX3_move_130 ?_
    rw [ej, nI_add]
    refine r_aload_n F dX3_move_131 rfl ?_
    refine c_Vl (ci := 4) F G (c_mpop hM.1 hM.2.1 hM.2.2 (h := fBz v Fr Fs + (fh Fr - 1)) (by rw [show M.1 406 = nI (fBz v Fr Fs + fh Fr) from hC.H, show fBz v Fr Fs + fh Fr = fBz v Fr Fs + (fh Fr - 1) + 1 from by omega]) (by omega)) (cwV 0 F.2.2.2.2 (zgV km_X3_128 ki_X3_pop ke_X3_X3_pop kn_X3 ko_X3_pop) rfl rfl rfl ⟨rfl, hd_yX3_pop⟩ ⟨Nat.le_of_ble_eq_true rfl, Nat.le_of_ble_eq_true rfl⟩) rfl (by decide) hM.A rfl rfl (Nat.le_of_ble_eq_true rfl) dX3_move_132 ⟨Nat.le_of_ble_eq_true rfl, Nat.le_of_ble_eq_true rfl⟩ (fun r132 S132 h132 => ?_)
    obtain ⟨h132a, h132b⟩ := h132
    have hM : nZ t0 X S0 ad W (mHt M (fBz v Fr Fs + (fh Fr - 1))) S132 := ⟨hM.1, hM.2.1, h132b⟩
    rw [show M.2.2.2.1 (fBz v Fr Fs + (fh Fr - 1)) = fv Fr (fh Fr - 1) from hC.va (j := fh Fr - 1) (show fh Fr - 1 < fh Fr by omega)] at h132a
    subst h132a
    have hC : cRp v (fDr (fGo Fr (fa Fr + 1)) 1 :: Fs, U) (mHt M (fBz v Fr Fs + (fh Fr - 1))) := hC.dr (m := 1) (show 1 ≤ fh Fr by omega)
    have hKp := hKp.ht (h := fBz v Fr Fs + (fh Fr - 1))
    generalize mHt M (fBz v Fr Fs + (fh Fr - 1)) = M at hM hC hKp
    refine sm_stack F G hM (by omega) dX3_move_135 (fun S hM => ?_)
    have hC := hC.lc (i := ka v (ff Fr) (fa Fr)) (x := (fv Fr (fh Fr - 1))) (show ka v (ff Fr) (fa Fr) < cn v 1205 (ff Fr) + cn v 1207 (ff Fr) by omega)
    refine r_goto (tgt := 187) F dX3_move_136 (by decide) ?_
    refine e_vret F hr hlk ⟨_, hM, ?_⟩ (by decide) (by decide) dX3_move_187
    rw [aSp_2 hw]
    exact cP.go hC ⟨hKp.1, hKp.2.1, hKp.2.2⟩
  · refine r_lookup (off := 167) (tgt := 180) F dX3_move_13 (by decide) ((show ∀ w : Nat, w < 36 → (w = 35) → Op.lookupswitch.offset (#[(0, 67), (1, 76), (2, 101), (17, 126), (18, 133), (33, 141), (34, 154)] : Array (Int × Int)).toList (167 : Int) (nI w).toInt = (167 : Int) from by decide) (kw v (ff Fr) (fa Fr)) hw36 w13) (by decide) ?_
    have hw : kw v (ff Fr) (fa Fr) = 35 := w13
    refine r_aload_n F dX3_move_180 rfl ?_
    refine r_ldcL (v := 1024) F (zin kv_X3_174) dX3_move_181 ?_
    refine c_Vv (ci := 4) F G (c_mpush hM.1 hM.2.1 hM.2.2 (h := fBz v Fr Fs + fh Fr) (x := 1024) hC.H (by omega)) (cwV 1 F.2.2.2.2 (zgV km_X3_93 ki_X3_push ke_X3_X3_push kn_X3 ko_X3_push) rfl rfl rfl ⟨rfl, hd_yX3_push⟩ ⟨Nat.le_of_ble_eq_true rfl, Nat.le_of_ble_eq_true rfl⟩) rfl (by decide) hM.A rfl rfl (Nat.le_of_ble_eq_true rfl) dX3_move_184 ⟨Nat.le_of_ble_eq_true rfl, Nat.le_of_ble_eq_true rfl⟩ (fun S184 h184 => ?_)
    have hM : nZ t0 X S0 ad W (mPu M (fBz v Fr Fs + fh Fr) 1024) S184 := ⟨hM.1, hM.2.1, h184⟩
    have hC : cRp v (fPu (fGo Fr (fa Fr + 1)) 1024 :: Fs, U) (mPu M (fBz v Fr Fs + fh Fr) 1024) := hC.pu
    have hKp := hKp.pu (h := fBz v Fr Fs + fh Fr) (x := 1024)
    generalize mPu M (fBz v Fr Fs + fh Fr) 1024 = M at hM hC hKp
    refine e_vret F hr hlk ⟨_, hM, ?_⟩ (by decide) (by decide) dX3_move_187
    rw [aSp_35 hw]
    exact cP.go hC hKp
  · refine r_lookup (off := 126) (tgt := 139) F dX3_move_13 (by decide) ((show ∀ w : Nat, w < 36 → (w = 17) → Op.lookupswitch.offset (#[(0, 67), (1, 76), (2, 101), (17, 126), (18, 133), (33, 141), (34, 154)] : Array (Int × Int)).toList (167 : Int) (nI w).toInt = (126 : Int) from by decide) (kw v (ff Fr) (fa Fr)) hw36 w13) (by decide) ?_
    have hw : kw v (ff Fr) (fa Fr) = 17 := w13
    have hp3 : 3 ≤ fh Fr := hpv _ 3 hw (by decide) (Nat.le_refl 3)
    refine r_aload_n F dX3_move_139 rfl ?_
    refine c_Vv (ci := 4) F G (c_mselect hM (Fr := (fGo Fr (fa Fr + 1))) hC hB hp3) (cwV 0 F.2.2.2.2 (zgV km_X3_164 ki_X3_select ke_X3_X3_select kn_X3 ko_X3_select) rfl rfl rfl ⟨rfl, hd_yX3_select⟩ ⟨Nat.le_of_ble_eq_true rfl, Nat.le_of_ble_eq_true rfl⟩) rfl (by decide) hM.A rfl rfl (Nat.le_of_ble_eq_true rfl) dX3_move_140 ⟨Nat.le_of_ble_eq_true rfl, Nat.le_of_ble_eq_true rfl⟩ (fun S140 h140 => ?_)
    obtain ⟨M1, hM, hC, hKp2⟩ := h140
    have hKp := hKp.tr hKp2
    refine r_goto (tgt := 187) F dX3_move_143 (by decide) ?_
    refine e_vret F hr hlk ⟨_, hM, ?_⟩ (by decide) (by decide) dX3_move_187
    rw [aSp_17 hw]
    exact cP.go hC hKp
  · refine r_lookup (off := 133) (tgt := 146) F dX3_move_13 (by decide) ((show ∀ w : Nat, w < 36 → (w = 18) → Op.lookupswitch.offset (#[(0, 67), (1, 76), (2, 101), (17, 126), (18, 133), (33, 141), (34, 154)] : Array (Int × Int)).toList (167 : Int) (nI w).toInt = (133 : Int) from by decide) (kw v (ff Fr) (fa Fr)) hw36 w13) (by decide) ?_
    have hw : kw v (ff Fr) (fa Fr) = 18 := w13
    have hp1 : 1 ≤ fh Fr := hpv _ 1 hw (by decide) (Nat.le_refl 1)
    refine r_aload_n F dX3_move_146 rfl ?_
    refine c_Vl (ci := 4) F G (c_mpop hM.1 hM.2.1 hM.2.2 (h := fBz v Fr Fs + (fh Fr - 1)) (by rw [show M.1 406 = nI (fBz v Fr Fs + fh Fr) from hC.H, show fBz v Fr Fs + fh Fr = fBz v Fr Fs + (fh Fr - 1) + 1 from by omega]) (by omega)) (cwV 0 F.2.2.2.2 (zgV km_X3_128 ki_X3_pop ke_X3_X3_pop kn_X3 ko_X3_pop) rfl rfl rfl ⟨rfl, hd_yX3_pop⟩ ⟨Nat.le_of_ble_eq_true rfl, Nat.le_of_ble_eq_true rfl⟩) rfl (by decide) hM.A rfl rfl (Nat.le_of_ble_eq_true rfl) dX3_move_147 ⟨Nat.le_of_ble_eq_true rfl, Nat.le_of_ble_eq_true rfl⟩ (fun r147 S147 h147 => ?_)
    obtain ⟨h147a, h147b⟩ := h147
    have hM : nZ t0 X S0 ad W (mHt M (fBz v Fr Fs + (fh Fr - 1))) S147 := ⟨hM.1, hM.2.1, h147b⟩
    rw [show M.2.2.2.1 (fBz v Fr Fs + (fh Fr - 1)) = fv Fr (fh Fr - 1) from hC.va (j := fh Fr - 1) (show fh Fr - 1 < fh Fr by omega)] at h147a
    subst h147a
    have hC : cRp v (fDr (fGo Fr (fa Fr + 1)) 1 :: Fs, U) (mHt M (fBz v Fr Fs + (fh Fr - 1))) := hC.dr (m := 1) (show 1 ≤ fh Fr by omega)
    have hKp := hKp.ht (h := fBz v Fr Fs + (fh Fr - 1))
    generalize mHt M (fBz v Fr Fs + (fh Fr - 1)) = M at hM hC hKp
    first | refine r_pop2_11 F dX3_move_150 rfl rfl ?_ | refine r_pop2_2 F dX3_move_150 rfl ?_
    refine r_goto (tgt := 187) F dX3_move_151 (by decide) ?_
    refine e_vret F hr hlk ⟨_, hM, ?_⟩ (by decide) (by decide) dX3_move_187
    rw [aSp_18 hw]
    exact cP.go hC hKp
  · refine r_lookup (off := 141) (tgt := 154) F dX3_move_13 (by decide) ((show ∀ w : Nat, w < 36 → (w = 33) → Op.lookupswitch.offset (#[(0, 67), (1, 76), (2, 101), (17, 126), (18, 133), (33, 141), (34, 154)] : Array (Int × Int)).toList (167 : Int) (nI w).toInt = (141 : Int) from by decide) (kw v (ff Fr) (fa Fr)) hw36 w13) (by decide) ?_
    have hw : kw v (ff Fr) (fa Fr) = 33 := w13
    obtain ⟨j9, q1, q2, q3⟩ := hg9.2.2.2.2.2.2 hw
    have hj16 := (rg_1204 hv (k := ff Fr / 8) (by omega)).2
    obtain ⟨ej, ek⟩ := ka_of q2 (by omega)
    have hy : (16 * (ff Fr / 8) + ka v (ff Fr) (fa Fr)) < 96 := by omega
    have ht9 : (16 * (ff Fr / 8) + ka v (ff Fr) (fa Fr)) % 16 < cn v 1204 ((16 * (ff Fr / 8) + ka v (ff Fr) (fa Fr)) / 16) := by rw [show (16 * (ff Fr / 8) + ka v (ff Fr) (fa Fr)) / 16 = ff Fr / 8 by omega]; omega
    rw [← ek] at q1 q3
    refine r_aload_n F dX3_move_154 rfl ?_
    refine r_aload_n F dX3_move_155 rfl ?_
    refine r_iload_n F dX3_move_156 rfl ?_
    refine c_Vi (ci := 7) F G (c_addressOf hM.2.2 hW.b hv hs.2.1 hW.s hW.a hK hA (i := ka v (ff Fr) (fa Fr)) (fun _ h9 => absurd (q3.symm.trans h9) (by decide)) hf.1 hf.2 rfl (by omega) q1 ej) (cwV 1 F.2.2.2.2 (zgV km_X3_167 ki_X6_addressOf ke_X6_X6_addressOf kn_X6 ko_X6_addressOf) rfl rfl rfl ⟨rfl, hd_yX6_addressOf⟩ ⟨Nat.le_of_ble_eq_true rfl, Nat.le_of_ble_eq_true rfl⟩) rfl (by decide) (hM.r hRd (kd_r _ hf48).1) rfl rfl (Nat.le_of_ble_eq_true rfl) dX3_move_157 ⟨Nat.le_of_ble_eq_true rfl, Nat.le_of_ble_eq_true rfl⟩ (fun r157 S157 h157 => ?_)
    obtain ⟨h157a, h157b⟩ := h157
    have h157c := h157b.symm
    subst h157c
    subst h157a
    refine r_i2l F dX3_move_160 ?_
    refine c_Vv (ci := 4) F G (c_mpush hM.1 hM.2.1 hM.2.2 (h := fBz v Fr Fs + fh Fr) (x := (nI (aO v (16 * (ff Fr / 8) + ka v (ff Fr) (fa Fr)))).toInt64) hC.H (by omega)) (cwV 1 F.2.2.2.2 (zgV km_X3_93 ki_X3_push ke_X3_X3_push kn_X3 ko_X3_push) rfl rfl rfl ⟨rfl, hd_yX3_push⟩ ⟨Nat.le_of_ble_eq_true rfl, Nat.le_of_ble_eq_true rfl⟩) rfl (by decide) hM.A rfl rfl (Nat.le_of_ble_eq_true rfl) dX3_move_161 ⟨Nat.le_of_ble_eq_true rfl, Nat.le_of_ble_eq_true rfl⟩ (fun S161 h161 => ?_)
    have hM : nZ t0 X S0 ad W (mPu M (fBz v Fr Fs + fh Fr) (nI (aO v (16 * (ff Fr / 8) + ka v (ff Fr) (fa Fr)))).toInt64) S161 := ⟨hM.1, hM.2.1, h161⟩
    have hC : cRp v (fPu (fGo Fr (fa Fr + 1)) (nI (aO v (16 * (ff Fr / 8) + ka v (ff Fr) (fa Fr)))).toInt64 :: Fs, U) (mPu M (fBz v Fr Fs + fh Fr) (nI (aO v (16 * (ff Fr / 8) + ka v (ff Fr) (fa Fr)))).toInt64) := hC.pu
    have hKp := hKp.pu (h := fBz v Fr Fs + fh Fr) (x := (nI (aO v (16 * (ff Fr / 8) + ka v (ff Fr) (fa Fr)))).toInt64)
    generalize mPu M (fBz v Fr Fs + fh Fr) (nI (aO v (16 * (ff Fr / 8) + ka v (ff Fr) (fa Fr)))).toInt64 = M at hM hC hKp
    refine r_goto (tgt := 187) F dX3_move_164 (by decide) ?_
    refine e_vret F hr hlk ⟨_, hM, ?_⟩ (by decide) (by decide) dX3_move_187
    rw [aSp_33 hw]
    exact cP.go hC hKp
  · refine r_lookup (off := 154) (tgt := 167) F dX3_move_13 (by decide) ((show ∀ w : Nat, w < 36 → (w = 34) → Op.lookupswitch.offset (#[(0, 67), (1, 76), (2, 101), (17, 126), (18, 133), (33, 141), (34, 154)] : Array (Int × Int)).toList (167 : Int) (nI w).toInt = (154 : Int) from by decide) (kw v (ff Fr) (fa Fr)) hw36 w13) (by decide) ?_
    have hw : kw v (ff Fr) (fa Fr) = 34 := w13
    obtain ⟨j9, q1, q2, q3⟩ := hg9.2.2.2.2.1 (Or.inr hw)
    have hj16 := (rg_1204 hv (k := ff Fr / 8) (by omega)).2
    obtain ⟨ej, ek⟩ := ka_of q2 (by omega)
    have hy : (16 * (ff Fr / 8) + ka v (ff Fr) (fa Fr)) < 96 := by omega
    have ht9 : (16 * (ff Fr / 8) + ka v (ff Fr) (fa Fr)) % 16 < cn v 1204 ((16 * (ff Fr / 8) + ka v (ff Fr) (fa Fr)) / 16) := by rw [show (16 * (ff Fr / 8) + ka v (ff Fr) (fa Fr)) / 16 = ff Fr / 8 by omega]; omega
    rw [← ek] at q1 q3
    refine r_aload_n F dX3_move_167 rfl ?_
    refine r_aload_n F dX3_move_168 rfl ?_
    refine r_iload_n F dX3_move_169 rfl ?_
    refine c_Vi (ci := 7) F G (c_slotOf hM.2.2 hW.b hv hs.2.1 hW.s hW.n hA (i := ka v (ff Fr) (fa Fr)) hf.1 hf.2 rfl (by omega) q1 ej) (cwV 1 F.2.2.2.2 (zgV km_X3_171 ki_X6_slotOf ke_X6_X6_slotOf kn_X6 ko_X6_slotOf) rfl rfl rfl ⟨rfl, hd_yX6_slotOf⟩ ⟨Nat.le_of_ble_eq_true rfl, Nat.le_of_ble_eq_true rfl⟩) rfl (by decide) (hM.r hRd (kd_r _ hf48).1) rfl rfl (Nat.le_of_ble_eq_true rfl) dX3_move_170 ⟨Nat.le_of_ble_eq_true rfl, Nat.le_of_ble_eq_true rfl⟩ (fun r170 S170 h170 => ?_)
    obtain ⟨h170a, h170b⟩ := h170
    have h170c := h170b.symm
    subst h170c
    rw [tgt_fO (fun z hz => (hK _ hy ht9 z hz).trans q3) (fun _ => q3)] at h170a
    subst h170a
    refine r_i2l F dX3_move_173 ?_
    refine c_Vv (ci := 4) F G (c_mpush hM.1 hM.2.1 hM.2.2 (h := fBz v Fr Fs + fh Fr) (x := (nI (slN Ss (fO v (16 * (ff Fr / 8) + ka v (ff Fr) (fa Fr))))).toInt64) hC.H (by omega)) (cwV 1 F.2.2.2.2 (zgV km_X3_93 ki_X3_push ke_X3_X3_push kn_X3 ko_X3_push) rfl rfl rfl ⟨rfl, hd_yX3_push⟩ ⟨Nat.le_of_ble_eq_true rfl, Nat.le_of_ble_eq_true rfl⟩) rfl (by decide) hM.A rfl rfl (Nat.le_of_ble_eq_true rfl) dX3_move_174 ⟨Nat.le_of_ble_eq_true rfl, Nat.le_of_ble_eq_true rfl⟩ (fun S174 h174 => ?_)
    have hM : nZ t0 X S0 ad W (mPu M (fBz v Fr Fs + fh Fr) (nI (slN Ss (fO v (16 * (ff Fr / 8) + ka v (ff Fr) (fa Fr))))).toInt64) S174 := ⟨hM.1, hM.2.1, h174⟩
    have hC : cRp v (fPu (fGo Fr (fa Fr + 1)) (nI (slN Ss (fO v (16 * (ff Fr / 8) + ka v (ff Fr) (fa Fr))))).toInt64 :: Fs, U) (mPu M (fBz v Fr Fs + fh Fr) (nI (slN Ss (fO v (16 * (ff Fr / 8) + ka v (ff Fr) (fa Fr))))).toInt64) := hC.pu
    have hKp := hKp.pu (h := fBz v Fr Fs + fh Fr) (x := (nI (slN Ss (fO v (16 * (ff Fr / 8) + ka v (ff Fr) (fa Fr))))).toInt64)
    generalize mPu M (fBz v Fr Fs + fh Fr) (nI (slN Ss (fO v (16 * (ff Fr / 8) + ka v (ff Fr) (fa Fr))))).toInt64 = M at hM hC hKp
    refine r_goto (tgt := 187) F dX3_move_177 (by decide) ?_
    refine e_vret F hr hlk ⟨_, hM, ?_⟩ (by decide) (by decide) dX3_move_187
    rw [aSp_34 hw]
    exact cP.go hC hKp
set_option maxRecDepth 100000 in
set_option maxHeartbeats 4000000 in
theorem c_mstep {l : Launch} {N0 t0 : Nat} {D : va_G} {cy : Nat → ClassId} {S : zS} {X : Nat → Prop} {S0 : zS} {ad : Nat → Nat} {W : zO} {M : mKt} (hM : nZ t0 X S0 ad W M S) {v : zV} {Fr : aF} {Fs : List aF} {U : aU} (hC : cRp v (Fr :: Fs, U) M) {Ss : List Nat} (hW : cW v W Ss) (hs : sOK v Ss) (hA : vA v) (hK : kEq v) (hO : aOK v (Fr :: Fs, U)) (hk : fa Fr < cn v 1208 (ff Fr)) (hsl : M.2.2.1 = some 38) : zMv l yX3_step (zws yX3_step cX3_step 4 none) { frames := 6, cells := 0, slots := 0, locals := 131 } N0 t0 D cy S [.ref (ad 14)] (fun S' => ∃ M', nZ t0 X S0 ad W M' S' ∧ cP v U M M' (aSp v Ss Fr Fs U)) 0 0 := by
  refine zMv.of (cc := cX3_step) (maxL := 4) (ret := none) (by decide) rfl (Nat.le_of_ble_eq_true rfl) ?_
  intro p e s m args below meth c F G hr hlk hnm
  obtain ⟨M0, eM0⟩ : ∃ M0, M0 = M := ⟨_, rfl⟩
  have hKp : mKp M0 M := by rw [eM0]; exact mKp.rf
  rw [← eM0]
  clear eM0
  have hF := hO.1.1
  have hf := hF.1
  have hv := hs.1
  have hf48 := hf.1
  have hRd := (hW.r hf).1
  have hsz := hs.sz hf
  have hlen : Fs.length + 1 ≤ 40 := hO.2.1
  have hU : U.2.1 ≤ 40 := hO.2.2
  have hbs := sC_b hs Fs _ hO.1.2
  have hfh : fh Fr + 0 ≤ fa Fr := hF.2.2.1
  have hp4 := (rg_1205 hs.1 hf.1).2
  have hl4 := (rg_1207 hs.1 hf.1).2
  have hsB : fBz v Fr Fs = sC v Fs + (cn v 1205 (ff Fr) + cn v 1207 (ff Fr)) := rfl
  have hB : fBz v Fr Fs + fh Fr ≤ 2719 := by omega
  have hw36 := hs.w hf hk
  have hg9 := hs.g hf hk
  have hpv : ∀ w n, kw v (ff Fr) (fa Fr) = w → ¬ w = 27 → n ≤ pp v (ff Fr / 8) w (v.1 1210 (60 * ff Fr + fa Fr)) → n ≤ fh Fr := fun w n e1 e2 e3 => by
    have h9 := hF.pv hs hk (by rw [e1]; exact e2)
    rw [e1] at h9
    omega
  refine r_aload_n F dX3_step_0 rfl ?_
  refine gm_routines F G hM dX3_step_1 ?_
  refine r_aload_n F dX3_step_4 rfl ?_
  refine gm_depthS F G hM hC.N dX3_step_5 ?_
  refine r_iconst (v := 1) F dX3_step_8 (by decide) ?_
  refine r_isub F dX3_step_9 ?_
  rw [show nI (Fs.length + 1) - 1 = nI Fs.length from by rw [nl1, nI_sub (by omega), Nat.add_sub_cancel]]
  refine lm_routines F G hM (by omega) hC.F1.1 dX3_step_10 ?_
  refine r_astore_n F dX3_step_11 (by decide) ?_
  refine r_aload_n F dX3_step_12 rfl ?_
  refine gm_nexts F G hM dX3_step_13 ?_
  refine r_aload_n F dX3_step_16 rfl ?_
  refine gm_depthS F G hM hC.N dX3_step_17 ?_
  refine r_iconst (v := 1) F dX3_step_20 (by decide) ?_
  refine r_isub F dX3_step_21 ?_
  rw [show nI (Fs.length + 1) - 1 = nI Fs.length from by rw [nl1, nI_sub (by omega), Nat.add_sub_cancel]]
  refine lm_nexts F G hM (by omega) dX3_step_22 ?_
  rw [show M.2.2.2.2.2.1 Fs.length = nI (fa Fr) from hC.F1.2.1]
  refine r_istore_n F dX3_step_23 (by decide) ?_
  refine r_aload_n F dX3_step_24 rfl ?_
  refine gr_words F G hM hf48 hRd dX3_step_25 ?_
  refine r_iload_n F dX3_step_28 rfl ?_
  refine lr_words F G hM hf48 hRd (by omega) dX3_step_29 ?_
  rw [hW.w hs hf hk]
  refine r_istore_n F dX3_step_30 (by decide) ?_
  refine r_aload_n F dX3_step_31 rfl ?_
  refine gm_nexts F G hM dX3_step_32 ?_
  refine r_aload_n F dX3_step_35 rfl ?_
  refine gm_depthS F G hM hC.N dX3_step_36 ?_
  refine r_iconst (v := 1) F dX3_step_39 (by decide) ?_
  refine r_isub F dX3_step_40 ?_
  rw [show nI (Fs.length + 1) - 1 = nI Fs.length from by rw [nl1, nI_sub (by omega), Nat.add_sub_cancel]]
  refine r_iload_n F dX3_step_41 rfl ?_
  refine r_iconst (v := 1) F dX3_step_42 (by decide) ?_
  refine r_iadd F dX3_step_43 ?_
  rw [show nI (fa Fr) + 1 = nI (fa Fr + 1) from nI_add _ 1]
  refine sm_nexts F G hM (by omega) dX3_step_44 (fun S hM => ?_)
  have hC := hC.go (k := fa Fr + 1)
  have hKp : mKp M0 (M.1, M.2.1, M.2.2.1, M.2.2.2.1, M.2.2.2.2.1, upd M.2.2.2.2.2.1 Fs.length (nI (fa Fr + 1)), M.2.2.2.2.2.2) := ⟨hKp.1, hKp.2.1, hKp.2.2⟩
  have hsl : (M.1, M.2.1, M.2.2.1, M.2.2.2.1, M.2.2.2.2.1, upd M.2.2.2.2.2.1 Fs.length (nI (fa Fr + 1)), M.2.2.2.2.2.2).2.2.1 = some 38 := hsl
  generalize (M.1, M.2.1, M.2.2.1, M.2.2.2.1, M.2.2.2.2.1, upd M.2.2.2.2.2.1 Fs.length (nI (fa Fr + 1)), M.2.2.2.2.2.2) = M at hM hC hKp hsl
  rcases (show (0 ≤ kw v (ff Fr) (fa Fr) ∧ kw v (ff Fr) (fa Fr) ≤ 2) ∨ (3 ≤ kw v (ff Fr) (fa Fr) ∧ kw v (ff Fr) (fa Fr) ≤ 16) ∨ (17 ≤ kw v (ff Fr) (fa Fr) ∧ kw v (ff Fr) (fa Fr) ≤ 18) ∨ (kw v (ff Fr) (fa Fr) = 19) ∨ (kw v (ff Fr) (fa Fr) = 20) ∨ (kw v (ff Fr) (fa Fr) = 21) ∨ (kw v (ff Fr) (fa Fr) = 22) ∨ (23 ≤ kw v (ff Fr) (fa Fr) ∧ kw v (ff Fr) (fa Fr) ≤ 30) ∨ (kw v (ff Fr) (fa Fr) = 31) ∨ (kw v (ff Fr) (fa Fr) = 32) ∨ (33 ≤ kw v (ff Fr) (fa Fr) ∧ kw v (ff Fr) (fa Fr) ≤ 35) by omega) with w45 | w45 | w45 | w45 | w45 | w45 | w45 | w45 | w45 | w45 | w45
  · refine r_iload_n F dX3_step_45 rfl ?_
    refine r_iconst (v := 3) F dX3_step_46 (by decide) ?_
    refine r_icmp_lt (tgt := 64) F dX3_step_47 (by decide) (fun _ => ?_) (fun h9 => absurd (by rw [nl3, nI_ltI (by omega) (by omega)]; omega) h9)
    refine r_iload_n F dX3_step_64 rfl ?_
    refine r_bipush (v := 19) F dX3_step_65 (by decide) ?_
    refine r_icmp_lt (tgt := 90) F dX3_step_67 (by decide) (fun _ => ?_) (fun h9 => absurd (by rw [nl19, nI_ltI (by omega) (by omega)]; omega) h9)
    refine r_iload_n F dX3_step_90 rfl ?_
    refine r_bipush (v := 23) F dX3_step_91 (by decide) ?_
    refine r_icmp_lt (tgt := 111) F dX3_step_93 (by decide) (fun _ => ?_) (fun h9 => absurd (by rw [nl23, nI_ltI (by omega) (by omega)]; omega) h9)
    refine r_iload_n F dX3_step_111 rfl ?_
    refine r_bipush (v := 31) F dX3_step_112 (by decide) ?_
    refine r_icmp_ne (tgt := 129) F dX3_step_114 (by decide) (fun _ => ?_) (fun h9 => absurd h9 (by rw [nl31, nI_eq (by omega) (by omega)]; omega))
    refine r_iload_n F dX3_step_129 rfl ?_
    refine r_bipush (v := 32) F dX3_step_130 (by decide) ?_
    refine r_icmp_ne (tgt := 148) F dX3_step_132 (by decide) (fun _ => ?_) (fun h9 => absurd h9 (by rw [nl32, nI_eq (by omega) (by omega)]; omega))
    refine r_aload_n F dX3_step_148 rfl ?_
    refine r_aload_n F dX3_step_149 rfl ?_
    refine r_iload_n F dX3_step_150 rfl ?_
    refine c_Vv (ci := 4) F G (c_mmove hM hC hW hs hA hK hO hk (by omega)) (cwV 2 F.2.2.2.2 (zgV km_X3_161 ki_X3_move ke_X3_X3_move kn_X3 ko_X3_move) rfl rfl rfl ⟨rfl, hd_yX3_move⟩ ⟨Nat.le_of_ble_eq_true rfl, Nat.le_of_ble_eq_true rfl⟩) rfl (by decide) hM.A rfl rfl (Nat.le_of_ble_eq_true rfl) dX3_step_151 ⟨Nat.le_of_ble_eq_true rfl, Nat.le_of_ble_eq_true rfl⟩ (fun S151 h151 => ?_)
    obtain ⟨M1, hM, hPP⟩ := h151
    refine e_vret F hr hlk ⟨_, hM, ?_⟩ (by decide) (by decide) dX3_step_154
    exact cP.tr hKp hPP
  · have hp2 : 2 ≤ fh Fr := hpv _ 2 rfl (by omega) (by rw [(pp_t (by omega) (by omega)).1]; exact ((show ∀ w, w < 36 → 3 ≤ w ∧ w ≤ 16 → 2 ≤ pTb.getD w 0 by decide) _ hw36 w45))
    refine r_iload_n F dX3_step_45 rfl ?_
    refine r_iconst (v := 3) F dX3_step_46 (by decide) ?_
    refine r_icmp_lt (tgt := 64) F dX3_step_47 (by decide) (fun h9 => absurd h9 (by rw [nl3, nI_ltI (by omega) (by omega)]; omega)) (fun _ => ?_)
    refine r_iload_n F dX3_step_50 rfl ?_
    refine r_bipush (v := 16) F dX3_step_51 (by decide) ?_
    refine r_icmp_gt (tgt := 64) F dX3_step_53 (by decide) (fun h9 => absurd h9 (by rw [nl16, nI_ltI (by omega) (by omega)]; omega)) (fun _ => ?_)
    refine r_aload_n F dX3_step_56 rfl ?_
    refine r_iload_n F dX3_step_57 rfl ?_
    refine c_Vv (ci := 4) F G (c_mreckon hM (Fr := (fGo Fr (fa Fr + 1))) hC hB (w := kw v (ff Fr) (fa Fr)) (A9 := (Fr :: Fs, U)) w45.1 w45.2 hp2) (cwV 1 F.2.2.2.2 (zgV km_X3_137 ki_X3_reckon ke_X3_X3_reckon kn_X3 ko_X3_reckon) rfl rfl rfl ⟨rfl, hd_yX3_reckon⟩ ⟨Nat.le_of_ble_eq_true rfl, Nat.le_of_ble_eq_true rfl⟩) rfl (by decide) hM.A rfl rfl (Nat.le_of_ble_eq_true rfl) dX3_step_58 ⟨Nat.le_of_ble_eq_true rfl, Nat.le_of_ble_eq_true rfl⟩ (fun S58 h58 => ?_)
    obtain ⟨M1, hM, hPP⟩ := h58
    refine r_goto (tgt := 154) F dX3_step_61 (by decide) ?_
    refine e_vret F hr hlk ⟨_, hM, ?_⟩ (by decide) (by decide) dX3_step_154
    rw [aSp_r w45]
    exact cP.tr hKp hPP
  · refine r_iload_n F dX3_step_45 rfl ?_
    refine r_iconst (v := 3) F dX3_step_46 (by decide) ?_
    refine r_icmp_lt (tgt := 64) F dX3_step_47 (by decide) (fun h9 => absurd h9 (by rw [nl3, nI_ltI (by omega) (by omega)]; omega)) (fun _ => ?_)
    refine r_iload_n F dX3_step_50 rfl ?_
    refine r_bipush (v := 16) F dX3_step_51 (by decide) ?_
    refine r_icmp_gt (tgt := 64) F dX3_step_53 (by decide) (fun _ => ?_) (fun h9 => absurd (by rw [nl16, nI_ltI (by omega) (by omega)]; omega) h9)
    refine r_iload_n F dX3_step_64 rfl ?_
    refine r_bipush (v := 19) F dX3_step_65 (by decide) ?_
    refine r_icmp_lt (tgt := 90) F dX3_step_67 (by decide) (fun _ => ?_) (fun h9 => absurd (by rw [nl19, nI_ltI (by omega) (by omega)]; omega) h9)
    refine r_iload_n F dX3_step_90 rfl ?_
    refine r_bipush (v := 23) F dX3_step_91 (by decide) ?_
    refine r_icmp_lt (tgt := 111) F dX3_step_93 (by decide) (fun _ => ?_) (fun h9 => absurd (by rw [nl23, nI_ltI (by omega) (by omega)]; omega) h9)
    refine r_iload_n F dX3_step_111 rfl ?_
    refine r_bipush (v := 31) F dX3_step_112 (by decide) ?_
    refine r_icmp_ne (tgt := 129) F dX3_step_114 (by decide) (fun _ => ?_) (fun h9 => absurd h9 (by rw [nl31, nI_eq (by omega) (by omega)]; omega))
    refine r_iload_n F dX3_step_129 rfl ?_
    refine r_bipush (v := 32) F dX3_step_130 (by decide) ?_
    refine r_icmp_ne (tgt := 148) F dX3_step_132 (by decide) (fun _ => ?_) (fun h9 => absurd h9 (by rw [nl32, nI_eq (by omega) (by omega)]; omega))
    refine r_aload_n F dX3_step_148 rfl ?_
    refine r_aload_n F dX3_step_149 rfl ?_
    refine r_iload_n F dX3_step_150 rfl ?_
    refine c_Vv (ci := 4) F G (c_mmove hM hC hW hs hA hK hO hk (by omega)) (cwV 2 F.2.2.2.2 (zgV km_X3_161 ki_X3_move ke_X3_X3_move kn_X3 ko_X3_move) rfl rfl rfl ⟨rfl, hd_yX3_move⟩ ⟨Nat.le_of_ble_eq_true rfl, Nat.le_of_ble_eq_true rfl⟩) rfl (by decide) hM.A rfl rfl (Nat.le_of_ble_eq_true rfl) dX3_step_151 ⟨Nat.le_of_ble_eq_true rfl, Nat.le_of_ble_eq_true rfl⟩ (fun S151 h151 => ?_)
    obtain ⟨M1, hM, hPP⟩ := h151
    refine e_vret F hr hlk ⟨_, hM, ?_⟩ (by decide) (by decide) dX3_step_154
    exact cP.tr hKp hPP
  · have hw : kw v (ff Fr) (fa Fr) = 19 := w45
    have hp1 : 1 ≤ fh Fr := hpv _ 1 hw (by decide) (Nat.le_refl 1)
    obtain ⟨j9, q1, q2⟩ := hg9.2.1 (by omega)
    obtain ⟨ej, ek⟩ := ka_of q2 (by omega)
    refine r_iload_n F dX3_step_45 rfl ?_
    refine r_iconst (v := 3) F dX3_step_46 (by decide) ?_
    refine r_icmp_lt (tgt := 64) F dX3_step_47 (by decide) (fun h9 => absurd h9 (by rw [nl3, nI_ltI (by omega) (by omega)]; omega)) (fun _ => ?_)
    refine r_iload_n F dX3_step_50 rfl ?_
    refine r_bipush (v := 16) F dX3_step_51 (by decide) ?_
    refine r_icmp_gt (tgt := 64) F dX3_step_53 (by decide) (fun _ => ?_) (fun h9 => absurd (by rw [nl16, nI_ltI (by omega) (by omega)]; omega) h9)
    refine r_iload_n F dX3_step_64 rfl ?_
    refine r_bipush (v := 19) F dX3_step_65 (by decide) ?_
    refine r_icmp_lt (tgt := 90) F dX3_step_67 (by decide) (fun h9 => absurd h9 (by rw [nl19, nI_ltI (by omega) (by omega)]; omega)) (fun _ => ?_)
    refine r_iload_n F dX3_step_70 rfl ?_
    refine r_bipush (v := 22) F dX3_step_71 (by decide) ?_
    refine r_icmp_gt (tgt := 90) F dX3_step_73 (by decide) (fun h9 => absurd h9 (by rw [nl22, nI_ltI (by omega) (by omega)]; omega)) (fun _ => ?_)
    refine r_aload_n F dX3_step_76 rfl ?_
    refine r_iload_n F dX3_step_77 rfl ?_
    refine r_aload_n F dX3_step_78 rfl ?_
    refine gr_numbers F G hM hf48 hRd dX3_step_79 ?_
    refine r_iload_n F dX3_step_82 rfl ?_
    refine lr_numbers F G hM hf48 hRd (by omega) dX3_step_83 ?_
    rw [hW.nu hs hf hk, ej, hw]
    refine c_Vv (ci := 4) F G (c_macc19 hM (Fr := (fGo Fr (fa Fr + 1))) hC hB (a := ka v (ff Fr) (fa Fr)) (A9 := (Fr :: Fs, U)) (by omega) hp1) (cwV 2 F.2.2.2.2 (zgV km_X3_144 ki_X3_access ke_X3_X3_access kn_X3 ko_X3_access) rfl rfl rfl ⟨rfl, hd_yX3_access⟩ ⟨Nat.le_of_ble_eq_true rfl, Nat.le_of_ble_eq_true rfl⟩) rfl (by decide) hM.A rfl rfl (Nat.le_of_ble_eq_true rfl) dX3_step_84 ⟨Nat.le_of_ble_eq_true rfl, Nat.le_of_ble_eq_true rfl⟩ (fun S84 h84 => ?_)
    obtain ⟨M1, hM, hPP⟩ := h84
    refine r_goto (tgt := 154) F dX3_step_87 (by decide) ?_
    refine e_vret F hr hlk ⟨_, hM, ?_⟩ (by decide) (by decide) dX3_step_154
    rw [aSp_19 hw]
    exact cP.tr hKp hPP
  · have hw : kw v (ff Fr) (fa Fr) = 20 := w45
    have hp2 : 2 ≤ fh Fr := hpv _ 2 hw (by decide) (Nat.le_refl 2)
    obtain ⟨j9, q1, q2⟩ := hg9.2.1 (by omega)
    obtain ⟨ej, ek⟩ := ka_of q2 (by omega)
    refine r_iload_n F dX3_step_45 rfl ?_
    refine r_iconst (v := 3) F dX3_step_46 (by decide) ?_
    refine r_icmp_lt (tgt := 64) F dX3_step_47 (by decide) (fun h9 => absurd h9 (by rw [nl3, nI_ltI (by omega) (by omega)]; omega)) (fun _ => ?_)
    refine r_iload_n F dX3_step_50 rfl ?_
    refine r_bipush (v := 16) F dX3_step_51 (by decide) ?_
    refine r_icmp_gt (tgt := 64) F dX3_step_53 (by decide) (fun _ => ?_) (fun h9 => absurd (by rw [nl16, nI_ltI (by omega) (by omega)]; omega) h9)
    refine r_iload_n F dX3_step_64 rfl ?_
    refine r_bipush (v := 19) F dX3_step_65 (by decide) ?_
    refine r_icmp_lt (tgt := 90) F dX3_step_67 (by decide) (fun h9 => absurd h9 (by rw [nl19, nI_ltI (by omega) (by omega)]; omega)) (fun _ => ?_)
    refine r_iload_n F dX3_step_70 rfl ?_
    refine r_bipush (v := 22) F dX3_step_71 (by decide) ?_
    refine r_icmp_gt (tgt := 90) F dX3_step_73 (by decide) (fun h9 => absurd h9 (by rw [nl22, nI_ltI (by omega) (by omega)]; omega)) (fun _ => ?_)
    refine r_aload_n F dX3_step_76 rfl ?_
    refine r_iload_n F dX3_step_77 rfl ?_
    refine r_aload_n F dX3_step_78 rfl ?_
    refine gr_numbers F G hM hf48 hRd dX3_step_79 ?_
    refine r_iload_n F dX3_step_82 rfl ?_
    refine lr_numbers F G hM hf48 hRd (by omega) dX3_step_83 ?_
    rw [hW.nu hs hf hk, ej, hw]
    refine c_Vv (ci := 4) F G (c_macc20 hM (Fr := (fGo Fr (fa Fr + 1))) hC hB (a := ka v (ff Fr) (fa Fr)) (A9 := (Fr :: Fs, U)) (by omega) hp2) (cwV 2 F.2.2.2.2 (zgV km_X3_144 ki_X3_access ke_X3_X3_access kn_X3 ko_X3_access) rfl rfl rfl ⟨rfl, hd_yX3_access⟩ ⟨Nat.le_of_ble_eq_true rfl, Nat.le_of_ble_eq_true rfl⟩) rfl (by decide) hM.A rfl rfl (Nat.le_of_ble_eq_true rfl) dX3_step_84 ⟨Nat.le_of_ble_eq_true rfl, Nat.le_of_ble_eq_true rfl⟩ (fun S84 h84 => ?_)
    obtain ⟨M1, hM, hPP⟩ := h84
    refine r_goto (tgt := 154) F dX3_step_87 (by decide) ?_
    refine e_vret F hr hlk ⟨_, hM, ?_⟩ (by decide) (by decide) dX3_step_154
    rw [aSp_20 hw]
    exact cP.tr hKp hPP
  · have hw : kw v (ff Fr) (fa Fr) = 21 := w45
    have hp1 : 1 ≤ fh Fr := hpv _ 1 hw (by decide) (Nat.le_refl 1)
    obtain ⟨j9, q1, q2⟩ := hg9.2.1 (by omega)
    obtain ⟨ej, ek⟩ := ka_of q2 (by omega)
    refine r_iload_n F dX3_step_45 rfl ?_
    refine r_iconst (v := 3) F dX3_step_46 (by decide) ?_
    refine r_icmp_lt (tgt := 64) F dX3_step_47 (by decide) (fun h9 => absurd h9 (by rw [nl3, nI_ltI (by omega) (by omega)]; omega)) (fun _ => ?_)
    refine r_iload_n F dX3_step_50 rfl ?_
    refine r_bipush (v := 16) F dX3_step_51 (by decide) ?_
    refine r_icmp_gt (tgt := 64) F dX3_step_53 (by decide) (fun _ => ?_) (fun h9 => absurd (by rw [nl16, nI_ltI (by omega) (by omega)]; omega) h9)
    refine r_iload_n F dX3_step_64 rfl ?_
    refine r_bipush (v := 19) F dX3_step_65 (by decide) ?_
    refine r_icmp_lt (tgt := 90) F dX3_step_67 (by decide) (fun h9 => absurd h9 (by rw [nl19, nI_ltI (by omega) (by omega)]; omega)) (fun _ => ?_)
    refine r_iload_n F dX3_step_70 rfl ?_
    refine r_bipush (v := 22) F dX3_step_71 (by decide) ?_
    refine r_icmp_gt (tgt := 90) F dX3_step_73 (by decide) (fun h9 => absurd h9 (by rw [nl22, nI_ltI (by omega) (by omega)]; omega)) (fun _ => ?_)
    refine r_aload_n F dX3_step_76 rfl ?_
    refine r_iload_n F dX3_step_77 rfl ?_
    refine r_aload_n F dX3_step_78 rfl ?_
    refine gr_numbers F G hM hf48 hRd dX3_step_79 ?_
    refine r_iload_n F dX3_step_82 rfl ?_
    refine lr_numbers F G hM hf48 hRd (by omega) dX3_step_83 ?_
    rw [hW.nu hs hf hk, ej, hw]
    refine c_Vv (ci := 4) F G (c_macc21 hM (Fr := (fGo Fr (fa Fr + 1))) hC hB (a := ka v (ff Fr) (fa Fr)) (A9 := (Fr :: Fs, U)) (by omega) hp1) (cwV 2 F.2.2.2.2 (zgV km_X3_144 ki_X3_access ke_X3_X3_access kn_X3 ko_X3_access) rfl rfl rfl ⟨rfl, hd_yX3_access⟩ ⟨Nat.le_of_ble_eq_true rfl, Nat.le_of_ble_eq_true rfl⟩) rfl (by decide) hM.A rfl rfl (Nat.le_of_ble_eq_true rfl) dX3_step_84 ⟨Nat.le_of_ble_eq_true rfl, Nat.le_of_ble_eq_true rfl⟩ (fun S84 h84 => ?_)
    obtain ⟨M1, hM, hPP⟩ := h84
    refine r_goto (tgt := 154) F dX3_step_87 (by decide) ?_
    refine e_vret F hr hlk ⟨_, hM, ?_⟩ (by decide) (by decide) dX3_step_154
    rw [aSp_21 hw]
    exact cP.tr hKp hPP
  · have hw : kw v (ff Fr) (fa Fr) = 22 := w45
    have hp2 : 2 ≤ fh Fr := hpv _ 2 hw (by decide) (Nat.le_refl 2)
    obtain ⟨j9, q1, q2⟩ := hg9.2.1 (by omega)
    obtain ⟨ej, ek⟩ := ka_of q2 (by omega)
    refine r_iload_n F dX3_step_45 rfl ?_
    refine r_iconst (v := 3) F dX3_step_46 (by decide) ?_
    refine r_icmp_lt (tgt := 64) F dX3_step_47 (by decide) (fun h9 => absurd h9 (by rw [nl3, nI_ltI (by omega) (by omega)]; omega)) (fun _ => ?_)
    refine r_iload_n F dX3_step_50 rfl ?_
    refine r_bipush (v := 16) F dX3_step_51 (by decide) ?_
    refine r_icmp_gt (tgt := 64) F dX3_step_53 (by decide) (fun _ => ?_) (fun h9 => absurd (by rw [nl16, nI_ltI (by omega) (by omega)]; omega) h9)
    refine r_iload_n F dX3_step_64 rfl ?_
    refine r_bipush (v := 19) F dX3_step_65 (by decide) ?_
    refine r_icmp_lt (tgt := 90) F dX3_step_67 (by decide) (fun h9 => absurd h9 (by rw [nl19, nI_ltI (by omega) (by omega)]; omega)) (fun _ => ?_)
    refine r_iload_n F dX3_step_70 rfl ?_
    refine r_bipush (v := 22) F dX3_step_71 (by decide) ?_
    refine r_icmp_gt (tgt := 90) F dX3_step_73 (by decide) (fun h9 => absurd h9 (by rw [nl22, nI_ltI (by omega) (by omega)]; omega)) (fun _ => ?_)
    refine r_aload_n F dX3_step_76 rfl ?_
    refine r_iload_n F dX3_step_77 rfl ?_
    refine r_aload_n F dX3_step_78 rfl ?_
    refine gr_numbers F G hM hf48 hRd dX3_step_79 ?_
    refine r_iload_n F dX3_step_82 rfl ?_
    refine lr_numbers F G hM hf48 hRd (by omega) dX3_step_83 ?_
    rw [hW.nu hs hf hk, ej, hw]
    refine c_Vv (ci := 4) F G (c_macc22 hM (Fr := (fGo Fr (fa Fr + 1))) hC hB (a := ka v (ff Fr) (fa Fr)) (A9 := (Fr :: Fs, U)) (by omega) hp2) (cwV 2 F.2.2.2.2 (zgV km_X3_144 ki_X3_access ke_X3_X3_access kn_X3 ko_X3_access) rfl rfl rfl ⟨rfl, hd_yX3_access⟩ ⟨Nat.le_of_ble_eq_true rfl, Nat.le_of_ble_eq_true rfl⟩) rfl (by decide) hM.A rfl rfl (Nat.le_of_ble_eq_true rfl) dX3_step_84 ⟨Nat.le_of_ble_eq_true rfl, Nat.le_of_ble_eq_true rfl⟩ (fun S84 h84 => ?_)
    obtain ⟨M1, hM, hPP⟩ := h84
    refine r_goto (tgt := 154) F dX3_step_87 (by decide) ?_
    refine e_vret F hr hlk ⟨_, hM, ?_⟩ (by decide) (by decide) dX3_step_154
    rw [aSp_22 hw]
    exact cP.tr hKp hPP
  · refine r_iload_n F dX3_step_45 rfl ?_
    refine r_iconst (v := 3) F dX3_step_46 (by decide) ?_
    refine r_icmp_lt (tgt := 64) F dX3_step_47 (by decide) (fun h9 => absurd h9 (by rw [nl3, nI_ltI (by omega) (by omega)]; omega)) (fun _ => ?_)
    refine r_iload_n F dX3_step_50 rfl ?_
    refine r_bipush (v := 16) F dX3_step_51 (by decide) ?_
    refine r_icmp_gt (tgt := 64) F dX3_step_53 (by decide) (fun _ => ?_) (fun h9 => absurd (by rw [nl16, nI_ltI (by omega) (by omega)]; omega) h9)
    refine r_iload_n F dX3_step_64 rfl ?_
    refine r_bipush (v := 19) F dX3_step_65 (by decide) ?_
    refine r_icmp_lt (tgt := 90) F dX3_step_67 (by decide) (fun h9 => absurd h9 (by rw [nl19, nI_ltI (by omega) (by omega)]; omega)) (fun _ => ?_)
    refine r_iload_n F dX3_step_70 rfl ?_
    refine r_bipush (v := 22) F dX3_step_71 (by decide) ?_
    refine r_icmp_gt (tgt := 90) F dX3_step_73 (by decide) (fun _ => ?_) (fun h9 => absurd (by rw [nl22, nI_ltI (by omega) (by omega)]; omega) h9)
    refine r_iload_n F dX3_step_90 rfl ?_
    refine r_bipush (v := 23) F dX3_step_91 (by decide) ?_
    refine r_icmp_lt (tgt := 111) F dX3_step_93 (by decide) (fun h9 => absurd h9 (by rw [nl23, nI_ltI (by omega) (by omega)]; omega)) (fun _ => ?_)
    refine r_iload_n F dX3_step_96 rfl ?_
    refine r_bipush (v := 30) F dX3_step_97 (by decide) ?_
    refine r_icmp_gt (tgt := 111) F dX3_step_99 (by decide) (fun h9 => absurd h9 (by rw [nl30, nI_ltI (by omega) (by omega)]; omega)) (fun _ => ?_)
    refine r_aload_n F dX3_step_102 rfl ?_
    refine r_aload_n F dX3_step_103 rfl ?_
    refine r_iload_n F dX3_step_104 rfl ?_
    refine c_Vv (ci := 4) F G (c_mgo hM hC hW hs hA hK hO hk w45) (cwV 2 F.2.2.2.2 (zgV km_X3_147 ki_X3_go ke_X3_X3_go kn_X3 ko_X3_go) rfl rfl rfl ⟨rfl, hd_yX3_go⟩ ⟨Nat.le_of_ble_eq_true rfl, Nat.le_of_ble_eq_true rfl⟩) rfl (by decide) hM.A rfl rfl (Nat.le_of_ble_eq_true rfl) dX3_step_105 ⟨Nat.le_of_ble_eq_true rfl, Nat.le_of_ble_eq_true rfl⟩ (fun S105 h105 => ?_)
    obtain ⟨M1, hM, hPP⟩ := h105
    refine r_goto (tgt := 154) F dX3_step_108 (by decide) ?_
    refine e_vret F hr hlk ⟨_, hM, ?_⟩ (by decide) (by decide) dX3_step_154
    exact cP.tr hKp hPP
  · have hw : kw v (ff Fr) (fa Fr) = 31 := w45
    obtain ⟨j9, q1, q2, q3⟩ := hg9.2.2.2.2.1 (Or.inl hw)
    have hj16 := (rg_1204 hv (k := ff Fr / 8) (by omega)).2
    obtain ⟨ej, ek⟩ := ka_of q2 (by omega)
    have hy : (16 * (ff Fr / 8) + ka v (ff Fr) (fa Fr)) < 96 := by omega
    have ht9 : (16 * (ff Fr / 8) + ka v (ff Fr) (fa Fr)) % 16 < cn v 1204 ((16 * (ff Fr / 8) + ka v (ff Fr) (fa Fr)) / 16) := by rw [show (16 * (ff Fr / 8) + ka v (ff Fr) (fa Fr)) / 16 = ff Fr / 8 by omega]; omega
    rw [← ek] at q1 q3
    refine r_iload_n F dX3_step_45 rfl ?_
    refine r_iconst (v := 3) F dX3_step_46 (by decide) ?_
    refine r_icmp_lt (tgt := 64) F dX3_step_47 (by decide) (fun h9 => absurd h9 (by rw [nl3, nI_ltI (by omega) (by omega)]; omega)) (fun _ => ?_)
    refine r_iload_n F dX3_step_50 rfl ?_
    refine r_bipush (v := 16) F dX3_step_51 (by decide) ?_
    refine r_icmp_gt (tgt := 64) F dX3_step_53 (by decide) (fun _ => ?_) (fun h9 => absurd (by rw [nl16, nI_ltI (by omega) (by omega)]; omega) h9)
    refine r_iload_n F dX3_step_64 rfl ?_
    refine r_bipush (v := 19) F dX3_step_65 (by decide) ?_
    refine r_icmp_lt (tgt := 90) F dX3_step_67 (by decide) (fun h9 => absurd h9 (by rw [nl19, nI_ltI (by omega) (by omega)]; omega)) (fun _ => ?_)
    refine r_iload_n F dX3_step_70 rfl ?_
    refine r_bipush (v := 22) F dX3_step_71 (by decide) ?_
    refine r_icmp_gt (tgt := 90) F dX3_step_73 (by decide) (fun _ => ?_) (fun h9 => absurd (by rw [nl22, nI_ltI (by omega) (by omega)]; omega) h9)
    refine r_iload_n F dX3_step_90 rfl ?_
    refine r_bipush (v := 23) F dX3_step_91 (by decide) ?_
    refine r_icmp_lt (tgt := 111) F dX3_step_93 (by decide) (fun h9 => absurd h9 (by rw [nl23, nI_ltI (by omega) (by omega)]; omega)) (fun _ => ?_)
    refine r_iload_n F dX3_step_96 rfl ?_
    refine r_bipush (v := 30) F dX3_step_97 (by decide) ?_
    refine r_icmp_gt (tgt := 111) F dX3_step_99 (by decide) (fun _ => ?_) (fun h9 => absurd (by rw [nl30, nI_ltI (by omega) (by omega)]; omega) h9)
    refine r_iload_n F dX3_step_111 rfl ?_
    refine r_bipush (v := 31) F dX3_step_112 (by decide) ?_
    refine r_icmp_ne (tgt := 129) F dX3_step_114 (by decide) (fun h9 => absurd (by rw [nl31, nI_eq (by omega) (by omega)]; omega) h9) (fun _ => ?_)
    refine r_aload_n F dX3_step_117 rfl ?_
    refine r_aload_n F dX3_step_118 rfl ?_
    refine r_iload_n F dX3_step_119 rfl ?_
    refine c_Vq (ci := 7) F G (c_targetOf hM.2.2 hW.b hv hW.s hA (i := ka v (ff Fr) (fa Fr)) hf.1 hf.2 rfl (by omega) q1 ej) (cwV 1 F.2.2.2.2 (zgV km_X3_151 ki_X6_targetOf ke_X6_X6_targetOf kn_X6 ko_X6_targetOf) rfl rfl rfl ⟨rfl, hd_yX6_targetOf⟩ ⟨Nat.le_of_ble_eq_true rfl, Nat.le_of_ble_eq_true rfl⟩) rfl (by decide) (hM.r hRd (kd_r _ hf48).1) rfl rfl (Nat.le_of_ble_eq_true rfl) dX3_step_120 ⟨Nat.le_of_ble_eq_true rfl, Nat.le_of_ble_eq_true rfl⟩ (fun r120 S120 h120 => ?_)
    obtain ⟨h120a, h120b⟩ := h120
    have h120c := h120b.symm
    subst h120c
    rw [tgt_fO (fun z hz => (hK _ hy ht9 z hz).trans q3) (fun _ => q3)] at h120a
    subst h120a
    cases hx : fO v (16 * (ff Fr / 8) + ka v (ff Fr) (fa Fr)) with
    | none =>
      show zW p l e _ s m args below meth c _ N0 D cy _ _ _ _ _ _ (.null :: .ref (ad 14) :: [])
      refine c_Vv (ci := 4) F G (c_mmeantN hM) (cwV 1 F.2.2.2.2 (zgV km_X3_155 ki_X3_enterMeant ke_X3_X3_enterMeant kn_X3 ko_X3_enterMeant) rfl rfl rfl ⟨rfl, hd_yX3_enterMeant⟩ ⟨Nat.le_of_ble_eq_true rfl, Nat.le_of_ble_eq_true rfl⟩) rfl (by decide) hM.A rfl rfl (Nat.le_of_ble_eq_true rfl) dX3_step_123 ⟨Nat.le_of_ble_eq_true rfl, Nat.le_of_ble_eq_true rfl⟩ (fun S123 hM => ?_)
      refine r_goto (tgt := 154) F dX3_step_126 (by decide) ?_
      refine e_vret F hr hlk ⟨_, hM, ?_⟩ (by decide) (by decide) dX3_step_154
      rw [aSp_31 hw, hx]
      exact cP.no (by decide) rfl hC hKp
    | some gg =>
      show zW p l e _ s m args below meth c _ N0 D cy _ _ _ _ _ _ (.ref (ad (200 + 12 * gg)) :: .ref (ad 14) :: [])
      obtain ⟨hgg1, hgg2⟩ := ((hs.2.2.1 _ hf.1 hf.2).2 _ hk).2 hw gg hx
      have hpr := call_31 hs hw hgg2 hgg1
      have hpg : cn v 1205 gg ≤ fh Fr := by have h9 := hF.pv hs hk (by omega); rw [hpr.1] at h9; omega
      have e702 : oi W (200 + 12 * gg) 702 = nI (cn v 1205 gg) := (hW.r hgg1).2.2.2.1.trans (rg_1205 hs.1 hgg1.1).1
      have e704 : oi W (200 + 12 * gg) 704 = nI (cn v 1207 gg) := (hW.r hgg1).2.2.2.2.2.1.trans (rg_1207 hs.1 hgg1.1).1
      have hgl := (rg_1207 hs.1 hgg1.1).2
      refine c_Vv (ci := 4) F G (c_mmeantR hM (n := Fs.length + 1) (h := fBz v Fr Fs + fh Fr) (f2 := gg) (p9 := cn v 1205 gg) (l9 := cn v 1207 gg) (dp := U.2.1) hC.N hlen hC.H (by omega) (by omega) (by omega) hgg1.1 (hW.r hgg1).1 e702 e704 hC.2.2.2.2 hU) (cwV 1 F.2.2.2.2 (zgV km_X3_155 ki_X3_enterMeant ke_X3_X3_enterMeant kn_X3 ko_X3_enterMeant) rfl rfl rfl ⟨rfl, hd_yX3_enterMeant⟩ ⟨Nat.le_of_ble_eq_true rfl, Nat.le_of_ble_eq_true rfl⟩) rfl (by decide) hM.A rfl rfl (Nat.le_of_ble_eq_true rfl) dX3_step_123 ⟨Nat.le_of_ble_eq_true rfl, Nat.le_of_ble_eq_true rfl⟩ (fun S123 h123 => ?_)
      have hEE : ∃ M', nZ t0 X S0 ad W M' S123 ∧ cP v U M0 M' (aCl v (fGo Fr (fa Fr + 1)) Fs U gg) := by
        rcases h123 with ⟨z1, z2⟩ | ⟨z1, M2, z2, z3⟩
        · exact ⟨_, z2, cP.cl (A9 := (Fr :: Fs, U)) hC hKp hpg (Or.inl ⟨z1, rfl⟩)⟩
        · exact ⟨M2, z2, cP.cl (A9 := (Fr :: Fs, U)) hC hKp hpg (Or.inr ⟨z1, z3⟩)⟩
      obtain ⟨M1, hM, hPP⟩ := hEE
      refine r_goto (tgt := 154) F dX3_step_126 (by decide) ?_
      refine e_vret F hr hlk ⟨M1, hM, ?_⟩ (by decide) (by decide) dX3_step_154
      rw [aSp_31 hw, hx]
      exact hPP
  · have hw : kw v (ff Fr) (fa Fr) = 32 := w45
    refine r_iload_n F dX3_step_45 rfl ?_
    refine r_iconst (v := 3) F dX3_step_46 (by decide) ?_
    refine r_icmp_lt (tgt := 64) F dX3_step_47 (by decide) (fun h9 => absurd h9 (by rw [nl3, nI_ltI (by omega) (by omega)]; omega)) (fun _ => ?_)
    refine r_iload_n F dX3_step_50 rfl ?_
    refine r_bipush (v := 16) F dX3_step_51 (by decide) ?_
    refine r_icmp_gt (tgt := 64) F dX3_step_53 (by decide) (fun _ => ?_) (fun h9 => absurd (by rw [nl16, nI_ltI (by omega) (by omega)]; omega) h9)
    refine r_iload_n F dX3_step_64 rfl ?_
    refine r_bipush (v := 19) F dX3_step_65 (by decide) ?_
    refine r_icmp_lt (tgt := 90) F dX3_step_67 (by decide) (fun h9 => absurd h9 (by rw [nl19, nI_ltI (by omega) (by omega)]; omega)) (fun _ => ?_)
    refine r_iload_n F dX3_step_70 rfl ?_
    refine r_bipush (v := 22) F dX3_step_71 (by decide) ?_
    refine r_icmp_gt (tgt := 90) F dX3_step_73 (by decide) (fun _ => ?_) (fun h9 => absurd (by rw [nl22, nI_ltI (by omega) (by omega)]; omega) h9)
    refine r_iload_n F dX3_step_90 rfl ?_
    refine r_bipush (v := 23) F dX3_step_91 (by decide) ?_
    refine r_icmp_lt (tgt := 111) F dX3_step_93 (by decide) (fun h9 => absurd h9 (by rw [nl23, nI_ltI (by omega) (by omega)]; omega)) (fun _ => ?_)
    refine r_iload_n F dX3_step_96 rfl ?_
    refine r_bipush (v := 30) F dX3_step_97 (by decide) ?_
    refine r_icmp_gt (tgt := 111) F dX3_step_99 (by decide) (fun _ => ?_) (fun h9 => absurd (by rw [nl30, nI_ltI (by omega) (by omega)]; omega) h9)
    refine r_iload_n F dX3_step_111 rfl ?_
    refine r_bipush (v := 31) F dX3_step_112 (by decide) ?_
    refine r_icmp_ne (tgt := 129) F dX3_step_114 (by decide) (fun _ => ?_) (fun h9 => absurd h9 (by rw [nl31, nI_eq (by omega) (by omega)]; omega))
    refine r_iload_n F dX3_step_129 rfl ?_
    refine r_bipush (v := 32) F dX3_step_130 (by decide) ?_
    refine r_icmp_ne (tgt := 148) F dX3_step_132 (by decide) (fun h9 => absurd (by rw [nl32, nI_eq (by omega) (by omega)]; omega) h9) (fun _ => ?_)
    refine r_aload_n F dX3_step_135 rfl ?_
    refine r_aload_n F dX3_step_136 rfl ?_
    refine gr_numbers F G hM hf48 hRd dX3_step_137 ?_
    refine r_iload_n F dX3_step_140 rfl ?_
    refine lr_numbers F G hM hf48 hRd (by omega) dX3_step_141 ?_
    rw [hW.nu hs hf hk]
    refine c_Vv (ci := 4) F G (c_mslot hM hC hW hs hA hK hO hk hw hsl) (cwV 1 F.2.2.2.2 (zgV km_X3_158 ki_X3_enterSlot ke_X3_X3_enterSlot kn_X3 ko_X3_enterSlot) rfl rfl rfl ⟨rfl, hd_yX3_enterSlot⟩ ⟨Nat.le_of_ble_eq_true rfl, Nat.le_of_ble_eq_true rfl⟩) rfl (by decide) hM.A rfl rfl (Nat.le_of_ble_eq_true rfl) dX3_step_142 ⟨Nat.le_of_ble_eq_true rfl, Nat.le_of_ble_eq_true rfl⟩ (fun S142 h142 => ?_)
    obtain ⟨M1, hM, hPP⟩ := h142
    refine r_goto (tgt := 154) F dX3_step_145 (by decide) ?_
    refine e_vret F hr hlk ⟨_, hM, ?_⟩ (by decide) (by decide) dX3_step_154
    exact cP.tr hKp hPP
  · refine r_iload_n F dX3_step_45 rfl ?_
    refine r_iconst (v := 3) F dX3_step_46 (by decide) ?_
    refine r_icmp_lt (tgt := 64) F dX3_step_47 (by decide) (fun h9 => absurd h9 (by rw [nl3, nI_ltI (by omega) (by omega)]; omega)) (fun _ => ?_)
    refine r_iload_n F dX3_step_50 rfl ?_
    refine r_bipush (v := 16) F dX3_step_51 (by decide) ?_
    refine r_icmp_gt (tgt := 64) F dX3_step_53 (by decide) (fun _ => ?_) (fun h9 => absurd (by rw [nl16, nI_ltI (by omega) (by omega)]; omega) h9)
    refine r_iload_n F dX3_step_64 rfl ?_
    refine r_bipush (v := 19) F dX3_step_65 (by decide) ?_
    refine r_icmp_lt (tgt := 90) F dX3_step_67 (by decide) (fun h9 => absurd h9 (by rw [nl19, nI_ltI (by omega) (by omega)]; omega)) (fun _ => ?_)
    refine r_iload_n F dX3_step_70 rfl ?_
    refine r_bipush (v := 22) F dX3_step_71 (by decide) ?_
    refine r_icmp_gt (tgt := 90) F dX3_step_73 (by decide) (fun _ => ?_) (fun h9 => absurd (by rw [nl22, nI_ltI (by omega) (by omega)]; omega) h9)
    refine r_iload_n F dX3_step_90 rfl ?_
    refine r_bipush (v := 23) F dX3_step_91 (by decide) ?_
    refine r_icmp_lt (tgt := 111) F dX3_step_93 (by decide) (fun h9 => absurd h9 (by rw [nl23, nI_ltI (by omega) (by omega)]; omega)) (fun _ => ?_)
    refine r_iload_n F dX3_step_96 rfl ?_
    refine r_bipush (v := 30) F dX3_step_97 (by decide) ?_
    refine r_icmp_gt (tgt := 111) F dX3_step_99 (by decide) (fun _ => ?_) (fun h9 => absurd (by rw [nl30, nI_ltI (by omega) (by omega)]; omega) h9)
    refine r_iload_n F dX3_step_111 rfl ?_
    refine r_bipush (v := 31) F dX3_step_112 (by decide) ?_
    refine r_icmp_ne (tgt := 129) F dX3_step_114 (by decide) (fun _ => ?_) (fun h9 => absurd h9 (by rw [nl31, nI_eq (by omega) (by omega)]; omega))
    refine r_iload_n F dX3_step_129 rfl ?_
    refine r_bipush (v := 32) F dX3_step_130 (by decide) ?_
    refine r_icmp_ne (tgt := 148) F dX3_step_132 (by decide) (fun _ => ?_) (fun h9 => absurd h9 (by rw [nl32, nI_eq (by omega) (by omega)]; omega))
    refine r_aload_n F dX3_step_148 rfl ?_
    refine r_aload_n F dX3_step_149 rfl ?_
    refine r_iload_n F dX3_step_150 rfl ?_
    refine c_Vv (ci := 4) F G (c_mmove hM hC hW hs hA hK hO hk (by omega)) (cwV 2 F.2.2.2.2 (zgV km_X3_161 ki_X3_move ke_X3_X3_move kn_X3 ko_X3_move) rfl rfl rfl ⟨rfl, hd_yX3_move⟩ ⟨Nat.le_of_ble_eq_true rfl, Nat.le_of_ble_eq_true rfl⟩) rfl (by decide) hM.A rfl rfl (Nat.le_of_ble_eq_true rfl) dX3_step_151 ⟨Nat.le_of_ble_eq_true rfl, Nat.le_of_ble_eq_true rfl⟩ (fun S151 h151 => ?_)
    obtain ⟨M1, hM, hPP⟩ := h151
    refine e_vret F hr hlk ⟨_, hM, ?_⟩ (by decide) (by decide) dX3_step_154
    exact cP.tr hKp hPP
