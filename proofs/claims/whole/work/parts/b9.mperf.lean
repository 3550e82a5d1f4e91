set_option maxRecDepth 100000 in
set_option maxHeartbeats 4000000 in
theorem c_mperform {l : Launch} {N0 t0 : Nat} {D : va_G} {cy : Nat → ClassId} {S : zS} {X : Nat → Prop} {S0 : zS} {ad : Nat → Nat} {W : zO} {M : mKt} (hM : nZ t0 X S0 ad W M S) {v : zV} {Ss : List Nat} (hW : cW v W Ss) (hs : sOK v Ss) (hA : vA v) (hK : kEq v) {f2 n : Nat} {x y : Int64} (hf2 : tF v f2) (hn2 : n ≤ 2000) (i1 : M.1 406 = nI 0) (i2 : M.1 407 = nI 0) (i3 : M.1 408 = -1) (i4 : M.2.1 = 0) (i5 : M.1 410 = nI 0) (i6 : M.1 411 = nI 0) (i7 : M.2.2.1 = some 38) (i8 : ∀ k, k < 1024 → mBy M k = mG v 24 k) : zMi l yX3_perform (zws yX3_perform cX3_perform 8 (some .int)) { frames := 7, cells := 0, slots := 0, locals := 154 } N0 t0 D cy S [.ref (ad 14), .ref (ad (200 + 12 * f2)), .long x, .long y, .int (nI n)] (fun r S' => ∃ (R : aR) (M' : mKt), nZ t0 X S0 ad W M' S' ∧ aRn v Ss n (aBe v f2 x y) R ∧ r = nI R.1 ∧ M'.2.1 = R.2.1 ∧ M'.1 410 = nI (n - R.2.2.1) ∧ M'.1 411 = nI R.2.2.2.1 ∧ (∀ k, k < 1024 → mBy M' k = R.2.2.2.2 k) ∧ M'.2.2.1 = some 38) 0 0 := by
  refine zMi.of (cc := cX3_perform) (maxL := 8) (ret := (some .int)) (by decide) rfl (Nat.le_of_ble_eq_true rfl) ?_
  intro p e s m args below meth c F G hr hlk hnm
  have hf48 := hf2.1
  have hRd := (hW.r hf2).1
  have hp4 := (rg_1205 hs.1 hf2.1).2
  have hl4 := (rg_1207 hs.1 hf2.1).2
  have e702 : oi W (200 + 12 * f2) 702 = nI (cn v 1205 f2) := (hW.r hf2).2.2.2.1.trans (rg_1205 hs.1 hf2.1).1
  have e704 : oi W (200 + 12 * f2) 704 = nI (cn v 1207 f2) := (hW.r hf2).2.2.2.2.2.1.trans (rg_1207 hs.1 hf2.1).1
  refine r_iconst (v := 0) F dX3_perform_0 (by decide) ?_
  refine r_istore F dX3_perform_1 (by decide) ?_
  refine zsub (lv' := [(7, .int (nI 0)), (0, .ref (ad 14)), (1, .ref (ad (200 + 12 * f2))), (2, .long x), (4, .long y), (6, .int (nI n))]) (by simp [zs1, zs2, lv_args, Value.category, show ((1 : Fin 4) : Nat) = 1 from rfl, show ((2 : Fin 4) : Nat) = 2 from rfl, show ((3 : Fin 4) : Nat) = 3 from rfl, show nI 0 = (0 : Int32) from rfl, show nI 1 = (1 : Int32) from rfl]) ?_
  refine z_loop (fun n9 S9 lv => ∃ (k : Nat) (M1 : mKt), k + n9 = (cn v 1205 f2) ∧ nZ t0 X S0 ad W M1 S9 ∧ lv = [(7, .int (nI k)), (0, .ref (ad 14)), (1, .ref (ad (200 + 12 * f2))), (2, .long x), (4, .long y), (6, .int (nI n))] ∧ M1.1 406 = nI k ∧ M1.1 407 = nI 0 ∧ M1.1 408 = -1 ∧ M1.2.1 = 0 ∧ M1.1 410 = nI 0 ∧ M1.1 411 = nI 0 ∧ M1.2.2.1 = some 38 ∧ (∀ k9, k9 < 1024 → mBy M1 k9 = mG v 24 k9) ∧ ∀ q, q < k → mSt M1 q = if q = 0 then x else if q = 1 then y else 0) (cn v 1205 f2) ?_ ⟨0, M, Nat.zero_add _, hM, rfl, i1, i2, i3, i4, i5, i6, i7, i8, fun q hq => absurd hq (Nat.not_lt_zero q)⟩
  clear hM i1 i2 i3 i4 i5 i6 i7 i8
  rintro n9 S lv ⟨k, M1, hkn, hM, rfl, g1, g2, g3, g4, g5, g6, g7, g8, g9⟩ ih
  refine r_iload F dX3_perform_3 rfl ?_
  refine r_aload_n F dX3_perform_5 rfl ?_
  refine gr_parameters F G hM hf48 hRd dX3_perform_6 ?_
  rw [e702]
  refine r_icmp_ge (tgt := 43) F dX3_perform_9 (by decide) (fun c9 => ?_) (fun c9 => ?_)
  · have hkp : k = (cn v 1205 f2) := by have c8 := c9; rw [nI_leI (by omega) (by omega)] at c8; omega
    subst hkp
    clear ih
    refine r_aload_n F dX3_perform_43 rfl ?_
    refine r_aload_n F dX3_perform_44 rfl ?_
    refine c_Vv (ci := 4) F G (c_menter hM (n := 0) (h := (cn v 1205 f2)) (f2 := f2) (p9 := (cn v 1205 f2)) (l9 := cn v 1207 f2) (dp := 0) g2 (by omega) g1 (Nat.le_refl _) (by omega) (by omega) hf48 hRd e702 e704 g6 (by omega)) (cwV 1 F.2.2.2.2 (zgV km_X3_97 ki_X3_enter ke_X3_X3_enter kn_X3 ko_X3_enter) rfl rfl rfl ⟨rfl, hd_yX3_enter⟩ ⟨Nat.le_of_ble_eq_true rfl, Nat.le_of_ble_eq_true rfl⟩) rfl (by decide) hM.A rfl rfl (Nat.le_of_ble_eq_true rfl) dX3_perform_45 ⟨Nat.le_of_ble_eq_true rfl, Nat.le_of_ble_eq_true rfl⟩ (fun S45 h45 => ?_)
    obtain ⟨M2, hM, hE⟩ : ∃ M2, nZ t0 X S0 ad W M2 S45 ∧ enC M1 M2 0 f2 (cn v 1205 f2) (cn v 1205 f2) (cn v 1207 f2) 0 := by
      rcases h45 with ⟨z1, _⟩ | ⟨_, M2, z2, z3⟩
      · exact absurd z1 (by decide)
      · exact ⟨M2, z2, z3⟩
    have hC2 : cRp v (aBe v f2 x y) M2 := cRp.st hE g8 g9
    have hE2 : M2.1 408 = -1 := (hE.2.2.2.1 408 (by decide) (by decide) (by decide)).trans g3
    have h12 : M2.1 410 = nI 0 := (hE.2.2.2.1 410 (by decide) (by decide) (by decide)).trans g5
    refine r_aload_n F dX3_perform_48 rfl ?_
    refine c_Vv (ci := 4) F G (c_mended hM hW hs hC2 (aBe_ok hs hf2) hE2 (List.cons_ne_nil _ _)) (cwV 0 F.2.2.2.2 (zgV km_X3_101 ki_X3_leaveEnded ke_X3_X3_leaveEnded kn_X3 ko_X3_leaveEnded) rfl rfl rfl ⟨rfl, hd_yX3_leaveEnded⟩ ⟨Nat.le_of_ble_eq_true rfl, Nat.le_of_ble_eq_true rfl⟩) rfl (by decide) hM.A rfl rfl (Nat.le_of_ble_eq_true rfl) dX3_perform_49 ⟨Nat.le_of_ble_eq_true rfl, Nat.le_of_ble_eq_true rfl⟩ (fun S49 h49 => ?_)
    obtain ⟨A2, M4, hM, hC4, hO4, hco4, z10, zsl, hcase⟩ := h49
    have hinv : ∃ (k : Nat) (M1 : mKt), nZ t0 X S0 ad W M1 S49 ∧ M1.1 410 = nI k ∧ k ≤ n ∧ ([(0, .ref (ad 14)), (1, .ref (ad (200 + 12 * f2))), (2, .long x), (4, .long y), (6, .int (nI n))] : List (Nat × Value)) = [(0, .ref (ad 14)), (1, .ref (ad (200 + 12 * f2))), (2, .long x), (4, .long y), (6, .int (nI n))] ∧ ((M1.1 408 = -1 ∧ n + 1 = n - k + 1 ∧ M1.2.1 = 0 ∧ M1.2.2.1 = some 38 ∧ ∃ (Fr : aF) (Fs : List aF) (U : aU), fa Fr < cn v 1208 (ff Fr) ∧ cRp v (Fr :: Fs, U) M1 ∧ aOK v (Fr :: Fs, U) ∧ ∀ R, aRn v Ss (n - k) (Fr :: Fs, U) R → aRn v Ss n (aBe v f2 x y) R) ∨ (∃ R : aR, M1.1 408 = nI R.1 ∧ R.1 < 10 ∧ aRn v Ss n (aBe v f2 x y) R ∧ R.2.2.1 = n - k ∧ M1.2.1 = R.2.1 ∧ M1.1 411 = nI R.2.2.2.1 ∧ (∀ k9, k9 < 1024 → mBy M1 k9 = R.2.2.2.2 k9) ∧ M1.2.2.1 = some 38)) := by
      have hsl4 : M4.2.2.1 = some 38 := zsl.trans (hE.2.2.2.2.2.1.trans g7)
      rcases hcase with ⟨F9, Fs9, U9, eA, hlt9, hE9, hv9⟩ | ⟨eA, hE9, hv9⟩
      · subst eA
        exact ⟨0, M4, hM, z10.trans h12, Nat.zero_le _, rfl, Or.inl ⟨hE9, rfl, hv9.trans (hE.2.2.2.2.1.trans g4), hsl4, F9, Fs9, U9, hlt9, hC4, hO4, fun R h9 => hco4 n R h9⟩⟩
      · exact ⟨0, M4, hM, z10.trans h12, Nat.zero_le _, rfl, Or.inr ⟨(0, A2.2.2.2, n, A2.2.2.1, A2.2.1), hE9, (by decide : 0 < 10), hco4 n _ (aRn.dn (by rw [show A2 = ([], A2.2) from by rw [← eA]]; exact aMi_0)), rfl, hv9, hC4.2.2.2.2, hC4.2.2.2.1, hsl4⟩⟩
    refine zsub (lv' := [(0, .ref (ad 14)), (1, .ref (ad (200 + 12 * f2))), (2, .long x), (4, .long y), (6, .int (nI n))]) (by simp [zs1, zs2, lv_args, Value.category, show ((1 : Fin 4) : Nat) = 1 from rfl, show ((2 : Fin 4) : Nat) = 2 from rfl, show ((3 : Fin 4) : Nat) = 3 from rfl, show nI 0 = (0 : Int32) from rfl, show nI 1 = (1 : Int32) from rfl]) ?_
    refine z_loop (fun n9 S9 lv => ∃ (k : Nat) (M1 : mKt), nZ t0 X S0 ad W M1 S9 ∧ M1.1 410 = nI k ∧ k ≤ n ∧ lv = [(0, .ref (ad 14)), (1, .ref (ad (200 + 12 * f2))), (2, .long x), (4, .long y), (6, .int (nI n))] ∧ ((M1.1 408 = -1 ∧ n9 = n - k + 1 ∧ M1.2.1 = 0 ∧ M1.2.2.1 = some 38 ∧ ∃ (Fr : aF) (Fs : List aF) (U : aU), fa Fr < cn v 1208 (ff Fr) ∧ cRp v (Fr :: Fs, U) M1 ∧ aOK v (Fr :: Fs, U) ∧ ∀ R, aRn v Ss (n - k) (Fr :: Fs, U) R → aRn v Ss n (aBe v f2 x y) R) ∨ (∃ R : aR, M1.1 408 = nI R.1 ∧ R.1 < 10 ∧ aRn v Ss n (aBe v f2 x y) R ∧ R.2.2.1 = n - k ∧ M1.2.1 = R.2.1 ∧ M1.1 411 = nI R.2.2.2.1 ∧ (∀ k9, k9 < 1024 → mBy M1 k9 = R.2.2.2.2 k9) ∧ M1.2.2.1 = some 38))) (n + 1) ?_ hinv
    clear hM hinv
    rintro n9 S lv ⟨k, M1, hM, h10, hkn, rfl, hcas⟩ ih
    rcases hcas with ⟨hE1, hn9, hvl, hsl, Fr, Fs, U, hlt, hC1, hO1, hco1⟩ | ⟨R9, q1, q2, q3, q4, q5, q6, q7, q8⟩
    · subst hn9
      refine r_aload_n F dX3_perform_52 rfl ?_
      refine gm_endS F G hM hE1 dX3_perform_53 ?_
      refine r_iconst (v := -1) F dX3_perform_56 (by decide) ?_
      refine r_icmp_ne (tgt := 90) F dX3_perform_57 (by decide) (fun h9 => absurd rfl h9) (fun _ => ?_)
      refine r_aload_n F dX3_perform_60 rfl ?_
      refine gm_stepsS F G hM h10 dX3_perform_61 ?_
      refine r_iload F dX3_perform_64 rfl ?_
      refine r_icmp_ge (tgt := 90) F dX3_perform_66 (by decide) (fun c66 => ?_) (fun c66 => ?_)
      · have hkn9 : k = n := by have c9 := c66; rw [nI_leI (by omega) (by omega)] at c9; omega
        subst hkn9
        have hend : ¬ cn v 1208 (ff Fr) ≤ fa Fr := by omega
        refine r_aload_n F dX3_perform_90 rfl ?_
        refine gm_endS F G hM hE1 dX3_perform_91 ?_
        refine r_iconst (v := -1) F dX3_perform_94 (by decide) ?_
        refine r_icmp_ne (tgt := 103) F dX3_perform_95 (by decide) (fun h9 => absurd rfl h9) (fun _ => ?_)
        refine r_aload_n F dX3_perform_98 rfl ?_
        refine r_iconst (v := 1) F dX3_perform_99 (by decide) ?_
        refine pm_end F G hM dX3_perform_100 (fun S hM => ?_)
        refine r_aload_n F dX3_perform_103 rfl ?_
        refine gm_endS F G hM (show va_up M1.1 408 1 408 = 1 from va_up_self _ _ _) dX3_perform_104 ?_
        exact e_iret F hr hlk ⟨(1, 0, 0, U.2.1, U.1), _, hM, hco1 _ (aRn.dn (by rw [Nat.sub_self]; exact aMi_f hend)), rfl, hvl, (show va_up M1.1 408 1 410 = nI (k - 0) from by rw [va_up_ne _ _ (by decide), Nat.sub_zero]; exact h10), (show va_up M1.1 408 1 411 = _ from by rw [va_up_ne _ _ (by decide)]; exact hC1.2.2.2.2), hC1.2.2.2.1, hsl⟩ (by decide) (by decide) dX3_perform_107
      · have hkl : k < n := by have c9 := c66; rw [nI_leI (by omega) (by omega)] at c9; omega
        refine r_aload_n F dX3_perform_69 rfl ?_
        refine r_dup F dX3_perform_70 rfl ?_
        refine gm_stepsS F G hM h10 dX3_perform_71 ?_
        refine r_iconst (v := 1) F dX3_perform_74 (by decide) ?_
        refine r_iadd F dX3_perform_75 ?_
        rw [show nI k + 1 = nI (k + 1) from nI_add k 1]
        refine pm_steps F G hM dX3_perform_76 (fun S hM => ?_)
        have hC := hC1.ot (M' := (va_up M1.1 410 (nI (k + 1)), M1.2)) (show va_up M1.1 410 (nI (k + 1)) 406 = M1.1 406 from va_up_ne _ _ (by decide)) (show va_up M1.1 410 (nI (k + 1)) 407 = M1.1 407 from va_up_ne _ _ (by decide)) (show va_up M1.1 410 (nI (k + 1)) 411 = M1.1 411 from va_up_ne _ _ (by decide)) rfl
        have hE2 : (va_up M1.1 410 (nI (k + 1)), M1.2).1 408 = -1 := (show va_up M1.1 410 (nI (k + 1)) 408 = M1.1 408 from va_up_ne _ _ (by decide)).trans hE1
        have h12 : (va_up M1.1 410 (nI (k + 1)), M1.2).1 410 = nI (k + 1) := (show va_up M1.1 410 (nI (k + 1)) 410 = _ from va_up_self _ _ _)
        have hv2 : (va_up M1.1 410 (nI (k + 1)), M1.2).2.1 = 0 := hvl
        have hsl2 : (va_up M1.1 410 (nI (k + 1)), M1.2).2.2.1 = some 38 := hsl
        generalize (va_up M1.1 410 (nI (k + 1)), M1.2) = M2 at hM hC hE2 h12 hv2 hsl2
        refine r_aload_n F dX3_perform_79 rfl ?_
        refine c_Vv (ci := 4) F G (c_mstep hM hC hW hs hA hK hO1 hlt hsl2) (cwV 0 F.2.2.2.2 (zgV km_X3_104 ki_X3_step ke_X3_X3_step kn_X3 ko_X3_step) rfl rfl rfl ⟨rfl, hd_yX3_step⟩ ⟨Nat.le_of_ble_eq_true rfl, Nat.le_of_ble_eq_true rfl⟩) rfl (by decide) hM.A rfl rfl (Nat.le_of_ble_eq_true rfl) dX3_perform_80 ⟨Nat.le_of_ble_eq_true rfl, Nat.le_of_ble_eq_true rfl⟩ (fun S80 h80 => ?_)
        obtain ⟨M3, hM, hPP⟩ := h80
        refine r_aload_n F dX3_perform_83 rfl ?_
        have hm9 := aSp_m (Fs := Fs) (U := U) hs hO1.1.1.1 hlt
        have hend : ¬ cn v 1208 (ff Fr) ≤ fa Fr := by omega
        by_cases hc0 : (aSp v Ss Fr Fs U).1 = 0
        · obtain ⟨hC3, hK3⟩ := hPP.1 hc0
          have hO3 := aSp_ok hs hO1 hlt hc0
          have hne3 : (aSp v Ss Fr Fs U).2.1 ≠ [] := fun h9 => by
            obtain ⟨L8, z1, z2⟩ := hm9.2 hc0
            have z3 := congrArg List.length z1
            rw [h9, List.length_map, List.length_append, List.length_map] at z3
            have z4 : 0 = L8.length + (Fs.length + 1) := z3
            omega
          refine c_Vv (ci := 4) F G (c_mended hM hW hs hC3 hO3 ((hK3.1 408 (Or.inl rfl)).trans hE2) hne3) (cwV 0 F.2.2.2.2 (zgV km_X3_101 ki_X3_leaveEnded ke_X3_X3_leaveEnded kn_X3 ko_X3_leaveEnded) rfl rfl rfl ⟨rfl, hd_yX3_leaveEnded⟩ ⟨Nat.le_of_ble_eq_true rfl, Nat.le_of_ble_eq_true rfl⟩) rfl (by decide) hM.A rfl rfl (Nat.le_of_ble_eq_true rfl) dX3_perform_84 ⟨Nat.le_of_ble_eq_true rfl, Nat.le_of_ble_eq_true rfl⟩ (fun S84 h84 => ?_)
          obtain ⟨A2, M4, hM, hC4, hO4, hco4, z10, zsl, hcase⟩ := h84
          refine r_goto (tgt := 52) F dX3_perform_87 (by decide) ?_
          refine zsub (lv' := [(0, .ref (ad 14)), (1, .ref (ad (200 + 12 * f2))), (2, .long x), (4, .long y), (6, .int (nI n))]) (by simp [zs1, zs2, lv_args, Value.category, show ((1 : Fin 4) : Nat) = 1 from rfl, show ((2 : Fin 4) : Nat) = 2 from rfl, show ((3 : Fin 4) : Nat) = 3 from rfl, show nI 0 = (0 : Int32) from rfl, show nI 1 = (1 : Int32) from rfl]) ?_
          have h14 : M4.1 410 = nI (k + 1) := z10.trans ((hK3.1 410 (Or.inr rfl)).trans h12)
          have hsl4 : M4.2.2.1 = some 38 := zsl.trans (hK3.2.2.trans hsl2)
          have hst9 : ∀ R, aRn v Ss (n - (k + 1)) A2 R → aRn v Ss n (aBe v f2 x y) R := fun R h9 => hco1 R (aRn.st (aMi_s hend (by omega) hc0) (by rw [show n - k - 1 = n - (k + 1) by omega]; exact hco4 _ R h9))
          rcases hcase with ⟨F9, Fs9, U9, eA, hlt9, hE9, hv9⟩ | ⟨eA, hE9, hv9⟩
          · subst eA
            exact ih (n - (k + 1) + 1) _ _ (by omega) ⟨k + 1, M4, hM, h14, by omega, rfl, Or.inl ⟨hE9, rfl, hv9.trans (hK3.2.1.trans hv2), hsl4, F9, Fs9, U9, hlt9, hC4, hO4, hst9⟩⟩
          · refine ih 0 _ _ (by omega) ⟨k + 1, M4, hM, h14, by omega, rfl, Or.inr ⟨(0, A2.2.2.2, n - (k + 1), A2.2.2.1, A2.2.1), hE9, (by decide : 0 < 10), hst9 _ (aRn.dn (by rw [show A2 = ([], A2.2) from by rw [← eA]]; exact aMi_0)), rfl, hv9, hC4.2.2.2.2, hC4.2.2.2.1, hsl4⟩⟩
        · obtain ⟨y1, y2, y3, y4, y5, y6⟩ := hPP.2 hc0
          have hc10 := hm9.1
          refine c_Vv (ci := 4) F G (c_mended0 hM (fun h9 => by rw [y1] at h9; exact nI_pos (n := (aSp v Ss Fr Fs U).1) (by omega) (by rw [h9]; decide))) (cwV 0 F.2.2.2.2 (zgV km_X3_101 ki_X3_leaveEnded ke_X3_X3_leaveEnded kn_X3 ko_X3_leaveEnded) rfl rfl rfl ⟨rfl, hd_yX3_leaveEnded⟩ ⟨Nat.le_of_ble_eq_true rfl, Nat.le_of_ble_eq_true rfl⟩) rfl (by decide) hM.A rfl rfl (Nat.le_of_ble_eq_true rfl) dX3_perform_84 ⟨Nat.le_of_ble_eq_true rfl, Nat.le_of_ble_eq_true rfl⟩ (fun S84 h84 => ?_)
          have h84c := h84.symm
          subst h84c
          refine r_goto (tgt := 52) F dX3_perform_87 (by decide) ?_
          refine zsub (lv' := [(0, .ref (ad 14)), (1, .ref (ad (200 + 12 * f2))), (2, .long x), (4, .long y), (6, .int (nI n))]) (by simp [zs1, zs2, lv_args, Value.category, show ((1 : Fin 4) : Nat) = 1 from rfl, show ((2 : Fin 4) : Nat) = 2 from rfl, show ((3 : Fin 4) : Nat) = 3 from rfl, show nI 0 = (0 : Int32) from rfl, show nI 1 = (1 : Int32) from rfl]) ?_
          exact ih 0 _ _ (by omega) ⟨k + 1, M3, hM, y2.trans h12, by omega, rfl, Or.inr ⟨((aSp v Ss Fr Fs U).1, 0, n - k - 1, U.2.1, U.1), y1, hc10, hco1 _ (aRn.dn (aMi_e hend (by omega) hc0)), (by show n - k - 1 = n - (k + 1); omega), y3.trans hv2, y6, y5, y4.trans hsl2⟩⟩
    · have hcn : ¬ nI R9.1 = -1 := fun h9 => nI_pos (n := R9.1) (by omega) (by rw [h9]; decide)
      clear ih
      refine r_aload_n F dX3_perform_52 rfl ?_
      refine gm_endS F G hM q1 dX3_perform_53 ?_
      refine r_iconst (v := -1) F dX3_perform_56 (by decide) ?_
      refine r_icmp_ne (tgt := 90) F dX3_perform_57 (by decide) (fun _ => ?_) (fun h9 => absurd h9 hcn)
      refine r_aload_n F dX3_perform_90 rfl ?_
      refine gm_endS F G hM q1 dX3_perform_91 ?_
      refine r_iconst (v := -1) F dX3_perform_94 (by decide) ?_
      refine r_icmp_ne (tgt := 103) F dX3_perform_95 (by decide) (fun _ => ?_) (fun h9 => absurd h9 hcn)
      refine r_aload_n F dX3_perform_103 rfl ?_
      refine gm_endS F G hM q1 dX3_perform_104 ?_
      exact e_iret F hr hlk ⟨R9, M1, hM, q3, rfl, q5, (by rw [h10, q4]; congr 1; omega), q6, q7, q8⟩ (by decide) (by decide) dX3_perform_107
  · have hkp : k < (cn v 1205 f2) := by have c8 := c9; rw [nI_leI (by omega) (by omega)] at c8; omega
    refine r_aload_n F dX3_perform_12 rfl ?_
    refine r_iload F dX3_perform_13 rfl ?_
    refine r_if_ne (tgt := 22) F dX3_perform_15 (by decide) (fun c15 => ?_) (fun c15 => ?_)
    · refine r_iload F dX3_perform_22 rfl ?_
      refine r_iconst (v := 1) F dX3_perform_24 (by decide) ?_
      refine r_icmp_ne (tgt := 33) F dX3_perform_25 (by decide) (fun c25 => ?_) (fun c25 => ?_)
      · refine r_lconst (v := 0) F dX3_perform_33 (by decide) ?_
        refine c_Vv (ci := 4) F G (c_mpush hM.1 hM.2.1 hM.2.2 (h := k) g1 (by omega)) (cwV 1 F.2.2.2.2 (zgV km_X3_93 ki_X3_push ke_X3_X3_push kn_X3 ko_X3_push) rfl rfl rfl ⟨rfl, hd_yX3_push⟩ ⟨Nat.le_of_ble_eq_true rfl, Nat.le_of_ble_eq_true rfl⟩) rfl (by decide) hM.A rfl rfl (Nat.le_of_ble_eq_true rfl) dX3_perform_34 ⟨Nat.le_of_ble_eq_true rfl, Nat.le_of_ble_eq_true rfl⟩ (fun S34 h34 => ?_)
        have hM := (⟨hM.1, hM.2.1, h34⟩ : nZ t0 X S0 ad W _ S34)
        have ek : ¬ k = 0 := fun h9 => c15 (by rw [h9]; rfl)
        have ek1 : ¬ k = 1 := fun h9 => c25 (by rw [h9]; rfl)
        refine r_iinc F dX3_perform_37 rfl (by decide) ?_
        refine r_goto (tgt := 3) F dX3_perform_40 (by decide) ?_
        refine zsub (lv' := [(7, .int (nI (k + 1))), (0, .ref (ad 14)), (1, .ref (ad (200 + 12 * f2))), (2, .long x), (4, .long y), (6, .int (nI n))]) (by rw [show nI (k + 1) = nI k + Int32.ofInt 1 from (nI_add k 1).symm]; simp [zs1, zs2, lv_args, Value.category, show ((1 : Fin 4) : Nat) = 1 from rfl, show ((2 : Fin 4) : Nat) = 2 from rfl, show ((3 : Fin 4) : Nat) = 3 from rfl, show nI 0 = (0 : Int32) from rfl, show nI 1 = (1 : Int32) from rfl]) ?_
        refine ih (n9 - 1) _ _ (by omega) ⟨k + 1, _, by omega, hM, rfl, (show va_up M1.1 406 (nI (k + 1)) 406 = _ from va_up_self _ _ _), (show va_up M1.1 406 (nI (k + 1)) 407 = M1.1 407 from va_up_ne _ _ (by decide)).trans g2, (show va_up M1.1 406 (nI (k + 1)) 408 = M1.1 408 from va_up_ne _ _ (by decide)).trans g3, g4, (show va_up M1.1 406 (nI (k + 1)) 410 = M1.1 410 from va_up_ne _ _ (by decide)).trans g5, (show va_up M1.1 406 (nI (k + 1)) 411 = M1.1 411 from va_up_ne _ _ (by decide)).trans g6, g7, g8, fun q hq => ?_⟩
        by_cases e : q = k
        · rw [e]
          refine (show vp_updL M1.2.2.2.1 k 0 k = _ from up_Ls).trans ?_
          rw [if_neg ek, if_neg ek1]
        · exact (show vp_updL M1.2.2.2.1 k 0 q = _ from up_L e).trans (g9 q (by omega))
      · refine r_lload F dX3_perform_28 rfl ?_
        refine r_goto (tgt := 34) F dX3_perform_30 (by decide) ?_
        refine c_Vv (ci := 4) F G (c_mpush hM.1 hM.2.1 hM.2.2 (h := k) g1 (by omega)) (cwV 1 F.2.2.2.2 (zgV km_X3_93 ki_X3_push ke_X3_X3_push kn_X3 ko_X3_push) rfl rfl rfl ⟨rfl, hd_yX3_push⟩ ⟨Nat.le_of_ble_eq_true rfl, Nat.le_of_ble_eq_true rfl⟩) rfl (by decide) hM.A rfl rfl (Nat.le_of_ble_eq_true rfl) dX3_perform_34 ⟨Nat.le_of_ble_eq_true rfl, Nat.le_of_ble_eq_true rfl⟩ (fun S34 h34 => ?_)
        have hM := (⟨hM.1, hM.2.1, h34⟩ : nZ t0 X S0 ad W _ S34)
        have ek : ¬ k = 0 := fun h9 => c15 (by rw [h9]; rfl)
        have ek1 : k = 1 := by have c8 := c25; rw [nl1, nI_eq (by omega) (by omega)] at c8; exact c8
        refine r_iinc F dX3_perform_37 rfl (by decide) ?_
        refine r_goto (tgt := 3) F dX3_perform_40 (by decide) ?_
        refine zsub (lv' := [(7, .int (nI (k + 1))), (0, .ref (ad 14)), (1, .ref (ad (200 + 12 * f2))), (2, .long x), (4, .long y), (6, .int (nI n))]) (by rw [show nI (k + 1) = nI k + Int32.ofInt 1 from (nI_add k 1).symm]; simp [zs1, zs2, lv_args, Value.category, show ((1 : Fin 4) : Nat) = 1 from rfl, show ((2 : Fin 4) : Nat) = 2 from rfl, show ((3 : Fin 4) : Nat) = 3 from rfl, show nI 0 = (0 : Int32) from rfl, show nI 1 = (1 : Int32) from rfl]) ?_
        refine ih (n9 - 1) _ _ (by omega) ⟨k + 1, _, by omega, hM, rfl, (show va_up M1.1 406 (nI (k + 1)) 406 = _ from va_up_self _ _ _), (show va_up M1.1 406 (nI (k + 1)) 407 = M1.1 407 from va_up_ne _ _ (by decide)).trans g2, (show va_up M1.1 406 (nI (k + 1)) 408 = M1.1 408 from va_up_ne _ _ (by decide)).trans g3, g4, (show va_up M1.1 406 (nI (k + 1)) 410 = M1.1 410 from va_up_ne _ _ (by decide)).trans g5, (show va_up M1.1 406 (nI (k + 1)) 411 = M1.1 411 from va_up_ne _ _ (by decide)).trans g6, g7, g8, fun q hq => ?_⟩
        by_cases e : q = k
        · rw [e]
          refine (show vp_updL M1.2.2.2.1 k y k = _ from up_Ls).trans ?_
          rw [if_neg ek, if_pos ek1]
        · exact (show vp_updL M1.2.2.2.1 k y q = _ from up_L e).trans (g9 q (by omega))
    · refine r_lload_n F dX3_perform_18 rfl ?_
      refine r_goto (tgt := 34) F dX3_perform_19 (by decide) ?_
      refine c_Vv (ci := 4) F G (c_mpush hM.1 hM.2.1 hM.2.2 (h := k) g1 (by omega)) (cwV 1 F.2.2.2.2 (zgV km_X3_93 ki_X3_push ke_X3_X3_push kn_X3 ko_X3_push) rfl rfl rfl ⟨rfl, hd_yX3_push⟩ ⟨Nat.le_of_ble_eq_true rfl, Nat.le_of_ble_eq_true rfl⟩) rfl (by decide) hM.A rfl rfl (Nat.le_of_ble_eq_true rfl) dX3_perform_34 ⟨Nat.le_of_ble_eq_true rfl, Nat.le_of_ble_eq_true rfl⟩ (fun S34 h34 => ?_)
      have hM := (⟨hM.1, hM.2.1, h34⟩ : nZ t0 X S0 ad W _ S34)
      have ek : k = 0 := by have c8 := c15; rw [nl0, nI_eq (by omega) (by omega)] at c8; exact c8
      refine r_iinc F dX3_perform_37 rfl (by decide) ?_
      refine r_goto (tgt := 3) F dX3_perform_40 (by decide) ?_
      refine zsub (lv' := [(7, .int (nI (k + 1))), (0, .ref (ad 14)), (1, .ref (ad (200 + 12 * f2))), (2, .long x), (4, .long y), (6, .int (nI n))]) (by rw [show nI (k + 1) = nI k + Int32.ofInt 1 from (nI_add k 1).symm]; simp [zs1, zs2, lv_args, Value.category, show ((1 : Fin 4) : Nat) = 1 from rfl, show ((2 : Fin 4) : Nat) = 2 from rfl, show ((3 : Fin 4) : Nat) = 3 from rfl, show nI 0 = (0 : Int32) from rfl, show nI 1 = (1 : Int32) from rfl]) ?_
      refine ih (n9 - 1) _ _ (by omega) ⟨k + 1, _, by omega, hM, rfl, (show va_up M1.1 406 (nI (k + 1)) 406 = _ from va_up_self _ _ _), (show va_up M1.1 406 (nI (k + 1)) 407 = M1.1 407 from va_up_ne _ _ (by decide)).trans g2, (show va_up M1.1 406 (nI (k + 1)) 408 = M1.1 408 from va_up_ne _ _ (by decide)).trans g3, g4, (show va_up M1.1 406 (nI (k + 1)) 410 = M1.1 410 from va_up_ne _ _ (by decide)).trans g5, (show va_up M1.1 406 (nI (k + 1)) 411 = M1.1 411 from va_up_ne _ _ (by decide)).trans g6, g7, g8, fun q hq => ?_⟩
      by_cases e : q = k
      · rw [e]
        refine (show vp_updL M1.2.2.2.1 k x k = _ from up_Ls).trans ?_
        rw [if_pos ek]
      · exact (show vp_updL M1.2.2.2.1 k x q = _ from up_L e).trans (g9 q (by omega))
