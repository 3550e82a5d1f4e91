set_option maxRecDepth 100000 in
set_option maxHeartbeats 4000000 in
theorem mm_wrongPlace {l : Launch} {N0 t0 : Nat} {D : va_G} {cy : Nat → ClassId} {S : zS} {S0 : zS} {g : Nat} {qa : Nat → Nat} {v : zV} (hS : zmR S0 g qa v S) {f : Nat} (hv : vRg v) (hA : vA v) (hD : vD v) (hf : f < 48) (hgood : ∀ k, k < cn v 1208 f → gW v f (cn v 1209 (60 * f + k)) (v.1 1210 (60 * f + k))) : zMi l yX12_wrongPlace (zws yX12_wrongPlace cX12_wrongPlace 7 (some .int)) { frames := 3, cells := 0, slots := 0, locals := 80 } N0 t0 D cy S [.ref g, .int (nI f)] (fun r S' => r = enc (wpl v f) ∧ ∃ v1, zmR S0 g qa v1 S' ∧ vX v v1) 0 0 := by
  refine zMi.of (cc := cX12_wrongPlace) (maxL := 7) (ret := (some .int)) (by decide) rfl (Nat.le_of_ble_eq_true rfl) ?_
  intro p e s m args below meth c F G hr hlk hnm
  have hlen := rg_1208 hv hf
  have hlen2 := hlen.2
  refine r_aload_n F dX12_wrongPlace_0 rfl ?_
  refine r_iconst (v := 0) F dX12_wrongPlace_1 (by decide) ?_
  refine pi_blocks F G hS dX12_wrongPlace_2 (fun S hS => ?_)
  refine r_aload_n F dX12_wrongPlace_5 rfl ?_
  refine r_iconst (v := 0) F dX12_wrongPlace_6 (by decide) ?_
  refine pi_height F G hS dX12_wrongPlace_7 (fun S hS => ?_)
  refine r_aload_n F dX12_wrongPlace_10 rfl ?_
  refine r_iconst (v := 0) F dX12_wrongPlace_11 (by decide) ?_
  refine r_aload_n F dX12_wrongPlace_12 rfl ?_
  refine gq_results F G hS dX12_wrongPlace_13 ?_
  refine r_iload_n F dX12_wrongPlace_16 rfl ?_
  refine al_results F G hS (f) rfl hf dX12_wrongPlace_17 ?_
  refine c_Vv (ci := 12) F G (mm_open hS (n := 0) rfl (by omega)) (cwV 2 F.2.2.2.2 (zgV km_X12_171 ki_X12_open ke_X12_X12_open kn_X12 ko_X12_open) rfl rfl rfl ⟨rfl, hd_yX12_open⟩ ⟨Nat.le_of_ble_eq_true rfl, Nat.le_of_ble_eq_true rfl⟩) rfl (by decide) hS.al rfl rfl (Nat.le_of_ble_eq_true rfl) dX12_wrongPlace_18 ⟨Nat.le_of_ble_eq_true rfl, Nat.le_of_ble_eq_true rfl⟩ (fun S18 hS => ?_)
  have hX0 : vX v (u1 (u1 (u1 (u1 (u1 (u1 (u1 (u1 v 1232 0 0) 1238 0 0) 1233 0 0) 1234 0 (v.1 1206 f)) 1235 0 0) 1236 0 0) 1237 0 0) 1232 0 (nI (0 + 1))) := (((((((vX.rf.u (by omega)).u (by omega)).u (by omega)).u (by omega)).u (by omega)).u (by omega)).u (by omega)).u (by omega)
  have hI0 : kI 0 (2 * 0) (kBeg v f) := ⟨by show 1 ≤ 1; omega, by show 1 ≤ 1; omega, by show 0 ≤ 0; omega, fun b hb => ⟨(rg_1206 hv hf).2, fun h9 => by have : b < 1 := hb; omega⟩, fun b hb => Nat.le_refl _, Nat.le_refl _⟩
  have hR0 : kR v f (kBeg v f) (u1 (u1 (u1 (u1 (u1 (u1 (u1 (u1 v 1232 0 0) 1238 0 0) 1233 0 0) 1234 0 (v.1 1206 f)) 1235 0 0) 1236 0 0) 1237 0 0) 1232 0 (nI (0 + 1))) := ⟨rfl, rfl, fun b hb => by
    have hb0 : b = 0 := by have : b < 1 := hb; omega
    subst hb0
    exact ⟨rfl, (rg_1206 hv hf).1, rfl, rfl, rfl⟩⟩
  refine r_iconst (v := 0) F dX12_wrongPlace_21 (by decide) ?_
  refine r_istore_n F dX12_wrongPlace_22 (by decide) ?_
  refine z_loop (fun n S9 lv => ∃ k v1 q, k + n = cn v 1208 f ∧ zmR S0 g qa v1 S9 ∧ vX v v1 ∧ kRun v f k = some q ∧ kR v f q v1 ∧ kI k (2 * k) q ∧ lv = [(2, .int (nI k)), (0, .ref g), (1, .int (nI f))]) (cn v 1208 f) ?_ ⟨0, _, kBeg v f, by omega, hS, hX0, rfl, hR0, hI0, rfl⟩
  clear hS hX0 hR0
  rintro n S lv ⟨k, v1, q, hn9, hS, hX, hK, hR, hI, rfl⟩ ih
  refine r_iload_n F dX12_wrongPlace_23 rfl ?_
  refine r_aload_n F dX12_wrongPlace_24 rfl ?_
  refine gq_words F G hS dX12_wrongPlace_25 ?_
  refine r_iload_n F dX12_wrongPlace_28 rfl ?_
  refine al_words F G hS (f) rfl hf dX12_wrongPlace_29 ?_
  rw [hX.1 1208 f (by omega), hlen.1]
  refine r_icmp_ge (tgt := 430) F dX12_wrongPlace_30 (by decide) (fun c30 => ?_) (fun c30 => ?_)
  · have hkl : k = cn v 1208 f := by rw [nI_leI (by omega) (by omega)] at c30; omega
    have hIn := hI.1
    have hIn2 := hI.2.1
    have hIh := hI.2.2.1
    have hb0 := hR.2.2 (kn q - 1) (by omega)
    have hl0 := (hI.2.2.2.1 (kn q - 1) (by omega)).1
    refine r_aload_n F dX12_wrongPlace_430 rfl ?_
    refine gi_blocks F G hS dX12_wrongPlace_431 ?_
    refine r_iconst (v := 1) F dX12_wrongPlace_434 (by decide) ?_
    rw [hR.1]
    refine r_icmp_gt (tgt := 445) F dX12_wrongPlace_435 (by decide) (fun c435 => ?_) (fun c435 => ?_)
    · have hkn : 1 < kn q := by have c9 := c435; rw [nl1, nI_ltI (by omega) (by omega)] at c9; exact c9
      refine r_aload_n F dX12_wrongPlace_445 rfl ?_
      refine gq_words F G hS dX12_wrongPlace_446 ?_
      refine r_iload_n F dX12_wrongPlace_449 rfl ?_
      refine al_words F G hS (f) rfl hf dX12_wrongPlace_450 ?_
      refine r_goto (tgt := 455) F dX12_wrongPlace_451 (by decide) ?_
      exact e_iret F hr hlk ⟨by rw [wpl_e (hkl ▸ hK), if_neg (fun h9 => by rw [h9.1] at hkn; omega)]; show v1.1 1208 f = nI _; rw [hX.1 1208 f (by omega)]; exact hlen.1, _, hS, hX⟩ (by decide) (by decide) dX12_wrongPlace_455
    · have hkn : kn q = 1 := by have c9 := c435; rw [nl1, nI_ltI (by omega) (by omega)] at c9; omega
      refine r_aload_n F dX12_wrongPlace_438 rfl ?_
      refine c_Vi (ci := 12) F G (mm_closes hS (n := kn q) (h := kh q) (b := kb q (kn q - 1)) (dd := kdd q (kn q - 1)) (w := kl q (kn q - 1)) hR.1 hI.1 (by omega) hR.2.1 hb0.2.2.1 hI.2.2.2.2.2 (by omega) hb0.2.2.2.1 (by omega) hb0.2.1) (cwV 0 F.2.2.2.2 (zgV km_X12_182 ki_X12_closes ke_X12_X12_closes kn_X12 ko_X12_closes) rfl rfl rfl ⟨rfl, hd_yX12_closes⟩ ⟨Nat.le_of_ble_eq_true rfl, Nat.le_of_ble_eq_true rfl⟩) rfl (by decide) hS.al rfl rfl (Nat.le_of_ble_eq_true rfl) dX12_wrongPlace_439 ⟨Nat.le_of_ble_eq_true rfl, Nat.le_of_ble_eq_true rfl⟩ (fun r439 S439 h439 => ?_)
      obtain ⟨a439, x, hS, hx439⟩ := h439
      subst a439
      refine r_if_ne (tgt := 454) F dX12_wrongPlace_442 (by decide) (fun c442 => ?_) (fun c442 => ?_)
      · refine r_iconst (v := -1) F dX12_wrongPlace_454 (by decide) ?_
        exact e_iret F hr hlk ⟨by rw [wpl_e (hkl ▸ hK), if_pos ⟨by omega, by have h8 : kC q = some _ := if_pos (if10 c442); rw [h8]; rfl⟩]; rfl, _, hS, hX.u (by omega)⟩ (by decide) (by decide) dX12_wrongPlace_455
      · 
        refine r_aload_n F dX12_wrongPlace_445 rfl ?_
        refine gq_words F G hS dX12_wrongPlace_446 ?_
        refine r_iload_n F dX12_wrongPlace_449 rfl ?_
        refine al_words F G hS (f) rfl hf dX12_wrongPlace_450 ?_
        refine r_goto (tgt := 455) F dX12_wrongPlace_451 (by decide) ?_
        exact e_iret F hr hlk ⟨by rw [wpl_e (hkl ▸ hK), if_neg (fun h9 => by have h8 : kC q = none := if_neg (if01 c442); rw [h8] at h9; exact absurd h9.2 (by decide))]; show v1.1 1208 f = nI _; rw [hX.1 1208 f (by omega)]; exact hlen.1, _, hS, hX.u (by omega)⟩ (by decide) (by decide) dX12_wrongPlace_455
  · have hk : k < cn v 1208 f := by rw [nI_leI (by omega) (by omega)] at c30; omega
    have hix : 60 * f + k < 2880 := by omega
    have hwd := rg_1209 hv hix
    obtain ⟨w, ew⟩ : ∃ w, cn v 1209 (60 * f + k) = w := ⟨_, rfl⟩
    obtain ⟨a, ea⟩ : ∃ a, v.1 1210 (60 * f + k) = a := ⟨_, rfl⟩
    have hw : w < 36 := by have := hwd.2; omega
    have hgw := hgood k hk
    rw [ew, ea] at hgw
    have h31 : w = 31 → ∃ j, a = nI j ∧ j < cn v 1204 (f / 8) := fun h9 => by
      obtain ⟨j, q1, q2, _⟩ := hgw.2.2.2.2.1 (Or.inl h9)
      exact ⟨j, q2, q1⟩
    have h32 : w = 32 → ∃ j, a = nI j ∧ j ≤ 9 := fun h9 => by
      obtain ⟨j, q1, q2⟩ := hgw.2.2.2.2.2.1 h9
      exact ⟨j, q2, q1⟩
    have hpl := pp_le hv hD (o := f / 8) (w := w) (a := a) (by omega) hw h31 h32
    have hIn := hI.1
    have hIn2 := hI.2.1
    have hIh := hI.2.2.1
    have hb0 := hR.2.2 (kn q - 1) (by omega)
    have hres := rg_1206 hv hf
    have hres2 := hres.2
    refine r_aload_n F dX12_wrongPlace_33 rfl ?_
    refine gq_word F G hS dX12_wrongPlace_34 ?_
    refine r_bipush (v := 60) F dX12_wrongPlace_37 (by decide) ?_
    refine r_iload_n F dX12_wrongPlace_39 rfl ?_
    refine r_imul F dX12_wrongPlace_40 ?_
    refine r_iload_n F dX12_wrongPlace_41 rfl ?_
    refine r_iadd F dX12_wrongPlace_42 ?_
    refine al_word F G hS (60 * f + k) (show (60 : Int32) * nI f + nI k = _ by rw [nl60, nI_mul, nI_add]) hix dX12_wrongPlace_43 ?_
    rw [hX.1 1209 _ (by omega), hwd.1, ew]
    refine r_istore_n F dX12_wrongPlace_44 (by decide) ?_
    refine r_aload_n F dX12_wrongPlace_45 rfl ?_
    refine gq_number F G hS dX12_wrongPlace_46 ?_
    refine r_bipush (v := 60) F dX12_wrongPlace_49 (by decide) ?_
    refine r_iload_n F dX12_wrongPlace_51 rfl ?_
    refine r_imul F dX12_wrongPlace_52 ?_
    refine r_iload_n F dX12_wrongPlace_53 rfl ?_
    refine r_iadd F dX12_wrongPlace_54 ?_
    refine al_number F G hS (60 * f + k) (show (60 : Int32) * nI f + nI k = _ by rw [nl60, nI_mul, nI_add]) hix dX12_wrongPlace_55 ?_
    rw [hX.1 1210 _ (by omega), ea]
    refine r_istore F dX12_wrongPlace_56 (by decide) ?_
    refine r_aload_n F dX12_wrongPlace_58 rfl ?_
    refine r_aload_n F dX12_wrongPlace_59 rfl ?_
    refine r_iload_n F dX12_wrongPlace_60 rfl ?_
    refine r_bipush (v := 8) F dX12_wrongPlace_61 (by decide) ?_
    refine r_idiv F dX12_wrongPlace_63 (by decide) ?_
    refine r_iload_n F dX12_wrongPlace_64 rfl ?_
    refine r_iload F dX12_wrongPlace_65 rfl ?_
    rw [show nI f / 8 = nI (f / 8) by rw [nl8]; exact nI_div (by omega) (by omega)]
    refine c_Vi (ci := 12) F G (mm_popped hS (hX.rg hv) (hX.A hA) (hX.D hD) (o := f / 8) (by omega) hw (fun h9 => by obtain ⟨j, q1, q2⟩ := h31 h9; exact ⟨j, q1, by rw [hX.c (by omega)]; exact q2⟩) h32) (cwV 3 F.2.2.2.2 (zgV km_X12_175 ki_X12_popped ke_X12_X12_popped kn_X12 ko_X12_popped) rfl rfl rfl ⟨rfl, hd_yX12_popped⟩ ⟨Nat.le_of_ble_eq_true rfl, Nat.le_of_ble_eq_true rfl⟩) rfl (by decide) hS.al rfl rfl (Nat.le_of_ble_eq_true rfl) dX12_wrongPlace_67 ⟨Nat.le_of_ble_eq_true rfl, Nat.le_of_ble_eq_true rfl⟩ (fun r67 S67 h67 => ?_)
    obtain ⟨a67, e67⟩ := h67
    have hs67 := e67.symm
    subst hs67
    rw [hX.epp] at a67
    subst a67
    refine c_Vi (ci := 12) F G (mm_pops hS (n := kn q) (h := kh q) (b := kb q (kn q - 1)) (dd := kdd q (kn q - 1)) hR.1 hI.1 (by omega) hR.2.1 hb0.2.2.1 hI.2.2.2.2.2 (by omega) hb0.2.2.2.1 (by omega)) (cwV 1 F.2.2.2.2 (zgV km_X12_165 ki_X12_pops ke_X12_X12_pops kn_X12 ko_X12_pops) rfl rfl rfl ⟨rfl, hd_yX12_pops⟩ ⟨Nat.le_of_ble_eq_true rfl, Nat.le_of_ble_eq_true rfl⟩) rfl (by decide) hS.al rfl rfl (Nat.le_of_ble_eq_true rfl) dX12_wrongPlace_70 ⟨Nat.le_of_ble_eq_true rfl, Nat.le_of_ble_eq_true rfl⟩ (fun r70 S70 h70 => ?_)
    obtain ⟨a70, hS⟩ := h70
    subst a70
    refine r_if_ne (tgt := 78) F dX12_wrongPlace_73 (by decide) (fun c73 => ?_) (fun c73 => ?_)
    · have hp := if10 c73
      have hx := kx_b hI (pp v (f / 8) w a)
      have hKP : kP q (pp v (f / 8) w a) = some (setH q (if pp v (f / 8) w a ≤ kh q - kb q (kn q - 1) then kh q - pp v (f / 8) w a else kb q (kn q - 1))) := by rw [kP_eq, if_pos hp]
      obtain ⟨x1, ex1⟩ : ∃ x1, (if pp v (f / 8) w a ≤ kh q - kb q (kn q - 1) then kh q - pp v (f / 8) w a else kb q (kn q - 1)) = x1 := ⟨_, rfl⟩
      rw [ex1] at hS hx hKP
      have hX2 := hX.u (id := 1238) (k := 0) (x := nI x1) (by omega)
      refine r_aload_n F dX12_wrongPlace_78 rfl ?_
      refine r_dup F dX12_wrongPlace_79 rfl ?_
      refine gi_height F G hS dX12_wrongPlace_80 ?_
      refine r_aload_n F dX12_wrongPlace_83 rfl ?_
      refine r_iload_n F dX12_wrongPlace_84 rfl ?_
      refine r_bipush (v := 8) F dX12_wrongPlace_85 (by decide) ?_
      refine r_idiv F dX12_wrongPlace_87 (by decide) ?_
      refine r_iload_n F dX12_wrongPlace_88 rfl ?_
      refine r_iload F dX12_wrongPlace_89 rfl ?_
      rw [show nI f / 8 = nI (f / 8) by rw [nl8]; exact nI_div (by omega) (by omega)]
      refine c_Vi (ci := 12) F G (mm_pushed hS (hX2.rg hv) (hX2.A hA) (hX2.D hD) (o := f / 8) (by omega) hw (fun h9 => by obtain ⟨j, q1, q2⟩ := h31 h9; exact ⟨j, q1, by rw [hX2.c (by omega)]; exact q2⟩) h32) (cwV 3 F.2.2.2.2 (zgV km_X12_179 ki_X12_pushed ke_X12_X12_pushed kn_X12 ko_X12_pushed) rfl rfl rfl ⟨rfl, hd_yX12_pushed⟩ ⟨Nat.le_of_ble_eq_true rfl, Nat.le_of_ble_eq_true rfl⟩) rfl (by decide) hS.al rfl rfl (Nat.le_of_ble_eq_true rfl) dX12_wrongPlace_91 ⟨Nat.le_of_ble_eq_true rfl, Nat.le_of_ble_eq_true rfl⟩ (fun r91 S91 h91 => ?_)
      obtain ⟨a91, e91⟩ := h91
      have hs91 := e91.symm
      subst hs91
      rw [hX2.epu] at a91
      subst a91
      refine r_iadd F dX12_wrongPlace_94 ?_
      rw [show (u1 v1 1238 0 (nI x1)).1 1238 0 + nI (pu v (f / 8) w a) = nI (x1 + pu v (f / 8) w a) from nI_add _ _]
      refine pi_height F G hS dX12_wrongPlace_95 (fun S hS => ?_)
      have hS3 : zmR S0 g qa (u1 (u1 v1 1238 0 (nI x1)) 1238 0 (nI (x1 + pu v (f / 8) w a))) S := hS
      clear hS
      have hR2 : kR v f (setH q (x1 + pu v (f / 8) w a)) (u1 (u1 v1 1238 0 (nI x1)) 1238 0 (nI (x1 + pu v (f / 8) w a))) := (hR.sH x1).sH _
      have hX3 : vX v (u1 (u1 v1 1238 0 (nI x1)) 1238 0 (nI (x1 + pu v (f / 8) w a))) := hX2.u (by omega)
      have hI2 : kI k (2 * k + 1) (setH q (x1 + pu v (f / 8) w a)) := hI.sH (by omega) (by omega)
      have hKS : kSt v f k q = kS2 v f k w a (setH q (x1 + pu v (f / 8) w a)) := by
        unfold kSt
        rw [ew, ea, hKP]
        rfl
      have hbwb : ∀ b, b < kn q → bw v f (setH q (x1 + pu v (f / 8) w a)) b < 36 := fun b hb => by
        unfold bw
        by_cases e9 : b = 0
        · rw [if_pos e9]; omega
        · rw [if_neg e9]
          have h8 := (hI.2.2.2.1 b hb).2 (by omega)
          have h7 := (rg_1209 hv (k := 60 * f + ko q b) (by omega)).2
          show cn v 1209 (60 * f + ko q b) < 36
          omega
      obtain ⟨q2, eq2⟩ : ∃ q2, q2 = setH q (x1 + pu v (f / 8) w a) := ⟨_, rfl⟩
      obtain ⟨v3, ev3⟩ : ∃ v3, v3 = (u1 (u1 v1 1238 0 (nI x1)) 1238 0 (nI (x1 + pu v (f / 8) w a))) := ⟨_, rfl⟩
      have hnq : kn q2 = kn q := by rw [eq2]
      have hhq : kh q2 ≤ 2 * k + 1 := by rw [eq2]; exact hI2.2.2.1
      rw [← ev3] at hS3 hR2 hX3
      rw [← eq2] at hR2 hI2 hKS hbwb
      have hS := hS3
      clear hS3
      have hT := hR2.2.2 (kn q2 - 1) (by omega)
      have hbw := hbwb (kn q2 - 1) (by omega)
      have hlT := (hI2.2.2.2.1 (kn q2 - 1) (by omega)).1
      have hbT := hI2.2.2.2.2.2
      rcases (show w < 23 ∨ 31 ≤ w ∨ (23 ≤ w ∧ w ≤ 25) ∨ w = 26 ∨ w = 27 ∨ w = 28 ∨ w = 29 ∨ w = 30 by omega) with hg | hg | hg | hg | hg | hg | hg | hg
      · refine r_iload_n F dX12_wrongPlace_98 rfl ?_
        refine r_bipush (v := 23) F dX12_wrongPlace_99 (by decide) ?_
        refine r_icmp_lt (tgt := 120) F dX12_wrongPlace_101 (by decide) (fun _ => ?_) (fun h9 => absurd (by rw [show (23 : Int32) = nI 23 from rfl, nI_ltI (by omega) (by omega)]; omega) h9)
        refine r_iload_n F dX12_wrongPlace_120 rfl ?_
        refine r_bipush (v := 26) F dX12_wrongPlace_121 (by decide) ?_
        refine r_icmp_ne (tgt := 192) F dX12_wrongPlace_123 (by decide) (fun _ => ?_) (fun h9 => absurd h9 (by rw [show (26 : Int32) = nI 26 from rfl, nI_eq (by omega) (by omega)]; omega))
        refine r_iload_n F dX12_wrongPlace_192 rfl ?_
        refine r_bipush (v := 27) F dX12_wrongPlace_193 (by decide) ?_
        refine r_icmp_ne (tgt := 302) F dX12_wrongPlace_195 (by decide) (fun _ => ?_) (fun h9 => absurd h9 (by rw [show (27 : Int32) = nI 27 from rfl, nI_eq (by omega) (by omega)]; omega))
        refine r_iload_n F dX12_wrongPlace_302 rfl ?_
        refine r_bipush (v := 28) F dX12_wrongPlace_303 (by decide) ?_
        refine r_icmp_eq (tgt := 314) F dX12_wrongPlace_305 (by decide) (fun h9 => absurd h9 (by rw [show (28 : Int32) = nI 28 from rfl, nI_eq (by omega) (by omega)]; omega)) (fun _ => ?_)
        refine r_iload_n F dX12_wrongPlace_308 rfl ?_
        refine r_bipush (v := 29) F dX12_wrongPlace_309 (by decide) ?_
        refine r_icmp_ne (tgt := 399) F dX12_wrongPlace_311 (by decide) (fun _ => ?_) (fun h9 => absurd h9 (by rw [show (29 : Int32) = nI 29 from rfl, nI_eq (by omega) (by omega)]; omega))
        refine r_iload_n F dX12_wrongPlace_399 rfl ?_
        refine r_bipush (v := 30) F dX12_wrongPlace_400 (by decide) ?_
        refine r_icmp_ne (tgt := 424) F dX12_wrongPlace_402 (by decide) (fun _ => ?_) (fun h9 => absurd h9 (by rw [show (30 : Int32) = nI 30 from rfl, nI_eq (by omega) (by omega)]; omega))
        
        have hs4 : kSt v f k q = some (q2) := by
          rw [hKS]
          unfold kS2
          rw [if_neg (by omega), if_neg (by omega), if_neg (by omega), if_neg (by omega), if_neg (by omega)]
        have hI4 : kI (k + 1) (2 * (k + 1)) (q2) := hI2.up (by omega)
        refine zsub (lv' := [(2, .int (nI k)), (0, .ref g), (1, .int (nI f))]) (by simp [zs1, Value.category, show ((1 : Fin 4) : Nat) = 1 from rfl, show ((2 : Fin 4) : Nat) = 2 from rfl, show ((3 : Fin 4) : Nat) = 3 from rfl]) ?_
        refine r_iinc F dX12_wrongPlace_424 rfl (by decide) ?_
        refine r_goto (tgt := 23) F dX12_wrongPlace_427 (by decide) ?_
        exact ih (n - 1) _ _ (by omega) ⟨k + 1, _, q2, by omega, hS, hX3, kRun_s hK hs4, hR2, hI4, by rw [show nI k + Int32.ofInt 1 = nI (k + 1) from nI_add k 1]; rfl⟩
      · refine r_iload_n F dX12_wrongPlace_98 rfl ?_
        refine r_bipush (v := 23) F dX12_wrongPlace_99 (by decide) ?_
        refine r_icmp_lt (tgt := 120) F dX12_wrongPlace_101 (by decide) (fun h9 => absurd h9 (by rw [show (23 : Int32) = nI 23 from rfl, nI_ltI (by omega) (by omega)]; omega)) (fun _ => ?_)
        refine r_iload_n F dX12_wrongPlace_104 rfl ?_
        refine r_bipush (v := 25) F dX12_wrongPlace_105 (by decide) ?_
        refine r_icmp_gt (tgt := 120) F dX12_wrongPlace_107 (by decide) (fun _ => ?_) (fun h9 => absurd (by rw [show (25 : Int32) = nI 25 from rfl, nI_ltI (by omega) (by omega)]; omega) h9)
        refine r_iload_n F dX12_wrongPlace_120 rfl ?_
        refine r_bipush (v := 26) F dX12_wrongPlace_121 (by decide) ?_
        refine r_icmp_ne (tgt := 192) F dX12_wrongPlace_123 (by decide) (fun _ => ?_) (fun h9 => absurd h9 (by rw [show (26 : Int32) = nI 26 from rfl, nI_eq (by omega) (by omega)]; omega))
        refine r_iload_n F dX12_wrongPlace_192 rfl ?_
        refine r_bipush (v := 27) F dX12_wrongPlace_193 (by decide) ?_
        refine r_icmp_ne (tgt := 302) F dX12_wrongPlace_195 (by decide) (fun _ => ?_) (fun h9 => absurd h9 (by rw [show (27 : Int32) = nI 27 from rfl, nI_eq (by omega) (by omega)]; omega))
        refine r_iload_n F dX12_wrongPlace_302 rfl ?_
        refine r_bipush (v := 28) F dX12_wrongPlace_303 (by decide) ?_
        refine r_icmp_eq (tgt := 314) F dX12_wrongPlace_305 (by decide) (fun h9 => absurd h9 (by rw [show (28 : Int32) = nI 28 from rfl, nI_eq (by omega) (by omega)]; omega)) (fun _ => ?_)
        refine r_iload_n F dX12_wrongPlace_308 rfl ?_
        refine r_bipush (v := 29) F dX12_wrongPlace_309 (by decide) ?_
        refine r_icmp_ne (tgt := 399) F dX12_wrongPlace_311 (by decide) (fun _ => ?_) (fun h9 => absurd h9 (by rw [show (29 : Int32) = nI 29 from rfl, nI_eq (by omega) (by omega)]; omega))
        refine r_iload_n F dX12_wrongPlace_399 rfl ?_
        refine r_bipush (v := 30) F dX12_wrongPlace_400 (by decide) ?_
        refine r_icmp_ne (tgt := 424) F dX12_wrongPlace_402 (by decide) (fun _ => ?_) (fun h9 => absurd h9 (by rw [show (30 : Int32) = nI 30 from rfl, nI_eq (by omega) (by omega)]; omega))
        
        have hs4 : kSt v f k q = some (q2) := by
          rw [hKS]
          unfold kS2
          rw [if_neg (by omega), if_neg (by omega), if_neg (by omega), if_neg (by omega), if_neg (by omega)]
        have hI4 : kI (k + 1) (2 * (k + 1)) (q2) := hI2.up (by omega)
        refine zsub (lv' := [(2, .int (nI k)), (0, .ref g), (1, .int (nI f))]) (by simp [zs1, Value.category, show ((1 : Fin 4) : Nat) = 1 from rfl, show ((2 : Fin 4) : Nat) = 2 from rfl, show ((3 : Fin 4) : Nat) = 3 from rfl]) ?_
        refine r_iinc F dX12_wrongPlace_424 rfl (by decide) ?_
        refine r_goto (tgt := 23) F dX12_wrongPlace_427 (by decide) ?_
        exact ih (n - 1) _ _ (by omega) ⟨k + 1, _, q2, by omega, hS, hX3, kRun_s hK hs4, hR2, hI4, by rw [show nI k + Int32.ofInt 1 = nI (k + 1) from nI_add k 1]; rfl⟩
      · refine r_iload_n F dX12_wrongPlace_98 rfl ?_
        refine r_bipush (v := 23) F dX12_wrongPlace_99 (by decide) ?_
        refine r_icmp_lt (tgt := 120) F dX12_wrongPlace_101 (by decide) (fun h9 => absurd h9 (by rw [show (23 : Int32) = nI 23 from rfl, nI_ltI (by omega) (by omega)]; omega)) (fun _ => ?_)
        refine r_iload_n F dX12_wrongPlace_104 rfl ?_
        refine r_bipush (v := 25) F dX12_wrongPlace_105 (by decide) ?_
        refine r_icmp_gt (tgt := 120) F dX12_wrongPlace_107 (by decide) (fun h9 => absurd h9 (by rw [show (25 : Int32) = nI 25 from rfl, nI_ltI (by omega) (by omega)]; omega)) (fun _ => ?_)
        obtain ⟨j, hj, ej⟩ := hgw.2.2.1 (by omega)
        subst ej
        refine r_aload_n F dX12_wrongPlace_110 rfl ?_
        refine r_iload_n F dX12_wrongPlace_111 rfl ?_
        refine r_iload F dX12_wrongPlace_112 rfl ?_
        refine c_Vv (ci := 12) F G (mm_open hS (n := kn q2) hR2.1 (by omega)) (cwV 2 F.2.2.2.2 (zgV km_X12_171 ki_X12_open ke_X12_X12_open kn_X12 ko_X12_open) rfl rfl rfl ⟨rfl, hd_yX12_open⟩ ⟨Nat.le_of_ble_eq_true rfl, Nat.le_of_ble_eq_true rfl⟩) rfl (by decide) hS.al rfl rfl (Nat.le_of_ble_eq_true rfl) dX12_wrongPlace_114 ⟨Nat.le_of_ble_eq_true rfl, Nat.le_of_ble_eq_true rfl⟩ (fun S114 hS => ?_)
        refine r_goto (tgt := 424) F dX12_wrongPlace_117 (by decide) ?_
        
        have hs4 : kSt v f k q = some (kOp q2 k j) := by
          rw [hKS]
          unfold kS2
          rw [if_pos (by omega), nI_clamp (by omega)]
        have hI4 : kI (k + 1) (2 * (k + 1)) (kOp q2 k j) := (hI2.op hj).2.2.1 |> fun _ => (by have h9 := hI2.op (a := j) hj; exact ⟨h9.1, h9.2.1, by have := h9.2.2.1; omega, h9.2.2.2⟩)
        refine zsub (lv' := [(2, .int (nI k)), (0, .ref g), (1, .int (nI f))]) (by simp [zs1, Value.category, show ((1 : Fin 4) : Nat) = 1 from rfl, show ((2 : Fin 4) : Nat) = 2 from rfl, show ((3 : Fin 4) : Nat) = 3 from rfl]) ?_
        refine r_iinc F dX12_wrongPlace_424 rfl (by decide) ?_
        refine r_goto (tgt := 23) F dX12_wrongPlace_427 (by decide) ?_
        exact ih (n - 1) _ _ (by omega) ⟨k + 1, _, kOp q2 k j, by omega, hS, (((((hX3.u (by omega)).u (by omega)).u (by omega)).u (by omega)).u (by omega)).u (by omega), kRun_s hK hs4, hR2.op hI2.1 (by rw [← ew]) rfl, hI4, by rw [show nI k + Int32.ofInt 1 = nI (k + 1) from nI_add k 1]; rfl⟩
      · refine r_iload_n F dX12_wrongPlace_98 rfl ?_
        refine r_bipush (v := 23) F dX12_wrongPlace_99 (by decide) ?_
        refine r_icmp_lt (tgt := 120) F dX12_wrongPlace_101 (by decide) (fun h9 => absurd h9 (by rw [show (23 : Int32) = nI 23 from rfl, nI_ltI (by omega) (by omega)]; omega)) (fun _ => ?_)
        refine r_iload_n F dX12_wrongPlace_104 rfl ?_
        refine r_bipush (v := 25) F dX12_wrongPlace_105 (by decide) ?_
        refine r_icmp_gt (tgt := 120) F dX12_wrongPlace_107 (by decide) (fun _ => ?_) (fun h9 => absurd (by rw [show (25 : Int32) = nI 25 from rfl, nI_ltI (by omega) (by omega)]; omega) h9)
        refine r_iload_n F dX12_wrongPlace_120 rfl ?_
        refine r_bipush (v := 26) F dX12_wrongPlace_121 (by decide) ?_
        refine r_icmp_ne (tgt := 192) F dX12_wrongPlace_123 (by decide) (fun h9 => absurd (by rw [show (26 : Int32) = nI 26 from rfl, nI_eq (by omega) (by omega)]; omega) h9) (fun _ => ?_)
        refine r_aload_n F dX12_wrongPlace_126 rfl ?_
        refine gq_blockWord F G hS dX12_wrongPlace_127 ?_
        refine r_aload_n F dX12_wrongPlace_130 rfl ?_
        refine gi_blocks F G hS dX12_wrongPlace_131 ?_
        refine r_iconst (v := 1) F dX12_wrongPlace_134 (by decide) ?_
        refine r_isub F dX12_wrongPlace_135 ?_
        refine al_blockWord F G hS (kn q2 - 1) (show v3.1 1232 0 - 1 = _ by rw [hR2.1, nl1]; exact nI_sub hI2.1) (by omega) dX12_wrongPlace_136 ?_
        rw [hT.1]
        refine r_bipush (v := 25) F dX12_wrongPlace_137 (by decide) ?_
        refine r_icmp_ne (tgt := 163) F dX12_wrongPlace_139 (by decide) (fun c139 => ?_) (fun c139 => ?_)
        · refine r_iload_n F dX12_wrongPlace_163 rfl ?_
          have hnone : kSt v f k q = none := by
            rw [hKS]
            unfold kS2
            rw [if_neg (by omega), if_pos (by omega)]
            rw [if_neg (fun h9 => c139 (by rw [h9.1]; rfl))]
          exact e_iret F hr hlk ⟨by rw [wpl_k hk hK hnone]; rfl, _, hS, by first | exact hXn | exact hX3⟩ (by decide) (by decide) dX12_wrongPlace_164
        · refine r_aload_n F dX12_wrongPlace_142 rfl ?_
          refine gq_blockElse F G hS dX12_wrongPlace_143 ?_
          refine r_aload_n F dX12_wrongPlace_146 rfl ?_
          refine gi_blocks F G hS dX12_wrongPlace_147 ?_
          refine r_iconst (v := 1) F dX12_wrongPlace_150 (by decide) ?_
          refine r_isub F dX12_wrongPlace_151 ?_
          refine al_blockElse F G hS (kn q2 - 1) (show v3.1 1232 0 - 1 = _ by rw [hR2.1, nl1]; exact nI_sub hI2.1) (by omega) dX12_wrongPlace_152 ?_
          rw [hT.2.2.2.2]
          refine r_if_ne (tgt := 163) F dX12_wrongPlace_153 (by decide) (fun c153 => ?_) (fun c153 => ?_)
          · refine r_iload_n F dX12_wrongPlace_163 rfl ?_
            have hnone : kSt v f k q = none := by
              rw [hKS]
              unfold kS2
              rw [if_neg (by omega), if_pos (by omega)]
              rw [if_neg (fun h9 => c153 (by rw [h9.2]; rfl))]
            exact e_iret F hr hlk ⟨by rw [wpl_k hk hK hnone]; rfl, _, hS, by first | exact hXn | exact hX3⟩ (by decide) (by decide) dX12_wrongPlace_164
          · refine r_aload_n F dX12_wrongPlace_156 rfl ?_
            refine c_Vi (ci := 12) F G (mm_closes hS (n := kn q2) (h := kh q2) (b := kb q2 (kn q2 - 1)) (dd := kdd q2 (kn q2 - 1)) (w := kl q2 (kn q2 - 1)) hR2.1 hI2.1 (by omega) hR2.2.1 hT.2.2.1 hI2.2.2.2.2.2 (by omega) hT.2.2.2.1 (by omega) hT.2.1) (cwV 0 F.2.2.2.2 (zgV km_X12_182 ki_X12_closes ke_X12_X12_closes kn_X12 ko_X12_closes) rfl rfl rfl ⟨rfl, hd_yX12_closes⟩ ⟨Nat.le_of_ble_eq_true rfl, Nat.le_of_ble_eq_true rfl⟩) rfl (by decide) hS.al rfl rfl (Nat.le_of_ble_eq_true rfl) dX12_wrongPlace_157 ⟨Nat.le_of_ble_eq_true rfl, Nat.le_of_ble_eq_true rfl⟩ (fun r157 S157 h157 => ?_)
            obtain ⟨a157, x, hS, hx157⟩ := h157
            subst a157
            have hXn := hX3.u (id := 1238) (k := 0) (x := x) (by omega)
            refine r_if_ne (tgt := 165) F dX12_wrongPlace_160 (by decide) (fun c160 => ?_) (fun c160 => ?_)
            · have hCC := if10 c160
              have ex : x = nI (kb q2 (kn q2 - 1)) := hx157 hCC
              subst ex
              refine r_aload_n F dX12_wrongPlace_165 rfl ?_
              refine gq_blockElse F G hS dX12_wrongPlace_166 ?_
              refine r_aload_n F dX12_wrongPlace_169 rfl ?_
              refine gi_blocks F G hS dX12_wrongPlace_170 ?_
              refine r_iconst (v := 1) F dX12_wrongPlace_173 (by decide) ?_
              refine r_isub F dX12_wrongPlace_174 ?_
              refine r_iconst (v := 1) F dX12_wrongPlace_175 (by decide) ?_
              refine as_blockElse F G hS (kn q2 - 1) (show v3.1 1232 0 - 1 = _ by rw [hR2.1, nl1]; exact nI_sub hI2.1) (by omega) dX12_wrongPlace_176 (fun S hS => ?_)
              refine r_aload_n F dX12_wrongPlace_177 rfl ?_
              refine gq_blockDead F G hS dX12_wrongPlace_178 ?_
              refine r_aload_n F dX12_wrongPlace_181 rfl ?_
              refine gi_blocks F G hS dX12_wrongPlace_182 ?_
              refine r_iconst (v := 1) F dX12_wrongPlace_185 (by decide) ?_
              refine r_isub F dX12_wrongPlace_186 ?_
              refine r_iconst (v := 0) F dX12_wrongPlace_187 (by decide) ?_
              refine as_blockDead F G hS (kn q2 - 1) (show v3.1 1232 0 - 1 = _ by rw [hR2.1, nl1]; exact nI_sub hI2.1) (by omega) dX12_wrongPlace_188 (fun S hS => ?_)
              refine r_goto (tgt := 424) F dX12_wrongPlace_189 (by decide) ?_
              
              have hs4 : kSt v f k q = some (kElse (setH q2 (kb q2 (kn q2 - 1))) k) := by
                rw [hKS]
                unfold kS2
                rw [if_neg (by omega), if_pos (by omega), if_pos ⟨(nI_eq (by omega) (by omega)).mp c139, by cases hz : ke q2 (kn q2 - 1) with | none => rfl | some z => rw [hz] at c153; exact absurd (show (1 : Int32) = 0 from c153) (by decide)⟩, show kC q2 = some _ from if_pos hCC]
                rfl
              have hI4 : kI (k + 1) (2 * (k + 1)) (kElse (setH q2 (kb q2 (kn q2 - 1))) k) := ((hI2.sH (K := 2 * (k + 1)) (Nat.le_refl _) (by omega)).els k).up (Nat.le_refl _)
              refine zsub (lv' := [(2, .int (nI k)), (0, .ref g), (1, .int (nI f))]) (by simp [zs1, Value.category, show ((1 : Fin 4) : Nat) = 1 from rfl, show ((2 : Fin 4) : Nat) = 2 from rfl, show ((3 : Fin 4) : Nat) = 3 from rfl]) ?_
              refine r_iinc F dX12_wrongPlace_424 rfl (by decide) ?_
              refine r_goto (tgt := 23) F dX12_wrongPlace_427 (by decide) ?_
              exact ih (n - 1) _ _ (by omega) ⟨k + 1, _, kElse (setH q2 (kb q2 (kn q2 - 1))) k, by omega, hS, ((hX3.u (by omega)).u (by omega)).u (by omega), kRun_s hK hs4, (hR2.sH _).els k, hI4, by rw [show nI k + Int32.ofInt 1 = nI (k + 1) from nI_add k 1]; rfl⟩
            · refine r_iload_n F dX12_wrongPlace_163 rfl ?_
              have hnone : kSt v f k q = none := by
                rw [hKS]
                unfold kS2
                rw [if_neg (by omega), if_pos (by omega)]
                have h9 := if01 c160
                have h8 : kC q2 = none := if_neg h9
                rw [h8]
                split <;> rfl
              exact e_iret F hr hlk ⟨by rw [wpl_k hk hK hnone]; rfl, _, hS, by first | exact hXn | exact hX3⟩ (by decide) (by decide) dX12_wrongPlace_164
      · refine r_iload_n F dX12_wrongPlace_98 rfl ?_
        refine r_bipush (v := 23) F dX12_wrongPlace_99 (by decide) ?_
        refine r_icmp_lt (tgt := 120) F dX12_wrongPlace_101 (by decide) (fun h9 => absurd h9 (by rw [show (23 : Int32) = nI 23 from rfl, nI_ltI (by omega) (by omega)]; omega)) (fun _ => ?_)
        refine r_iload_n F dX12_wrongPlace_104 rfl ?_
        refine r_bipush (v := 25) F dX12_wrongPlace_105 (by decide) ?_
        refine r_icmp_gt (tgt := 120) F dX12_wrongPlace_107 (by decide) (fun _ => ?_) (fun h9 => absurd (by rw [show (25 : Int32) = nI 25 from rfl, nI_ltI (by omega) (by omega)]; omega) h9)
        refine r_iload_n F dX12_wrongPlace_120 rfl ?_
        refine r_bipush (v := 26) F dX12_wrongPlace_121 (by decide) ?_
        refine r_icmp_ne (tgt := 192) F dX12_wrongPlace_123 (by decide) (fun _ => ?_) (fun h9 => absurd h9 (by rw [show (26 : Int32) = nI 26 from rfl, nI_eq (by omega) (by omega)]; omega))
        refine r_iload_n F dX12_wrongPlace_192 rfl ?_
        refine r_bipush (v := 27) F dX12_wrongPlace_193 (by decide) ?_
        refine r_icmp_ne (tgt := 302) F dX12_wrongPlace_195 (by decide) (fun h9 => absurd (by rw [show (27 : Int32) = nI 27 from rfl, nI_eq (by omega) (by omega)]; omega) h9) (fun _ => ?_)
        refine r_aload_n F dX12_wrongPlace_198 rfl ?_
        refine gq_blockWord F G hS dX12_wrongPlace_199 ?_
        refine r_aload_n F dX12_wrongPlace_202 rfl ?_
        refine gi_blocks F G hS dX12_wrongPlace_203 ?_
        refine r_iconst (v := 1) F dX12_wrongPlace_206 (by decide) ?_
        refine r_isub F dX12_wrongPlace_207 ?_
        refine al_blockWord F G hS (kn q2 - 1) (show v3.1 1232 0 - 1 = _ by rw [hR2.1, nl1]; exact nI_sub hI2.1) (by omega) dX12_wrongPlace_208 ?_
        rw [hT.1]
        refine r_bipush (v := 25) F dX12_wrongPlace_209 (by decide) ?_
        refine r_icmp_ne (tgt := 246) F dX12_wrongPlace_211 (by decide) (fun c211 => ?_) (fun c211 => ?_)
        · refine r_iconst (v := 0) F dX12_wrongPlace_246 (by decide) ?_
          refine r_istore F dX12_wrongPlace_247 (by decide) ?_
          refine r_aload_n F dX12_wrongPlace_249 rfl ?_
          refine gi_blocks F G hS dX12_wrongPlace_250 ?_
          refine r_iconst (v := 1) F dX12_wrongPlace_253 (by decide) ?_
          rw [hR2.1]
          refine r_icmp_eq (tgt := 269) F dX12_wrongPlace_254 (by decide) (fun c254 => ?_) (fun c254 => ?_)
          · refine r_iload_n F dX12_wrongPlace_269 rfl ?_
            have hnone : kSt v f k q = none := by
              rw [hKS]
              unfold kS2
              rw [if_neg (by omega), if_neg (by omega), if_pos (by omega)]
              rw [if_pos (Or.inl (by have c9 := c254; rw [nl1, nI_eq (by omega) (by omega)] at c9; exact c9))]
            exact e_iret F hr hlk ⟨by rw [wpl_k hk hK hnone]; rfl, _, hS, by first | exact hXn | exact hX3⟩ (by decide) (by decide) dX12_wrongPlace_270
          · refine r_aload_n F dX12_wrongPlace_257 rfl ?_
            refine c_Vi (ci := 12) F G (mm_closes hS (n := kn q2) (h := kh q2) (b := kb q2 (kn q2 - 1)) (dd := kdd q2 (kn q2 - 1)) (w := kl q2 (kn q2 - 1)) hR2.1 hI2.1 (by omega) hR2.2.1 hT.2.2.1 hI2.2.2.2.2.2 (by omega) hT.2.2.2.1 (by omega) hT.2.1) (cwV 0 F.2.2.2.2 (zgV km_X12_182 ki_X12_closes ke_X12_X12_closes kn_X12 ko_X12_closes) rfl rfl rfl ⟨rfl, hd_yX12_closes⟩ ⟨Nat.le_of_ble_eq_true rfl, Nat.le_of_ble_eq_true rfl⟩) rfl (by decide) hS.al rfl rfl (Nat.le_of_ble_eq_true rfl) dX12_wrongPlace_258 ⟨Nat.le_of_ble_eq_true rfl, Nat.le_of_ble_eq_true rfl⟩ (fun r258 S258 h258 => ?_)
            obtain ⟨a258, x, hS, hx258⟩ := h258
            subst a258
            have hXn := hX3.u (id := 1238) (k := 0) (x := x) (by omega)
            refine r_if_eq (tgt := 269) F dX12_wrongPlace_261 (by decide) (fun c261 => ?_) (fun c261 => ?_)
            · refine r_iload_n F dX12_wrongPlace_269 rfl ?_
              have hnone : kSt v f k q = none := by
                rw [hKS]
                unfold kS2
                rw [if_neg (by omega), if_neg (by omega), if_pos (by omega)]
                have h8 : kC q2 = none := if_neg (if01 c261)
                rw [h8]
                split <;> rfl
              exact e_iret F hr hlk ⟨by rw [wpl_k hk hK hnone]; rfl, _, hS, by first | exact hXn | exact hX3⟩ (by decide) (by decide) dX12_wrongPlace_270
            · refine r_iload F dX12_wrongPlace_264 rfl ?_
              refine r_if_eq (tgt := 271) F dX12_wrongPlace_266 (by decide) (fun _ => ?_) (fun h9 => absurd rfl h9)
              have hCC := if10 c261
              have ex : x = nI (kb q2 (kn q2 - 1)) := hx258 hCC
              subst ex
              refine r_aload_n F dX12_wrongPlace_271 rfl ?_
              refine r_dup F dX12_wrongPlace_272 rfl ?_
              refine gi_blocks F G hS dX12_wrongPlace_273 ?_
              refine r_iconst (v := 1) F dX12_wrongPlace_276 (by decide) ?_
              refine r_isub F dX12_wrongPlace_277 ?_
              refine pi_blocks F G hS dX12_wrongPlace_278 (fun S hS => ?_)
              refine r_aload_n F dX12_wrongPlace_281 rfl ?_
              refine r_dup F dX12_wrongPlace_282 rfl ?_
              refine gi_height F G hS dX12_wrongPlace_283 ?_
              refine r_aload_n F dX12_wrongPlace_286 rfl ?_
              refine gq_blockLeaves F G hS dX12_wrongPlace_287 ?_
              refine r_aload_n F dX12_wrongPlace_290 rfl ?_
              refine gi_blocks F G hS dX12_wrongPlace_291 ?_
              refine al_blockLeaves F G hS (kn q2 - 1) (show (u1 (u1 v3 1238 0 (nI (kb q2 (kn q2 - 1)))) 1232 0 ((u1 v3 1238 0 (nI (kb q2 (kn q2 - 1)))).1 1232 0 - 1)).1 1232 0 = _ from (show v3.1 1232 0 - 1 = _ by rw [hR2.1, nl1]; exact nI_sub hI2.1)) (by omega) dX12_wrongPlace_294 ?_
              refine r_iadd F dX12_wrongPlace_295 ?_
              refine pi_height F G hS dX12_wrongPlace_296 (fun S hS => ?_)
              refine r_goto (tgt := 424) F dX12_wrongPlace_299 (by decide) ?_
              have e8 : v3.1 1232 0 - 1 = nI (kn q2 - 1) := by rw [hR2.1, nl1]; exact nI_sub hI2.1
              have e9 : nI (kb q2 (kn q2 - 1)) + v3.1 1234 (kn q2 - 1) = nI (kb q2 (kn q2 - 1) + kl q2 (kn q2 - 1)) := by rw [hT.2.1]; exact nI_add _ _
              have hS9 : zmR S0 g qa (u1 (u1 (u1 v3 1238 0 (nI (kb q2 (kn q2 - 1)))) 1232 0 (nI (kn q2 - 1))) 1238 0 (nI (kb q2 (kn q2 - 1) + kl q2 (kn q2 - 1)))) S := by rw [← e9, ← e8]; exact hS
              have hS := hS9
              have hn1 : ¬ kn q2 = 1 := fun h9 => c254 (by rw [h9]; rfl)
              have hs4 : kSt v f k q = some (kEnd (setH q2 (kb q2 (kn q2 - 1)))) := by
                rw [hKS]
                unfold kS2
                rw [if_neg (by omega), if_neg (by omega), if_pos (by omega), if_neg (by intro h9; rcases h9 with h9 | h9; exact hn1 h9; exact (fun h9 => c211 (by rw [h9.1]; rfl)) h9), show kC q2 = some _ from if_pos hCC]
                rfl
              have hI4 : kI (k + 1) (2 * (k + 1)) (kEnd (setH q2 (kb q2 (kn q2 - 1)))) := hI2.fin hn1
              refine zsub (lv' := [(2, .int (nI k)), (0, .ref g), (1, .int (nI f))]) (by simp [zs1, Value.category, show ((1 : Fin 4) : Nat) = 1 from rfl, show ((2 : Fin 4) : Nat) = 2 from rfl, show ((3 : Fin 4) : Nat) = 3 from rfl]) ?_
              refine r_iinc F dX12_wrongPlace_424 rfl (by decide) ?_
              refine r_goto (tgt := 23) F dX12_wrongPlace_427 (by decide) ?_
              exact ih (n - 1) _ _ (by omega) ⟨k + 1, _, kEnd (setH q2 (kb q2 (kn q2 - 1))), by omega, hS, ((hX3.u (by omega)).u (by omega)).u (by omega), kRun_s hK hs4, (hR2.sH _).fin, hI4, by rw [show nI k + Int32.ofInt 1 = nI (k + 1) from nI_add k 1]; rfl⟩
        · refine r_aload_n F dX12_wrongPlace_214 rfl ?_
          refine gq_blockElse F G hS dX12_wrongPlace_215 ?_
          refine r_aload_n F dX12_wrongPlace_218 rfl ?_
          refine gi_blocks F G hS dX12_wrongPlace_219 ?_
          refine r_iconst (v := 1) F dX12_wrongPlace_222 (by decide) ?_
          refine r_isub F dX12_wrongPlace_223 ?_
          refine al_blockElse F G hS (kn q2 - 1) (show v3.1 1232 0 - 1 = _ by rw [hR2.1, nl1]; exact nI_sub hI2.1) (by omega) dX12_wrongPlace_224 ?_
          rw [hT.2.2.2.2]
          refine r_if_ne (tgt := 246) F dX12_wrongPlace_225 (by decide) (fun c225 => ?_) (fun c225 => ?_)
          · refine r_iconst (v := 0) F dX12_wrongPlace_246 (by decide) ?_
            refine r_istore F dX12_wrongPlace_247 (by decide) ?_
            refine r_aload_n F dX12_wrongPlace_249 rfl ?_
            refine gi_blocks F G hS dX12_wrongPlace_250 ?_
            refine r_iconst (v := 1) F dX12_wrongPlace_253 (by decide) ?_
            rw [hR2.1]
            refine r_icmp_eq (tgt := 269) F dX12_wrongPlace_254 (by decide) (fun c254 => ?_) (fun c254 => ?_)
            · refine r_iload_n F dX12_wrongPlace_269 rfl ?_
              have hnone : kSt v f k q = none := by
                rw [hKS]
                unfold kS2
                rw [if_neg (by omega), if_neg (by omega), if_pos (by omega)]
                rw [if_pos (Or.inl (by have c9 := c254; rw [nl1, nI_eq (by omega) (by omega)] at c9; exact c9))]
              exact e_iret F hr hlk ⟨by rw [wpl_k hk hK hnone]; rfl, _, hS, by first | exact hXn | exact hX3⟩ (by decide) (by decide) dX12_wrongPlace_270
            · refine r_aload_n F dX12_wrongPlace_257 rfl ?_
              refine c_Vi (ci := 12) F G (mm_closes hS (n := kn q2) (h := kh q2) (b := kb q2 (kn q2 - 1)) (dd := kdd q2 (kn q2 - 1)) (w := kl q2 (kn q2 - 1)) hR2.1 hI2.1 (by omega) hR2.2.1 hT.2.2.1 hI2.2.2.2.2.2 (by omega) hT.2.2.2.1 (by omega) hT.2.1) (cwV 0 F.2.2.2.2 (zgV km_X12_182 ki_X12_closes ke_X12_X12_closes kn_X12 ko_X12_closes) rfl rfl rfl ⟨rfl, hd_yX12_closes⟩ ⟨Nat.le_of_ble_eq_true rfl, Nat.le_of_ble_eq_true rfl⟩) rfl (by decide) hS.al rfl rfl (Nat.le_of_ble_eq_true rfl) dX12_wrongPlace_258 ⟨Nat.le_of_ble_eq_true rfl, Nat.le_of_ble_eq_true rfl⟩ (fun r258 S258 h258 => ?_)
              obtain ⟨a258, x, hS, hx258⟩ := h258
              subst a258
              have hXn := hX3.u (id := 1238) (k := 0) (x := x) (by omega)
              refine r_if_eq (tgt := 269) F dX12_wrongPlace_261 (by decide) (fun c261 => ?_) (fun c261 => ?_)
              · refine r_iload_n F dX12_wrongPlace_269 rfl ?_
                have hnone : kSt v f k q = none := by
                  rw [hKS]
                  unfold kS2
                  rw [if_neg (by omega), if_neg (by omega), if_pos (by omega)]
                  have h8 : kC q2 = none := if_neg (if01 c261)
                  rw [h8]
                  split <;> rfl
                exact e_iret F hr hlk ⟨by rw [wpl_k hk hK hnone]; rfl, _, hS, by first | exact hXn | exact hX3⟩ (by decide) (by decide) dX12_wrongPlace_270
              · refine r_iload F dX12_wrongPlace_264 rfl ?_
                refine r_if_eq (tgt := 271) F dX12_wrongPlace_266 (by decide) (fun _ => ?_) (fun h9 => absurd rfl h9)
                have hCC := if10 c261
                have ex : x = nI (kb q2 (kn q2 - 1)) := hx258 hCC
                subst ex
                refine r_aload_n F dX12_wrongPlace_271 rfl ?_
                refine r_dup F dX12_wrongPlace_272 rfl ?_
                refine gi_blocks F G hS dX12_wrongPlace_273 ?_
                refine r_iconst (v := 1) F dX12_wrongPlace_276 (by decide) ?_
                refine r_isub F dX12_wrongPlace_277 ?_
                refine pi_blocks F G hS dX12_wrongPlace_278 (fun S hS => ?_)
                refine r_aload_n F dX12_wrongPlace_281 rfl ?_
                refine r_dup F dX12_wrongPlace_282 rfl ?_
                refine gi_height F G hS dX12_wrongPlace_283 ?_
                refine r_aload_n F dX12_wrongPlace_286 rfl ?_
                refine gq_blockLeaves F G hS dX12_wrongPlace_287 ?_
                refine r_aload_n F dX12_wrongPlace_290 rfl ?_
                refine gi_blocks F G hS dX12_wrongPlace_291 ?_
                refine al_blockLeaves F G hS (kn q2 - 1) (show (u1 (u1 v3 1238 0 (nI (kb q2 (kn q2 - 1)))) 1232 0 ((u1 v3 1238 0 (nI (kb q2 (kn q2 - 1)))).1 1232 0 - 1)).1 1232 0 = _ from (show v3.1 1232 0 - 1 = _ by rw [hR2.1, nl1]; exact nI_sub hI2.1)) (by omega) dX12_wrongPlace_294 ?_
                refine r_iadd F dX12_wrongPlace_295 ?_
                refine pi_height F G hS dX12_wrongPlace_296 (fun S hS => ?_)
                refine r_goto (tgt := 424) F dX12_wrongPlace_299 (by decide) ?_
                have e8 : v3.1 1232 0 - 1 = nI (kn q2 - 1) := by rw [hR2.1, nl1]; exact nI_sub hI2.1
                have e9 : nI (kb q2 (kn q2 - 1)) + v3.1 1234 (kn q2 - 1) = nI (kb q2 (kn q2 - 1) + kl q2 (kn q2 - 1)) := by rw [hT.2.1]; exact nI_add _ _
                have hS9 : zmR S0 g qa (u1 (u1 (u1 v3 1238 0 (nI (kb q2 (kn q2 - 1)))) 1232 0 (nI (kn q2 - 1))) 1238 0 (nI (kb q2 (kn q2 - 1) + kl q2 (kn q2 - 1)))) S := by rw [← e9, ← e8]; exact hS
                have hS := hS9
                have hn1 : ¬ kn q2 = 1 := fun h9 => c254 (by rw [h9]; rfl)
                have hs4 : kSt v f k q = some (kEnd (setH q2 (kb q2 (kn q2 - 1)))) := by
                  rw [hKS]
                  unfold kS2
                  rw [if_neg (by omega), if_neg (by omega), if_pos (by omega), if_neg (by intro h9; rcases h9 with h9 | h9; exact hn1 h9; exact (fun h9 => c225 (by rw [h9.2.1]; rfl)) h9), show kC q2 = some _ from if_pos hCC]
                  rfl
                have hI4 : kI (k + 1) (2 * (k + 1)) (kEnd (setH q2 (kb q2 (kn q2 - 1)))) := hI2.fin hn1
                refine zsub (lv' := [(2, .int (nI k)), (0, .ref g), (1, .int (nI f))]) (by simp [zs1, Value.category, show ((1 : Fin 4) : Nat) = 1 from rfl, show ((2 : Fin 4) : Nat) = 2 from rfl, show ((3 : Fin 4) : Nat) = 3 from rfl]) ?_
                refine r_iinc F dX12_wrongPlace_424 rfl (by decide) ?_
                refine r_goto (tgt := 23) F dX12_wrongPlace_427 (by decide) ?_
                exact ih (n - 1) _ _ (by omega) ⟨k + 1, _, kEnd (setH q2 (kb q2 (kn q2 - 1))), by omega, hS, ((hX3.u (by omega)).u (by omega)).u (by omega), kRun_s hK hs4, (hR2.sH _).fin, hI4, by rw [show nI k + Int32.ofInt 1 = nI (k + 1) from nI_add k 1]; rfl⟩
          · refine r_aload_n F dX12_wrongPlace_228 rfl ?_
            refine gq_blockLeaves F G hS dX12_wrongPlace_229 ?_
            refine r_aload_n F dX12_wrongPlace_232 rfl ?_
            refine gi_blocks F G hS dX12_wrongPlace_233 ?_
            refine r_iconst (v := 1) F dX12_wrongPlace_236 (by decide) ?_
            refine r_isub F dX12_wrongPlace_237 ?_
            refine al_blockLeaves F G hS (kn q2 - 1) (show v3.1 1232 0 - 1 = _ by rw [hR2.1, nl1]; exact nI_sub hI2.1) (by omega) dX12_wrongPlace_238 ?_
            rw [hT.2.1]
            refine r_if_le (tgt := 246) F dX12_wrongPlace_239 (by decide) (fun c239 => ?_) (fun c239 => ?_)
            · refine r_iconst (v := 0) F dX12_wrongPlace_246 (by decide) ?_
              refine r_istore F dX12_wrongPlace_247 (by decide) ?_
              refine r_aload_n F dX12_wrongPlace_249 rfl ?_
              refine gi_blocks F G hS dX12_wrongPlace_250 ?_
              refine r_iconst (v := 1) F dX12_wrongPlace_253 (by decide) ?_
              rw [hR2.1]
              refine r_icmp_eq (tgt := 269) F dX12_wrongPlace_254 (by decide) (fun c254 => ?_) (fun c254 => ?_)
              · refine r_iload_n F dX12_wrongPlace_269 rfl ?_
                have hnone : kSt v f k q = none := by
                  rw [hKS]
                  unfold kS2
                  rw [if_neg (by omega), if_neg (by omega), if_pos (by omega)]
                  rw [if_pos (Or.inl (by have c9 := c254; rw [nl1, nI_eq (by omega) (by omega)] at c9; exact c9))]
                exact e_iret F hr hlk ⟨by rw [wpl_k hk hK hnone]; rfl, _, hS, by first | exact hXn | exact hX3⟩ (by decide) (by decide) dX12_wrongPlace_270
              · refine r_aload_n F dX12_wrongPlace_257 rfl ?_
                refine c_Vi (ci := 12) F G (mm_closes hS (n := kn q2) (h := kh q2) (b := kb q2 (kn q2 - 1)) (dd := kdd q2 (kn q2 - 1)) (w := kl q2 (kn q2 - 1)) hR2.1 hI2.1 (by omega) hR2.2.1 hT.2.2.1 hI2.2.2.2.2.2 (by omega) hT.2.2.2.1 (by omega) hT.2.1) (cwV 0 F.2.2.2.2 (zgV km_X12_182 ki_X12_closes ke_X12_X12_closes kn_X12 ko_X12_closes) rfl rfl rfl ⟨rfl, hd_yX12_closes⟩ ⟨Nat.le_of_ble_eq_true rfl, Nat.le_of_ble_eq_true rfl⟩) rfl (by decide) hS.al rfl rfl (Nat.le_of_ble_eq_true rfl) dX12_wrongPlace_258 ⟨Nat.le_of_ble_eq_true rfl, Nat.le_of_ble_eq_true rfl⟩ (fun r258 S258 h258 => ?_)
                obtain ⟨a258, x, hS, hx258⟩ := h258
                subst a258
                have hXn := hX3.u (id := 1238) (k := 0) (x := x) (by omega)
                refine r_if_eq (tgt := 269) F dX12_wrongPlace_261 (by decide) (fun c261 => ?_) (fun c261 => ?_)
                · refine r_iload_n F dX12_wrongPlace_269 rfl ?_
                  have hnone : kSt v f k q = none := by
                    rw [hKS]
                    unfold kS2
                    rw [if_neg (by omega), if_neg (by omega), if_pos (by omega)]
                    have h8 : kC q2 = none := if_neg (if01 c261)
                    rw [h8]
                    split <;> rfl
                  exact e_iret F hr hlk ⟨by rw [wpl_k hk hK hnone]; rfl, _, hS, by first | exact hXn | exact hX3⟩ (by decide) (by decide) dX12_wrongPlace_270
                · refine r_iload F dX12_wrongPlace_264 rfl ?_
                  refine r_if_eq (tgt := 271) F dX12_wrongPlace_266 (by decide) (fun _ => ?_) (fun h9 => absurd rfl h9)
                  have hCC := if10 c261
                  have ex : x = nI (kb q2 (kn q2 - 1)) := hx258 hCC
                  subst ex
                  refine r_aload_n F dX12_wrongPlace_271 rfl ?_
                  refine r_dup F dX12_wrongPlace_272 rfl ?_
                  refine gi_blocks F G hS dX12_wrongPlace_273 ?_
                  refine r_iconst (v := 1) F dX12_wrongPlace_276 (by decide) ?_
                  refine r_isub F dX12_wrongPlace_277 ?_
                  refine pi_blocks F G hS dX12_wrongPlace_278 (fun S hS => ?_)
                  refine r_aload_n F dX12_wrongPlace_281 rfl ?_
                  refine r_dup F dX12_wrongPlace_282 rfl ?_
                  refine gi_height F G hS dX12_wrongPlace_283 ?_
                  refine r_aload_n F dX12_wrongPlace_286 rfl ?_
                  refine gq_blockLeaves F G hS dX12_wrongPlace_287 ?_
                  refine r_aload_n F dX12_wrongPlace_290 rfl ?_
                  refine gi_blocks F G hS dX12_wrongPlace_291 ?_
                  refine al_blockLeaves F G hS (kn q2 - 1) (show (u1 (u1 v3 1238 0 (nI (kb q2 (kn q2 - 1)))) 1232 0 ((u1 v3 1238 0 (nI (kb q2 (kn q2 - 1)))).1 1232 0 - 1)).1 1232 0 = _ from (show v3.1 1232 0 - 1 = _ by rw [hR2.1, nl1]; exact nI_sub hI2.1)) (by omega) dX12_wrongPlace_294 ?_
                  refine r_iadd F dX12_wrongPlace_295 ?_
                  refine pi_height F G hS dX12_wrongPlace_296 (fun S hS => ?_)
                  refine r_goto (tgt := 424) F dX12_wrongPlace_299 (by decide) ?_
                  have e8 : v3.1 1232 0 - 1 = nI (kn q2 - 1) := by rw [hR2.1, nl1]; exact nI_sub hI2.1
                  have e9 : nI (kb q2 (kn q2 - 1)) + v3.1 1234 (kn q2 - 1) = nI (kb q2 (kn q2 - 1) + kl q2 (kn q2 - 1)) := by rw [hT.2.1]; exact nI_add _ _
                  have hS9 : zmR S0 g qa (u1 (u1 (u1 v3 1238 0 (nI (kb q2 (kn q2 - 1)))) 1232 0 (nI (kn q2 - 1))) 1238 0 (nI (kb q2 (kn q2 - 1) + kl q2 (kn q2 - 1)))) S := by rw [← e9, ← e8]; exact hS
                  have hS := hS9
                  have hn1 : ¬ kn q2 = 1 := fun h9 => c254 (by rw [h9]; rfl)
                  have hs4 : kSt v f k q = some (kEnd (setH q2 (kb q2 (kn q2 - 1)))) := by
                    rw [hKS]
                    unfold kS2
                    rw [if_neg (by omega), if_neg (by omega), if_pos (by omega), if_neg (by intro h9; rcases h9 with h9 | h9; exact hn1 h9; exact (fun h9 => by have c9 := c239; rw [nl0, nI_leI (by omega) (by omega)] at c9; omega) h9), show kC q2 = some _ from if_pos hCC]
                    rfl
                  have hI4 : kI (k + 1) (2 * (k + 1)) (kEnd (setH q2 (kb q2 (kn q2 - 1)))) := hI2.fin hn1
                  refine zsub (lv' := [(2, .int (nI k)), (0, .ref g), (1, .int (nI f))]) (by simp [zs1, Value.category, show ((1 : Fin 4) : Nat) = 1 from rfl, show ((2 : Fin 4) : Nat) = 2 from rfl, show ((3 : Fin 4) : Nat) = 3 from rfl]) ?_
                  refine r_iinc F dX12_wrongPlace_424 rfl (by decide) ?_
                  refine r_goto (tgt := 23) F dX12_wrongPlace_427 (by decide) ?_
                  exact ih (n - 1) _ _ (by omega) ⟨k + 1, _, kEnd (setH q2 (kb q2 (kn q2 - 1))), by omega, hS, ((hX3.u (by omega)).u (by omega)).u (by omega), kRun_s hK hs4, (hR2.sH _).fin, hI4, by rw [show nI k + Int32.ofInt 1 = nI (k + 1) from nI_add k 1]; rfl⟩
            · refine r_iconst (v := 1) F dX12_wrongPlace_242 (by decide) ?_
              refine r_goto (tgt := 247) F dX12_wrongPlace_243 (by decide) ?_
              refine r_istore F dX12_wrongPlace_247 (by decide) ?_
              refine r_aload_n F dX12_wrongPlace_249 rfl ?_
              refine gi_blocks F G hS dX12_wrongPlace_250 ?_
              refine r_iconst (v := 1) F dX12_wrongPlace_253 (by decide) ?_
              rw [hR2.1]
              refine r_icmp_eq (tgt := 269) F dX12_wrongPlace_254 (by decide) (fun c254 => ?_) (fun c254 => ?_)
              · refine r_iload_n F dX12_wrongPlace_269 rfl ?_
                have hnone : kSt v f k q = none := by
                  rw [hKS]
                  unfold kS2
                  rw [if_neg (by omega), if_neg (by omega), if_pos (by omega)]
                  rw [if_pos (Or.inl (by have c9 := c254; rw [nl1, nI_eq (by omega) (by omega)] at c9; exact c9))]
                exact e_iret F hr hlk ⟨by rw [wpl_k hk hK hnone]; rfl, _, hS, by first | exact hXn | exact hX3⟩ (by decide) (by decide) dX12_wrongPlace_270
              · refine r_aload_n F dX12_wrongPlace_257 rfl ?_
                refine c_Vi (ci := 12) F G (mm_closes hS (n := kn q2) (h := kh q2) (b := kb q2 (kn q2 - 1)) (dd := kdd q2 (kn q2 - 1)) (w := kl q2 (kn q2 - 1)) hR2.1 hI2.1 (by omega) hR2.2.1 hT.2.2.1 hI2.2.2.2.2.2 (by omega) hT.2.2.2.1 (by omega) hT.2.1) (cwV 0 F.2.2.2.2 (zgV km_X12_182 ki_X12_closes ke_X12_X12_closes kn_X12 ko_X12_closes) rfl rfl rfl ⟨rfl, hd_yX12_closes⟩ ⟨Nat.le_of_ble_eq_true rfl, Nat.le_of_ble_eq_true rfl⟩) rfl (by decide) hS.al rfl rfl (Nat.le_of_ble_eq_true rfl) dX12_wrongPlace_258 ⟨Nat.le_of_ble_eq_true rfl, Nat.le_of_ble_eq_true rfl⟩ (fun r258 S258 h258 => ?_)
                obtain ⟨a258, x, hS, hx258⟩ := h258
                subst a258
                have hXn := hX3.u (id := 1238) (k := 0) (x := x) (by omega)
                refine r_if_eq (tgt := 269) F dX12_wrongPlace_261 (by decide) (fun c261 => ?_) (fun c261 => ?_)
                · refine r_iload_n F dX12_wrongPlace_269 rfl ?_
                  have hnone : kSt v f k q = none := by
                    rw [hKS]
                    unfold kS2
                    rw [if_neg (by omega), if_neg (by omega), if_pos (by omega)]
                    have h8 : kC q2 = none := if_neg (if01 c261)
                    rw [h8]
                    split <;> rfl
                  exact e_iret F hr hlk ⟨by rw [wpl_k hk hK hnone]; rfl, _, hS, by first | exact hXn | exact hX3⟩ (by decide) (by decide) dX12_wrongPlace_270
                · refine r_iload F dX12_wrongPlace_264 rfl ?_
                  refine r_if_eq (tgt := 271) F dX12_wrongPlace_266 (by decide) (fun h9 => absurd h9 (by decide)) (fun _ => ?_)
                  refine r_iload_n F dX12_wrongPlace_269 rfl ?_
                  have hnone : kSt v f k q = none := by
                    rw [hKS]
                    unfold kS2
                    rw [if_neg (by omega), if_neg (by omega), if_pos (by omega)]
                    rw [if_pos (Or.inr ⟨(nI_eq (by omega) (by omega)).mp c211, by cases hz : ke q2 (kn q2 - 1) with | none => rfl | some z => rw [hz] at c225; exact absurd (show (1 : Int32) = 0 from c225) (by decide), by have c9 := c239; rw [nl0, nI_leI (by omega) (by omega)] at c9; omega⟩)]
                  exact e_iret F hr hlk ⟨by rw [wpl_k hk hK hnone]; rfl, _, hS, by first | exact hXn | exact hX3⟩ (by decide) (by decide) dX12_wrongPlace_270
      · refine r_iload_n F dX12_wrongPlace_98 rfl ?_
        refine r_bipush (v := 23) F dX12_wrongPlace_99 (by decide) ?_
        refine r_icmp_lt (tgt := 120) F dX12_wrongPlace_101 (by decide) (fun h9 => absurd h9 (by rw [show (23 : Int32) = nI 23 from rfl, nI_ltI (by omega) (by omega)]; omega)) (fun _ => ?_)
        refine r_iload_n F dX12_wrongPlace_104 rfl ?_
        refine r_bipush (v := 25) F dX12_wrongPlace_105 (by decide) ?_
        refine r_icmp_gt (tgt := 120) F dX12_wrongPlace_107 (by decide) (fun _ => ?_) (fun h9 => absurd (by rw [show (25 : Int32) = nI 25 from rfl, nI_ltI (by omega) (by omega)]; omega) h9)
        refine r_iload_n F dX12_wrongPlace_120 rfl ?_
        refine r_bipush (v := 26) F dX12_wrongPlace_121 (by decide) ?_
        refine r_icmp_ne (tgt := 192) F dX12_wrongPlace_123 (by decide) (fun _ => ?_) (fun h9 => absurd h9 (by rw [show (26 : Int32) = nI 26 from rfl, nI_eq (by omega) (by omega)]; omega))
        refine r_iload_n F dX12_wrongPlace_192 rfl ?_
        refine r_bipush (v := 27) F dX12_wrongPlace_193 (by decide) ?_
        refine r_icmp_ne (tgt := 302) F dX12_wrongPlace_195 (by decide) (fun _ => ?_) (fun h9 => absurd h9 (by rw [show (27 : Int32) = nI 27 from rfl, nI_eq (by omega) (by omega)]; omega))
        refine r_iload_n F dX12_wrongPlace_302 rfl ?_
        refine r_bipush (v := 28) F dX12_wrongPlace_303 (by decide) ?_
        refine r_icmp_eq (tgt := 314) F dX12_wrongPlace_305 (by decide) (fun _ => ?_) (fun h9 => absurd (by rw [show (28 : Int32) = nI 28 from rfl, nI_eq (by omega) (by omega)]; omega) h9)
        obtain ⟨j, hj, ej⟩ := hgw.2.2.2.1 (by omega)
        subst ej
        refine r_iload F dX12_wrongPlace_314 rfl ?_
        refine r_aload_n F dX12_wrongPlace_316 rfl ?_
        refine gi_blocks F G hS dX12_wrongPlace_317 ?_
        refine r_icmp_lt (tgt := 325) F dX12_wrongPlace_320 (by decide) (fun c320 => ?_) (fun c320 => ?_)
        · refine r_aload_n F dX12_wrongPlace_325 rfl ?_
          refine gi_blocks F G hS dX12_wrongPlace_326 ?_
          refine r_iconst (v := 1) F dX12_wrongPlace_329 (by decide) ?_
          refine r_isub F dX12_wrongPlace_330 ?_
          refine r_iload F dX12_wrongPlace_331 rfl ?_
          refine r_isub F dX12_wrongPlace_333 ?_
          have hjn : j < kn q2 := by have c9 := c320; rw [hR2.1, nI_ltI (by omega) (by omega)] at c9; omega
          have hTj := hR2.2.2 (kn q2 - 1 - j) (by omega)
          have hlj := (hI2.2.2.2.1 (kn q2 - 1 - j) (by omega)).1
          have hbj : bw v f q2 (kn q2 - 1 - j) < 36 := hbwb _ (by omega)
          have htk : ktk v f q2 j ≤ 1 := by unfold ktk; split <;> omega
          rw [hR2.1, show nI (kn q2) - 1 - nI j = nI (kn q2 - 1 - j) by rw [nl1, nI_sub hI2.1, nI_sub (by omega)]]
          refine r_istore F dX12_wrongPlace_334 (by decide) ?_
          refine r_aload_n F dX12_wrongPlace_336 rfl ?_
          refine gq_blockWord F G hS dX12_wrongPlace_337 ?_
          refine r_iload F dX12_wrongPlace_340 rfl ?_
          refine al_blockWord F G hS (kn q2 - 1 - j) rfl (by omega) dX12_wrongPlace_342 ?_
          rw [hTj.1]
          refine r_bipush (v := 24) F dX12_wrongPlace_343 (by decide) ?_
          refine r_icmp_ne (tgt := 352) F dX12_wrongPlace_345 (by decide) (fun c345 => ?_) (fun c345 => ?_)
          · refine r_aload_n F dX12_wrongPlace_352 rfl ?_
            refine gq_blockLeaves F G hS dX12_wrongPlace_353 ?_
            refine r_iload F dX12_wrongPlace_356 rfl ?_
            refine al_blockLeaves F G hS (kn q2 - 1 - j) rfl (by omega) dX12_wrongPlace_358 ?_
            rw [hTj.2.1]
            refine r_istore F dX12_wrongPlace_359 (by decide) ?_
            have ett : nI (kl q2 (kn q2 - 1 - j)) = nI (ktk v f q2 j) := by
              unfold ktk
              rw [if_neg (fun h9 => c345 (by rw [h9]; rfl))]
            rw [ett]
            refine r_aload_n F dX12_wrongPlace_361 rfl ?_
            refine r_iload F dX12_wrongPlace_362 rfl ?_
            refine c_Vi (ci := 12) F G (mm_pops hS (n := kn q2) (h := kh q2) (b := kb q2 (kn q2 - 1)) (dd := kdd q2 (kn q2 - 1)) hR2.1 hI2.1 (by omega) hR2.2.1 hT.2.2.1 hI2.2.2.2.2.2 (by omega) hT.2.2.2.1 (w := ktk v f q2 j) (by omega)) (cwV 1 F.2.2.2.2 (zgV km_X12_165 ki_X12_pops ke_X12_X12_pops kn_X12 ko_X12_pops) rfl rfl rfl ⟨rfl, hd_yX12_pops⟩ ⟨Nat.le_of_ble_eq_true rfl, Nat.le_of_ble_eq_true rfl⟩) rfl (by decide) hS.al rfl rfl (Nat.le_of_ble_eq_true rfl) dX12_wrongPlace_364 ⟨Nat.le_of_ble_eq_true rfl, Nat.le_of_ble_eq_true rfl⟩ (fun r364 S364 h364 => ?_)
            obtain ⟨a364, hS⟩ := h364
            subst a364
            have hXn := hX3.u (id := 1238) (k := 0) (x := nI (if ktk v f q2 j ≤ kh q2 - kb q2 (kn q2 - 1) then kh q2 - ktk v f q2 j else kb q2 (kn q2 - 1))) (by omega)
            refine r_if_ne (tgt := 372) F dX12_wrongPlace_367 (by decide) (fun c367 => ?_) (fun c367 => ?_)
            · have hp2 := if10 c367
              have hx2 := kx_b hI2 (ktk v f q2 j)
              have hKP2 : kP q2 (ktk v f q2 j) = some (setH q2 (if ktk v f q2 j ≤ kh q2 - kb q2 (kn q2 - 1) then kh q2 - ktk v f q2 j else kb q2 (kn q2 - 1))) := by rw [kP_eq, if_pos hp2]
              obtain ⟨x2, ex2⟩ : ∃ x2, (if ktk v f q2 j ≤ kh q2 - kb q2 (kn q2 - 1) then kh q2 - ktk v f q2 j else kb q2 (kn q2 - 1)) = x2 := ⟨_, rfl⟩
              rw [ex2] at hS hx2 hKP2
              refine r_iload_n F dX12_wrongPlace_372 rfl ?_
              refine r_bipush (v := 28) F dX12_wrongPlace_373 (by decide) ?_
              refine r_icmp_ne (tgt := 385) F dX12_wrongPlace_375 (by decide) (fun h9 => absurd (by rw [show (28 : Int32) = nI 28 from rfl, nI_eq (by omega) (by omega)]; omega) h9) (fun _ => ?_)
              refine r_aload_n F dX12_wrongPlace_378 rfl ?_
              refine c_Vv (ci := 12) F G (mm_dies hS (n := kn q2) (b := kb q2 (kn q2 - 1)) hR2.1 hI2.1 (by omega) hT.2.2.1) (cwV 0 F.2.2.2.2 (zgV km_X12_186 ki_X12_dies ke_X12_X12_dies kn_X12 ko_X12_dies) rfl rfl rfl ⟨rfl, hd_yX12_dies⟩ ⟨Nat.le_of_ble_eq_true rfl, Nat.le_of_ble_eq_true rfl⟩) rfl (by decide) hS.al rfl rfl (Nat.le_of_ble_eq_true rfl) dX12_wrongPlace_379 ⟨Nat.le_of_ble_eq_true rfl, Nat.le_of_ble_eq_true rfl⟩ (fun S379 hS => ?_)
              refine r_goto (tgt := 396) F dX12_wrongPlace_382 (by decide) ?_
              refine r_goto (tgt := 424) F dX12_wrongPlace_396 (by decide) ?_
              
              have hs4 : kSt v f k q = some (kDie (setH q2 x2)) := by
                rw [hKS]
                unfold kS2
                rw [if_neg (by omega), if_neg (by omega), if_neg (by omega), if_pos (by omega), nI_clamp (by omega)]
                rw [if_neg (by omega), hKP2]
                show some (if w = 28 then _ else _) = _
                rw [if_pos (by omega)]
              have hI4 : kI (k + 1) (2 * (k + 1)) (kDie (setH q2 x2)) := ((hI2.sH (K := 2 * (k + 1)) hx2.1 (by omega)).die).up (Nat.le_refl _)
              refine zsub (lv' := [(2, .int (nI k)), (0, .ref g), (1, .int (nI f))]) (by simp [zs1, Value.category, show ((1 : Fin 4) : Nat) = 1 from rfl, show ((2 : Fin 4) : Nat) = 2 from rfl, show ((3 : Fin 4) : Nat) = 3 from rfl]) ?_
              refine r_iinc F dX12_wrongPlace_424 rfl (by decide) ?_
              refine r_goto (tgt := 23) F dX12_wrongPlace_427 (by decide) ?_
              exact ih (n - 1) _ _ (by omega) ⟨k + 1, _, kDie (setH q2 x2), by omega, hS, ((hX3.u (by omega)).u (by omega)).u (by omega), kRun_s hK hs4, (hR2.sH x2).die, hI4, by rw [show nI k + Int32.ofInt 1 = nI (k + 1) from nI_add k 1]; rfl⟩
            · refine r_iload_n F dX12_wrongPlace_370 rfl ?_
              have hnone : kSt v f k q = none := by
                rw [hKS]
                unfold kS2
                rw [if_neg (by omega), if_neg (by omega), if_neg (by omega), if_pos (by omega), nI_clamp (by omega)]
                rw [if_neg (by omega), kP_eq, if_neg (if01 c367)]
                rfl
              exact e_iret F hr hlk ⟨by rw [wpl_k hk hK hnone]; rfl, _, hS, by first | exact hXn | exact hX3⟩ (by decide) (by decide) dX12_wrongPlace_371
          · refine r_iconst (v := 0) F dX12_wrongPlace_348 (by decide) ?_
            refine r_goto (tgt := 359) F dX12_wrongPlace_349 (by decide) ?_
            
            refine r_istore F dX12_wrongPlace_359 (by decide) ?_
            have ett : 0 = nI (ktk v f q2 j) := by
              unfold ktk
              rw [if_pos (by have c9 := c345; rw [show (24 : Int32) = nI 24 from rfl, nI_eq (by omega) (by omega)] at c9; exact c9)]
              rfl
            rw [ett]
            refine r_aload_n F dX12_wrongPlace_361 rfl ?_
            refine r_iload F dX12_wrongPlace_362 rfl ?_
            refine c_Vi (ci := 12) F G (mm_pops hS (n := kn q2) (h := kh q2) (b := kb q2 (kn q2 - 1)) (dd := kdd q2 (kn q2 - 1)) hR2.1 hI2.1 (by omega) hR2.2.1 hT.2.2.1 hI2.2.2.2.2.2 (by omega) hT.2.2.2.1 (w := ktk v f q2 j) (by omega)) (cwV 1 F.2.2.2.2 (zgV km_X12_165 ki_X12_pops ke_X12_X12_pops kn_X12 ko_X12_pops) rfl rfl rfl ⟨rfl, hd_yX12_pops⟩ ⟨Nat.le_of_ble_eq_true rfl, Nat.le_of_ble_eq_true rfl⟩) rfl (by decide) hS.al rfl rfl (Nat.le_of_ble_eq_true rfl) dX12_wrongPlace_364 ⟨Nat.le_of_ble_eq_true rfl, Nat.le_of_ble_eq_true rfl⟩ (fun r364 S364 h364 => ?_)
            obtain ⟨a364, hS⟩ := h364
            subst a364
            have hXn := hX3.u (id := 1238) (k := 0) (x := nI (if ktk v f q2 j ≤ kh q2 - kb q2 (kn q2 - 1) then kh q2 - ktk v f q2 j else kb q2 (kn q2 - 1))) (by omega)
            refine r_if_ne (tgt := 372) F dX12_wrongPlace_367 (by decide) (fun c367 => ?_) (fun c367 => ?_)
            · have hp2 := if10 c367
              have hx2 := kx_b hI2 (ktk v f q2 j)
              have hKP2 : kP q2 (ktk v f q2 j) = some (setH q2 (if ktk v f q2 j ≤ kh q2 - kb q2 (kn q2 - 1) then kh q2 - ktk v f q2 j else kb q2 (kn q2 - 1))) := by rw [kP_eq, if_pos hp2]
              obtain ⟨x2, ex2⟩ : ∃ x2, (if ktk v f q2 j ≤ kh q2 - kb q2 (kn q2 - 1) then kh q2 - ktk v f q2 j else kb q2 (kn q2 - 1)) = x2 := ⟨_, rfl⟩
              rw [ex2] at hS hx2 hKP2
              refine r_iload_n F dX12_wrongPlace_372 rfl ?_
              refine r_bipush (v := 28) F dX12_wrongPlace_373 (by decide) ?_
              refine r_icmp_ne (tgt := 385) F dX12_wrongPlace_375 (by decide) (fun h9 => absurd (by rw [show (28 : Int32) = nI 28 from rfl, nI_eq (by omega) (by omega)]; omega) h9) (fun _ => ?_)
              refine r_aload_n F dX12_wrongPlace_378 rfl ?_
              refine c_Vv (ci := 12) F G (mm_dies hS (n := kn q2) (b := kb q2 (kn q2 - 1)) hR2.1 hI2.1 (by omega) hT.2.2.1) (cwV 0 F.2.2.2.2 (zgV km_X12_186 ki_X12_dies ke_X12_X12_dies kn_X12 ko_X12_dies) rfl rfl rfl ⟨rfl, hd_yX12_dies⟩ ⟨Nat.le_of_ble_eq_true rfl, Nat.le_of_ble_eq_true rfl⟩) rfl (by decide) hS.al rfl rfl (Nat.le_of_ble_eq_true rfl) dX12_wrongPlace_379 ⟨Nat.le_of_ble_eq_true rfl, Nat.le_of_ble_eq_true rfl⟩ (fun S379 hS => ?_)
              refine r_goto (tgt := 396) F dX12_wrongPlace_382 (by decide) ?_
              refine r_goto (tgt := 424) F dX12_wrongPlace_396 (by decide) ?_
              
              have hs4 : kSt v f k q = some (kDie (setH q2 x2)) := by
                rw [hKS]
                unfold kS2
                rw [if_neg (by omega), if_neg (by omega), if_neg (by omega), if_pos (by omega), nI_clamp (by omega)]
                rw [if_neg (by omega), hKP2]
                show some (if w = 28 then _ else _) = _
                rw [if_pos (by omega)]
              have hI4 : kI (k + 1) (2 * (k + 1)) (kDie (setH q2 x2)) := ((hI2.sH (K := 2 * (k + 1)) hx2.1 (by omega)).die).up (Nat.le_refl _)
              refine zsub (lv' := [(2, .int (nI k)), (0, .ref g), (1, .int (nI f))]) (by simp [zs1, Value.category, show ((1 : Fin 4) : Nat) = 1 from rfl, show ((2 : Fin 4) : Nat) = 2 from rfl, show ((3 : Fin 4) : Nat) = 3 from rfl]) ?_
              refine r_iinc F dX12_wrongPlace_424 rfl (by decide) ?_
              refine r_goto (tgt := 23) F dX12_wrongPlace_427 (by decide) ?_
              exact ih (n - 1) _ _ (by omega) ⟨k + 1, _, kDie (setH q2 x2), by omega, hS, ((hX3.u (by omega)).u (by omega)).u (by omega), kRun_s hK hs4, (hR2.sH x2).die, hI4, by rw [show nI k + Int32.ofInt 1 = nI (k + 1) from nI_add k 1]; rfl⟩
            · refine r_iload_n F dX12_wrongPlace_370 rfl ?_
              have hnone : kSt v f k q = none := by
                rw [hKS]
                unfold kS2
                rw [if_neg (by omega), if_neg (by omega), if_neg (by omega), if_pos (by omega), nI_clamp (by omega)]
                rw [if_neg (by omega), kP_eq, if_neg (if01 c367)]
                rfl
              exact e_iret F hr hlk ⟨by rw [wpl_k hk hK hnone]; rfl, _, hS, by first | exact hXn | exact hX3⟩ (by decide) (by decide) dX12_wrongPlace_371
        · refine r_iload_n F dX12_wrongPlace_323 rfl ?_
          have hnone : kSt v f k q = none := by
            rw [hKS]
            unfold kS2
            rw [if_neg (by omega), if_neg (by omega), if_neg (by omega), if_pos (by omega), nI_clamp (by omega)]
            rw [if_pos (by have c9 := c320; rw [hR2.1, nI_ltI (by omega) (by omega)] at c9; omega)]
          exact e_iret F hr hlk ⟨by rw [wpl_k hk hK hnone]; rfl, _, hS, by first | exact hXn | exact hX3⟩ (by decide) (by decide) dX12_wrongPlace_324
      · refine r_iload_n F dX12_wrongPlace_98 rfl ?_
        refine r_bipush (v := 23) F dX12_wrongPlace_99 (by decide) ?_
        refine r_icmp_lt (tgt := 120) F dX12_wrongPlace_101 (by decide) (fun h9 => absurd h9 (by rw [show (23 : Int32) = nI 23 from rfl, nI_ltI (by omega) (by omega)]; omega)) (fun _ => ?_)
        refine r_iload_n F dX12_wrongPlace_104 rfl ?_
        refine r_bipush (v := 25) F dX12_wrongPlace_105 (by decide) ?_
        refine r_icmp_gt (tgt := 120) F dX12_wrongPlace_107 (by decide) (fun _ => ?_) (fun h9 => absurd (by rw [show (25 : Int32) = nI 25 from rfl, nI_ltI (by omega) (by omega)]; omega) h9)
        refine r_iload_n F dX12_wrongPlace_120 rfl ?_
        refine r_bipush (v := 26) F dX12_wrongPlace_121 (by decide) ?_
        refine r_icmp_ne (tgt := 192) F dX12_wrongPlace_123 (by decide) (fun _ => ?_) (fun h9 => absurd h9 (by rw [show (26 : Int32) = nI 26 from rfl, nI_eq (by omega) (by omega)]; omega))
        refine r_iload_n F dX12_wrongPlace_192 rfl ?_
        refine r_bipush (v := 27) F dX12_wrongPlace_193 (by decide) ?_
        refine r_icmp_ne (tgt := 302) F dX12_wrongPlace_195 (by decide) (fun _ => ?_) (fun h9 => absurd h9 (by rw [show (27 : Int32) = nI 27 from rfl, nI_eq (by omega) (by omega)]; omega))
        refine r_iload_n F dX12_wrongPlace_302 rfl ?_
        refine r_bipush (v := 28) F dX12_wrongPlace_303 (by decide) ?_
        refine r_icmp_eq (tgt := 314) F dX12_wrongPlace_305 (by decide) (fun h9 => absurd h9 (by rw [show (28 : Int32) = nI 28 from rfl, nI_eq (by omega) (by omega)]; omega)) (fun _ => ?_)
        refine r_iload_n F dX12_wrongPlace_308 rfl ?_
        refine r_bipush (v := 29) F dX12_wrongPlace_309 (by decide) ?_
        refine r_icmp_ne (tgt := 399) F dX12_wrongPlace_311 (by decide) (fun h9 => absurd (by rw [show (29 : Int32) = nI 29 from rfl, nI_eq (by omega) (by omega)]; omega) h9) (fun _ => ?_)
        obtain ⟨j, hj, ej⟩ := hgw.2.2.2.1 (by omega)
        subst ej
        refine r_iload F dX12_wrongPlace_314 rfl ?_
        refine r_aload_n F dX12_wrongPlace_316 rfl ?_
        refine gi_blocks F G hS dX12_wrongPlace_317 ?_
        refine r_icmp_lt (tgt := 325) F dX12_wrongPlace_320 (by decide) (fun c320 => ?_) (fun c320 => ?_)
        · refine r_aload_n F dX12_wrongPlace_325 rfl ?_
          refine gi_blocks F G hS dX12_wrongPlace_326 ?_
          refine r_iconst (v := 1) F dX12_wrongPlace_329 (by decide) ?_
          refine r_isub F dX12_wrongPlace_330 ?_
          refine r_iload F dX12_wrongPlace_331 rfl ?_
          refine r_isub F dX12_wrongPlace_333 ?_
          have hjn : j < kn q2 := by have c9 := c320; rw [hR2.1, nI_ltI (by omega) (by omega)] at c9; omega
          have hTj := hR2.2.2 (kn q2 - 1 - j) (by omega)
          have hlj := (hI2.2.2.2.1 (kn q2 - 1 - j) (by omega)).1
          have hbj : bw v f q2 (kn q2 - 1 - j) < 36 := hbwb _ (by omega)
          have htk : ktk v f q2 j ≤ 1 := by unfold ktk; split <;> omega
          rw [hR2.1, show nI (kn q2) - 1 - nI j = nI (kn q2 - 1 - j) by rw [nl1, nI_sub hI2.1, nI_sub (by omega)]]
          refine r_istore F dX12_wrongPlace_334 (by decide) ?_
          refine r_aload_n F dX12_wrongPlace_336 rfl ?_
          refine gq_blockWord F G hS dX12_wrongPlace_337 ?_
          refine r_iload F dX12_wrongPlace_340 rfl ?_
          refine al_blockWord F G hS (kn q2 - 1 - j) rfl (by omega) dX12_wrongPlace_342 ?_
          rw [hTj.1]
          refine r_bipush (v := 24) F dX12_wrongPlace_343 (by decide) ?_
          refine r_icmp_ne (tgt := 352) F dX12_wrongPlace_345 (by decide) (fun c345 => ?_) (fun c345 => ?_)
          · refine r_aload_n F dX12_wrongPlace_352 rfl ?_
            refine gq_blockLeaves F G hS dX12_wrongPlace_353 ?_
            refine r_iload F dX12_wrongPlace_356 rfl ?_
            refine al_blockLeaves F G hS (kn q2 - 1 - j) rfl (by omega) dX12_wrongPlace_358 ?_
            rw [hTj.2.1]
            refine r_istore F dX12_wrongPlace_359 (by decide) ?_
            have ett : nI (kl q2 (kn q2 - 1 - j)) = nI (ktk v f q2 j) := by
              unfold ktk
              rw [if_neg (fun h9 => c345 (by rw [h9]; rfl))]
            rw [ett]
            refine r_aload_n F dX12_wrongPlace_361 rfl ?_
            refine r_iload F dX12_wrongPlace_362 rfl ?_
            refine c_Vi (ci := 12) F G (mm_pops hS (n := kn q2) (h := kh q2) (b := kb q2 (kn q2 - 1)) (dd := kdd q2 (kn q2 - 1)) hR2.1 hI2.1 (by omega) hR2.2.1 hT.2.2.1 hI2.2.2.2.2.2 (by omega) hT.2.2.2.1 (w := ktk v f q2 j) (by omega)) (cwV 1 F.2.2.2.2 (zgV km_X12_165 ki_X12_pops ke_X12_X12_pops kn_X12 ko_X12_pops) rfl rfl rfl ⟨rfl, hd_yX12_pops⟩ ⟨Nat.le_of_ble_eq_true rfl, Nat.le_of_ble_eq_true rfl⟩) rfl (by decide) hS.al rfl rfl (Nat.le_of_ble_eq_true rfl) dX12_wrongPlace_364 ⟨Nat.le_of_ble_eq_true rfl, Nat.le_of_ble_eq_true rfl⟩ (fun r364 S364 h364 => ?_)
            obtain ⟨a364, hS⟩ := h364
            subst a364
            have hXn := hX3.u (id := 1238) (k := 0) (x := nI (if ktk v f q2 j ≤ kh q2 - kb q2 (kn q2 - 1) then kh q2 - ktk v f q2 j else kb q2 (kn q2 - 1))) (by omega)
            refine r_if_ne (tgt := 372) F dX12_wrongPlace_367 (by decide) (fun c367 => ?_) (fun c367 => ?_)
            · have hp2 := if10 c367
              have hx2 := kx_b hI2 (ktk v f q2 j)
              have hKP2 : kP q2 (ktk v f q2 j) = some (setH q2 (if ktk v f q2 j ≤ kh q2 - kb q2 (kn q2 - 1) then kh q2 - ktk v f q2 j else kb q2 (kn q2 - 1))) := by rw [kP_eq, if_pos hp2]
              obtain ⟨x2, ex2⟩ : ∃ x2, (if ktk v f q2 j ≤ kh q2 - kb q2 (kn q2 - 1) then kh q2 - ktk v f q2 j else kb q2 (kn q2 - 1)) = x2 := ⟨_, rfl⟩
              rw [ex2] at hS hx2 hKP2
              refine r_iload_n F dX12_wrongPlace_372 rfl ?_
              refine r_bipush (v := 28) F dX12_wrongPlace_373 (by decide) ?_
              refine r_icmp_ne (tgt := 385) F dX12_wrongPlace_375 (by decide) (fun _ => ?_) (fun h9 => absurd h9 (by rw [show (28 : Int32) = nI 28 from rfl, nI_eq (by omega) (by omega)]; omega))
              refine r_aload_n F dX12_wrongPlace_385 rfl ?_
              refine r_dup F dX12_wrongPlace_386 rfl ?_
              refine gi_height F G hS dX12_wrongPlace_387 ?_
              refine r_iload F dX12_wrongPlace_390 rfl ?_
              refine r_iadd F dX12_wrongPlace_392 ?_
              refine pi_height F G hS dX12_wrongPlace_393 (fun S hS => ?_)
              refine r_goto (tgt := 424) F dX12_wrongPlace_396 (by decide) ?_
              have e9 : (u1 v3 1238 0 (nI x2)).1 1238 0 + nI (ktk v f q2 j) = nI (x2 + ktk v f q2 j) := nI_add _ _
              rw [e9] at hS
              have hs4 : kSt v f k q = some (setH (setH q2 x2) (x2 + ktk v f q2 j)) := by
                rw [hKS]
                unfold kS2
                rw [if_neg (by omega), if_neg (by omega), if_neg (by omega), if_pos (by omega), nI_clamp (by omega)]
                rw [if_neg (by omega), hKP2]
                show some (if w = 28 then _ else _) = _
                rw [if_neg (by omega)]
              have hI4 : kI (k + 1) (2 * (k + 1)) (setH (setH q2 x2) (x2 + ktk v f q2 j)) := ((hI2.sH (K := 2 * (k + 1)) hx2.1 (by omega)).sH (K := 2 * (k + 1)) (show kb q2 (kn q2 - 1) ≤ _ by omega) (by omega)).up (Nat.le_refl _)
              refine zsub (lv' := [(2, .int (nI k)), (0, .ref g), (1, .int (nI f))]) (by simp [zs1, Value.category, show ((1 : Fin 4) : Nat) = 1 from rfl, show ((2 : Fin 4) : Nat) = 2 from rfl, show ((3 : Fin 4) : Nat) = 3 from rfl]) ?_
              refine r_iinc F dX12_wrongPlace_424 rfl (by decide) ?_
              refine r_goto (tgt := 23) F dX12_wrongPlace_427 (by decide) ?_
              exact ih (n - 1) _ _ (by omega) ⟨k + 1, _, setH (setH q2 x2) (x2 + ktk v f q2 j), by omega, hS, (hX3.u (by omega)).u (by omega), kRun_s hK hs4, (hR2.sH x2).sH _, hI4, by rw [show nI k + Int32.ofInt 1 = nI (k + 1) from nI_add k 1]; rfl⟩
            · refine r_iload_n F dX12_wrongPlace_370 rfl ?_
              have hnone : kSt v f k q = none := by
                rw [hKS]
                unfold kS2
                rw [if_neg (by omega), if_neg (by omega), if_neg (by omega), if_pos (by omega), nI_clamp (by omega)]
                rw [if_neg (by omega), kP_eq, if_neg (if01 c367)]
                rfl
              exact e_iret F hr hlk ⟨by rw [wpl_k hk hK hnone]; rfl, _, hS, by first | exact hXn | exact hX3⟩ (by decide) (by decide) dX12_wrongPlace_371
          · refine r_iconst (v := 0) F dX12_wrongPlace_348 (by decide) ?_
            refine r_goto (tgt := 359) F dX12_wrongPlace_349 (by decide) ?_
            
            refine r_istore F dX12_wrongPlace_359 (by decide) ?_
            have ett : 0 = nI (ktk v f q2 j) := by
              unfold ktk
              rw [if_pos (by have c9 := c345; rw [show (24 : Int32) = nI 24 from rfl, nI_eq (by omega) (by omega)] at c9; exact c9)]
              rfl
            rw [ett]
            refine r_aload_n F dX12_wrongPlace_361 rfl ?_
            refine r_iload F dX12_wrongPlace_362 rfl ?_
            refine c_Vi (ci := 12) F G (mm_pops hS (n := kn q2) (h := kh q2) (b := kb q2 (kn q2 - 1)) (dd := kdd q2 (kn q2 - 1)) hR2.1 hI2.1 (by omega) hR2.2.1 hT.2.2.1 hI2.2.2.2.2.2 (by omega) hT.2.2.2.1 (w := ktk v f q2 j) (by omega)) (cwV 1 F.2.2.2.2 (zgV km_X12_165 ki_X12_pops ke_X12_X12_pops kn_X12 ko_X12_pops) rfl rfl rfl ⟨rfl, hd_yX12_pops⟩ ⟨Nat.le_of_ble_eq_true rfl, Nat.le_of_ble_eq_true rfl⟩) rfl (by decide) hS.al rfl rfl (Nat.le_of_ble_eq_true rfl) dX12_wrongPlace_364 ⟨Nat.le_of_ble_eq_true rfl, Nat.le_of_ble_eq_true rfl⟩ (fun r364 S364 h364 => ?_)
            obtain ⟨a364, hS⟩ := h364
            subst a364
            have hXn := hX3.u (id := 1238) (k := 0) (x := nI (if ktk v f q2 j ≤ kh q2 - kb q2 (kn q2 - 1) then kh q2 - ktk v f q2 j else kb q2 (kn q2 - 1))) (by omega)
            refine r_if_ne (tgt := 372) F dX12_wrongPlace_367 (by decide) (fun c367 => ?_) (fun c367 => ?_)
            · have hp2 := if10 c367
              have hx2 := kx_b hI2 (ktk v f q2 j)
              have hKP2 : kP q2 (ktk v f q2 j) = some (setH q2 (if ktk v f q2 j ≤ kh q2 - kb q2 (kn q2 - 1) then kh q2 - ktk v f q2 j else kb q2 (kn q2 - 1))) := by rw [kP_eq, if_pos hp2]
              obtain ⟨x2, ex2⟩ : ∃ x2, (if ktk v f q2 j ≤ kh q2 - kb q2 (kn q2 - 1) then kh q2 - ktk v f q2 j else kb q2 (kn q2 - 1)) = x2 := ⟨_, rfl⟩
              rw [ex2] at hS hx2 hKP2
              refine r_iload_n F dX12_wrongPlace_372 rfl ?_
              refine r_bipush (v := 28) F dX12_wrongPlace_373 (by decide) ?_
              refine r_icmp_ne (tgt := 385) F dX12_wrongPlace_375 (by decide) (fun _ => ?_) (fun h9 => absurd h9 (by rw [show (28 : Int32) = nI 28 from rfl, nI_eq (by omega) (by omega)]; omega))
              refine r_aload_n F dX12_wrongPlace_385 rfl ?_
              refine r_dup F dX12_wrongPlace_386 rfl ?_
              refine gi_height F G hS dX12_wrongPlace_387 ?_
              refine r_iload F dX12_wrongPlace_390 rfl ?_
              refine r_iadd F dX12_wrongPlace_392 ?_
              refine pi_height F G hS dX12_wrongPlace_393 (fun S hS => ?_)
              refine r_goto (tgt := 424) F dX12_wrongPlace_396 (by decide) ?_
              have e9 : (u1 v3 1238 0 (nI x2)).1 1238 0 + nI (ktk v f q2 j) = nI (x2 + ktk v f q2 j) := nI_add _ _
              rw [e9] at hS
              have hs4 : kSt v f k q = some (setH (setH q2 x2) (x2 + ktk v f q2 j)) := by
                rw [hKS]
                unfold kS2
                rw [if_neg (by omega), if_neg (by omega), if_neg (by omega), if_pos (by omega), nI_clamp (by omega)]
                rw [if_neg (by omega), hKP2]
                show some (if w = 28 then _ else _) = _
                rw [if_neg (by omega)]
              have hI4 : kI (k + 1) (2 * (k + 1)) (setH (setH q2 x2) (x2 + ktk v f q2 j)) := ((hI2.sH (K := 2 * (k + 1)) hx2.1 (by omega)).sH (K := 2 * (k + 1)) (show kb q2 (kn q2 - 1) ≤ _ by omega) (by omega)).up (Nat.le_refl _)
              refine zsub (lv' := [(2, .int (nI k)), (0, .ref g), (1, .int (nI f))]) (by simp [zs1, Value.category, show ((1 : Fin 4) : Nat) = 1 from rfl, show ((2 : Fin 4) : Nat) = 2 from rfl, show ((3 : Fin 4) : Nat) = 3 from rfl]) ?_
              refine r_iinc F dX12_wrongPlace_424 rfl (by decide) ?_
              refine r_goto (tgt := 23) F dX12_wrongPlace_427 (by decide) ?_
              exact ih (n - 1) _ _ (by omega) ⟨k + 1, _, setH (setH q2 x2) (x2 + ktk v f q2 j), by omega, hS, (hX3.u (by omega)).u (by omega), kRun_s hK hs4, (hR2.sH x2).sH _, hI4, by rw [show nI k + Int32.ofInt 1 = nI (k + 1) from nI_add k 1]; rfl⟩
            · refine r_iload_n F dX12_wrongPlace_370 rfl ?_
              have hnone : kSt v f k q = none := by
                rw [hKS]
                unfold kS2
                rw [if_neg (by omega), if_neg (by omega), if_neg (by omega), if_pos (by omega), nI_clamp (by omega)]
                rw [if_neg (by omega), kP_eq, if_neg (if01 c367)]
                rfl
              exact e_iret F hr hlk ⟨by rw [wpl_k hk hK hnone]; rfl, _, hS, by first | exact hXn | exact hX3⟩ (by decide) (by decide) dX12_wrongPlace_371
        · refine r_iload_n F dX12_wrongPlace_323 rfl ?_
          have hnone : kSt v f k q = none := by
            rw [hKS]
            unfold kS2
            rw [if_neg (by omega), if_neg (by omega), if_neg (by omega), if_pos (by omega), nI_clamp (by omega)]
            rw [if_pos (by have c9 := c320; rw [hR2.1, nI_ltI (by omega) (by omega)] at c9; omega)]
          exact e_iret F hr hlk ⟨by rw [wpl_k hk hK hnone]; rfl, _, hS, by first | exact hXn | exact hX3⟩ (by decide) (by decide) dX12_wrongPlace_324
      · refine r_iload_n F dX12_wrongPlace_98 rfl ?_
        refine r_bipush (v := 23) F dX12_wrongPlace_99 (by decide) ?_
        refine r_icmp_lt (tgt := 120) F dX12_wrongPlace_101 (by decide) (fun h9 => absurd h9 (by rw [show (23 : Int32) = nI 23 from rfl, nI_ltI (by omega) (by omega)]; omega)) (fun _ => ?_)
        refine r_iload_n F dX12_wrongPlace_104 rfl ?_
        refine r_bipush (v := 25) F dX12_wrongPlace_105 (by decide) ?_
        refine r_icmp_gt (tgt := 120) F dX12_wrongPlace_107 (by decide) (fun _ => ?_) (fun h9 => absurd (by rw [show (25 : Int32) = nI 25 from rfl, nI_ltI (by omega) (by omega)]; omega) h9)
        refine r_iload_n F dX12_wrongPlace_120 rfl ?_
        refine r_bipush (v := 26) F dX12_wrongPlace_121 (by decide) ?_
        refine r_icmp_ne (tgt := 192) F dX12_wrongPlace_123 (by decide) (fun _ => ?_) (fun h9 => absurd h9 (by rw [show (26 : Int32) = nI 26 from rfl, nI_eq (by omega) (by omega)]; omega))
        refine r_iload_n F dX12_wrongPlace_192 rfl ?_
        refine r_bipush (v := 27) F dX12_wrongPlace_193 (by decide) ?_
        refine r_icmp_ne (tgt := 302) F dX12_wrongPlace_195 (by decide) (fun _ => ?_) (fun h9 => absurd h9 (by rw [show (27 : Int32) = nI 27 from rfl, nI_eq (by omega) (by omega)]; omega))
        refine r_iload_n F dX12_wrongPlace_302 rfl ?_
        refine r_bipush (v := 28) F dX12_wrongPlace_303 (by decide) ?_
        refine r_icmp_eq (tgt := 314) F dX12_wrongPlace_305 (by decide) (fun h9 => absurd h9 (by rw [show (28 : Int32) = nI 28 from rfl, nI_eq (by omega) (by omega)]; omega)) (fun _ => ?_)
        refine r_iload_n F dX12_wrongPlace_308 rfl ?_
        refine r_bipush (v := 29) F dX12_wrongPlace_309 (by decide) ?_
        refine r_icmp_ne (tgt := 399) F dX12_wrongPlace_311 (by decide) (fun _ => ?_) (fun h9 => absurd h9 (by rw [show (29 : Int32) = nI 29 from rfl, nI_eq (by omega) (by omega)]; omega))
        refine r_iload_n F dX12_wrongPlace_399 rfl ?_
        refine r_bipush (v := 30) F dX12_wrongPlace_400 (by decide) ?_
        refine r_icmp_ne (tgt := 424) F dX12_wrongPlace_402 (by decide) (fun h9 => absurd (by rw [show (30 : Int32) = nI 30 from rfl, nI_eq (by omega) (by omega)]; omega) h9) (fun _ => ?_)
        refine r_aload_n F dX12_wrongPlace_405 rfl ?_
        refine r_aload_n F dX12_wrongPlace_406 rfl ?_
        refine gq_results F G hS dX12_wrongPlace_407 ?_
        refine r_iload_n F dX12_wrongPlace_410 rfl ?_
        refine al_results F G hS (f) rfl hf dX12_wrongPlace_411 ?_
        rw [hX3.1 1206 f (by omega), hres.1]
        refine c_Vi (ci := 12) F G (mm_pops hS (n := kn q2) (h := kh q2) (b := kb q2 (kn q2 - 1)) (dd := kdd q2 (kn q2 - 1)) hR2.1 hI2.1 (by omega) hR2.2.1 hT.2.2.1 hI2.2.2.2.2.2 (by omega) hT.2.2.2.1 (w := cn v 1206 f) (by omega)) (cwV 1 F.2.2.2.2 (zgV km_X12_165 ki_X12_pops ke_X12_X12_pops kn_X12 ko_X12_pops) rfl rfl rfl ⟨rfl, hd_yX12_pops⟩ ⟨Nat.le_of_ble_eq_true rfl, Nat.le_of_ble_eq_true rfl⟩) rfl (by decide) hS.al rfl rfl (Nat.le_of_ble_eq_true rfl) dX12_wrongPlace_412 ⟨Nat.le_of_ble_eq_true rfl, Nat.le_of_ble_eq_true rfl⟩ (fun r412 S412 h412 => ?_)
        obtain ⟨a412, hS⟩ := h412
        subst a412
        have hXn := hX3.u (id := 1238) (k := 0) (x := nI (if cn v 1206 f ≤ kh q2 - kb q2 (kn q2 - 1) then kh q2 - cn v 1206 f else kb q2 (kn q2 - 1))) (by omega)
        refine r_if_ne (tgt := 420) F dX12_wrongPlace_415 (by decide) (fun c415 => ?_) (fun c415 => ?_)
        · have hp2 := if10 c415
          have hx2 := kx_b hI2 (cn v 1206 f)
          have hKP2 : kP q2 (cn v 1206 f) = some (setH q2 (if cn v 1206 f ≤ kh q2 - kb q2 (kn q2 - 1) then kh q2 - cn v 1206 f else kb q2 (kn q2 - 1))) := by rw [kP_eq, if_pos hp2]
          obtain ⟨x2, ex2⟩ : ∃ x2, (if cn v 1206 f ≤ kh q2 - kb q2 (kn q2 - 1) then kh q2 - cn v 1206 f else kb q2 (kn q2 - 1)) = x2 := ⟨_, rfl⟩
          rw [ex2] at hS hx2 hKP2
          refine r_aload_n F dX12_wrongPlace_420 rfl ?_
          refine c_Vv (ci := 12) F G (mm_dies hS (n := kn q2) (b := kb q2 (kn q2 - 1)) hR2.1 hI2.1 (by omega) hT.2.2.1) (cwV 0 F.2.2.2.2 (zgV km_X12_186 ki_X12_dies ke_X12_X12_dies kn_X12 ko_X12_dies) rfl rfl rfl ⟨rfl, hd_yX12_dies⟩ ⟨Nat.le_of_ble_eq_true rfl, Nat.le_of_ble_eq_true rfl⟩) rfl (by decide) hS.al rfl rfl (Nat.le_of_ble_eq_true rfl) dX12_wrongPlace_421 ⟨Nat.le_of_ble_eq_true rfl, Nat.le_of_ble_eq_true rfl⟩ (fun S421 hS => ?_)
          
          have hs4 : kSt v f k q = some (kDie (setH q2 x2)) := by
            rw [hKS]
            unfold kS2
            rw [if_neg (by omega), if_neg (by omega), if_neg (by omega), if_neg (by omega), if_pos (by omega)]
            rw [hKP2]
            rfl
          have hI4 : kI (k + 1) (2 * (k + 1)) (kDie (setH q2 x2)) := ((hI2.sH (K := 2 * (k + 1)) hx2.1 (by omega)).die).up (Nat.le_refl _)
          refine zsub (lv' := [(2, .int (nI k)), (0, .ref g), (1, .int (nI f))]) (by simp [zs1, Value.category, show ((1 : Fin 4) : Nat) = 1 from rfl, show ((2 : Fin 4) : Nat) = 2 from rfl, show ((3 : Fin 4) : Nat) = 3 from rfl]) ?_
          refine r_iinc F dX12_wrongPlace_424 rfl (by decide) ?_
          refine r_goto (tgt := 23) F dX12_wrongPlace_427 (by decide) ?_
          exact ih (n - 1) _ _ (by omega) ⟨k + 1, _, kDie (setH q2 x2), by omega, hS, ((hX3.u (by omega)).u (by omega)).u (by omega), kRun_s hK hs4, (hR2.sH x2).die, hI4, by rw [show nI k + Int32.ofInt 1 = nI (k + 1) from nI_add k 1]; rfl⟩
        · refine r_iload_n F dX12_wrongPlace_418 rfl ?_
          have hnone : kSt v f k q = none := by
            rw [hKS]
            unfold kS2
            rw [if_neg (by omega), if_neg (by omega), if_neg (by omega), if_neg (by omega), if_pos (by omega)]
            rw [kP_eq, if_neg (if01 c415)]
            rfl
          exact e_iret F hr hlk ⟨by rw [wpl_k hk hK hnone]; rfl, _, hS, by first | exact hXn | exact hX3⟩ (by decide) (by decide) dX12_wrongPlace_419
    · refine r_iload_n F dX12_wrongPlace_76 rfl ?_
      have hnone : kSt v f k q = none := by
        unfold kSt
        rw [ew, ea, kP_eq, if_neg (if01 c73)]
        rfl
      exact e_iret F hr hlk ⟨by rw [wpl_k hk hK hnone]; rfl, _, hS, hX.u (by omega)⟩ (by decide) (by decide) dX12_wrongPlace_77
