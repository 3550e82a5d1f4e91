set_option maxRecDepth 100000 in
set_option maxHeartbeats 4000000 in
theorem mm_writeFunction {l : Launch} {N0 t0 : Nat} {D : va_G} {cy : Nat → ClassId} {S : zS} {S0 : zS} {g : Nat} {qa : Nat → Nat} {v : zV} {T : Nat → Int32} {L : List Int32} (hm : mT S0 g qa v T L S) {f : Nat} {Ts Ss : List Nat} (hv : vRg v) (hA : vA v) (hD : vD v) (hf : f < 48) (hg : ∀ k, k < cn v 1208 f → gW v f (cn v 1209 (60 * f + k)) (v.1 1210 (60 * f + k))) (hT : tQ v 1226 1227 Ts) (hU : tQ v 1224 1225 Ss) (hnT : nD Ts 10) (hnS : nD Ss 48) (h32 : ∀ k, k < cn v 1208 f → cn v 1209 (60 * f + k) = 32 → ∃ j, plc Ts (some (v.1 1210 (60 * f + k)).toNatClampNeg) = some j) (hkd : ∀ k, k < cn v 1208 f → cn v 1209 (60 * f + k) = 33 → ∀ z, mng v (16 * (f / 8) + (v.1 1210 (60 * f + k)).toNatClampNeg) = some z → ¬ v.1 1215 z = 0) (haB : aB L) (hb : L.length + 600 ≤ 40000) : zMv l yX12_writeFunction (zws yX12_writeFunction cX12_writeFunction 4 none) { frames := 4, cells := 0, slots := 0, locals := 91 } N0 t0 D cy S [.ref g, .int (nI f)] (fun S' => mZ S0 g qa v (L ++ fnW v Ts Ss f) S') 0 0 := by
  refine zMv.of (cc := cX12_writeFunction) (maxL := 4) (ret := none) (by decide) rfl (Nat.le_of_ble_eq_true rfl) ?_
  intro p e s m args below meth c F G hr hlk hnm
  have hm0 := hm
  have hl7 := rg_1207 hv hf
  have hl8 := rg_1208 hv hf
  have hl72 := hl7.2
  have hl82 := hl8.2
  obtain ⟨v1, hS, hX, hB⟩ := hm
  refine r_aload_n F dX12_writeFunction_0 rfl ?_
  refine gi_moduleSize F G hS dX12_writeFunction_1 ?_
  rw [hB.1]
  refine r_istore_n F dX12_writeFunction_4 (by decide) ?_
  refine r_aload_n F dX12_writeFunction_5 rfl ?_
  refine r_aload_n F dX12_writeFunction_6 rfl ?_
  refine gq_locals F G hS dX12_writeFunction_7 ?_
  refine r_iload_n F dX12_writeFunction_10 rfl ?_
  refine al_locals F G hS (f) rfl hf dX12_writeFunction_11 ?_
  rw [hX.L 1207 f (by omega), hl7.1]
  refine r_if_le (tgt := 19) F dX12_writeFunction_12 (by decide) (fun c12 => ?_) (fun c12 => ?_)
  · refine r_iconst (v := 0) F dX12_writeFunction_19 (by decide) ?_
    refine c_Vv (ci := 12) F G (mm_put hm0 (x := nI 0) (by first | omega | (simp only [List.length_append, List.length_cons, List.length_nil]; omega))) (cwV 1 F.2.2.2.2 (zgV km_X12_235 ki_X12_put ke_X12_X12_put kn_X12 ko_X12_put) rfl rfl rfl ⟨rfl, hd_yX12_put⟩ ⟨Nat.le_of_ble_eq_true rfl, Nat.le_of_ble_eq_true rfl⟩) rfl (by decide) hS.al rfl rfl (Nat.le_of_ble_eq_true rfl) dX12_writeFunction_20 ⟨Nat.le_of_ble_eq_true rfl, Nat.le_of_ble_eq_true rfl⟩ (fun S20 hm20 => ?_)
    have hm0 := hm20
    obtain ⟨v1, hS, hX, hB⟩ := hm20
    refine r_aload_n F dX12_writeFunction_23 rfl ?_
    refine gq_locals F G hS dX12_writeFunction_24 ?_
    refine r_iload_n F dX12_writeFunction_27 rfl ?_
    refine al_locals F G hS (f) rfl hf dX12_writeFunction_28 ?_
    rw [hX.L 1207 f (by omega), hl7.1]
    refine r_if_le (tgt := 48) F dX12_writeFunction_29 (by decide) (fun _ => ?_) (fun h9 => absurd c12 h9)
    refine r_iconst (v := 0) F dX12_writeFunction_48 (by decide) ?_
    refine r_istore_n F dX12_writeFunction_49 (by decide) ?_
    have hm1 : mT S0 g qa v T (L ++ lcB v f) S20 := by
      unfold lcB
      rw [if_neg (by have c9 := c12; rw [nl0, nI_leI (by omega) (by omega)] at c9; omega)]
      simpa only [List.append_assoc, List.cons_append, List.nil_append] using hm0
    have hlc : (lcB v f).length ≤ 3 ∧ aB (lcB v f) := by
      unfold lcB
      split
      · exact ⟨Nat.le_refl _, aB.nil.cons.cons.cons⟩
      · exact ⟨by decide, aB.nil.cons⟩
    clear hm0 hS hX hB
    refine z_loop (fun n S9 lv => ∃ k, k + n = cn v 1208 f ∧ mT S0 g qa v T (L ++ lcB v f ++ wLs v Ts Ss f k) S9 ∧ lv = [(3, .int (nI k)), (2, .int (nI L.length)), (0, .ref g), (1, .int (nI f))]) (cn v 1208 f) ?_ ⟨0, by omega, by rw [show wLs v Ts Ss f 0 = [] from rfl, List.append_nil]; exact hm1, rfl⟩
    clear hm1
    rintro n S lv ⟨k, hkn, hm0, rfl⟩ ih
    have hm1 := hm0
    obtain ⟨v1, hS, hX, hB⟩ := hm1
    have hwl := wLs_ok v Ts Ss f k
    have hlk9 : (L ++ lcB v f ++ wLs v Ts Ss f k).length ≤ L.length + 3 + 8 * k := by rw [List.length_append, List.length_append]; have := hwl.2; have := hlc.1; omega
    refine r_iload_n F dX12_writeFunction_50 rfl ?_
    refine r_aload_n F dX12_writeFunction_51 rfl ?_
    refine gq_words F G hS dX12_writeFunction_52 ?_
    refine r_iload_n F dX12_writeFunction_55 rfl ?_
    refine al_words F G hS (f) rfl hf dX12_writeFunction_56 ?_
    rw [hX.L 1208 f (by omega), hl8.1]
    refine r_icmp_ge (tgt := 96) F dX12_writeFunction_57 (by decide) (fun c57 => ?_) (fun c57 => ?_)
    · have hke : k = cn v 1208 f := by rw [nI_leI (by omega) (by omega)] at c57; omega
      refine r_aload_n F dX12_writeFunction_96 rfl ?_
      refine r_bipush (v := 11) F dX12_writeFunction_97 (by decide) ?_
      refine c_Vv (ci := 12) F G (mm_put hm0 (x := nI 11) (by omega)) (cwV 1 F.2.2.2.2 (zgV km_X12_235 ki_X12_put ke_X12_X12_put kn_X12 ko_X12_put) rfl rfl rfl ⟨rfl, hd_yX12_put⟩ ⟨Nat.le_of_ble_eq_true rfl, Nat.le_of_ble_eq_true rfl⟩) rfl (by decide) hS.al rfl rfl (Nat.le_of_ble_eq_true rfl) dX12_writeFunction_99 ⟨Nat.le_of_ble_eq_true rfl, Nat.le_of_ble_eq_true rfl⟩ (fun S99 hm99 => ?_)
      have hm2 : mT S0 g qa v T (L ++ fnB v Ts Ss f) S99 := by
        unfold fnB
        rw [← hke]
        simpa only [List.append_assoc] using hm99
      have hm3 := hm2
      obtain ⟨v2, hS, hX2, hB2⟩ := hm2
      have hfl : (fnB v Ts Ss f).length ≤ 3 + 8 * k + 1 := by
        unfold fnB
        rw [← hke, List.length_append, List.length_append]
        have h1 := hwl.2
        have h2 := hlc.1
        show (lcB v f).length + ((wLs v Ts Ss f k).length + 1) ≤ _
        omega
      have hfa : aB (fnB v Ts Ss f) := by
        unfold fnB
        rw [← hke]
        exact hlc.2.app (hwl.1.app aB.nil.cons)
      refine r_aload_n F dX12_writeFunction_102 rfl ?_
      refine r_iload_n F dX12_writeFunction_103 rfl ?_
      refine c_Vv (ci := 12) F G (mm_sized hm3 (t := L.length) (haB.app hfa).hb (by rw [List.length_append]; omega) (by rw [List.length_append]; omega)) (cwV 1 F.2.2.2.2 (zgV km_X12_266 ki_X12_sized ke_X12_X12_sized kn_X12 ko_X12_sized) rfl rfl rfl ⟨rfl, hd_yX12_sized⟩ ⟨Nat.le_of_ble_eq_true rfl, Nat.le_of_ble_eq_true rfl⟩) rfl (by decide) hS.al rfl rfl (Nat.le_of_ble_eq_true rfl) dX12_writeFunction_104 ⟨Nat.le_of_ble_eq_true rfl, Nat.le_of_ble_eq_true rfl⟩ (fun S104 hm104 => ?_)
      exact e_vret F hr hlk (by
        have e : szd (L ++ fnB v Ts Ss f) L.length = L ++ fnW v Ts Ss f := by
          unfold szd fnW
          rw [List.take_left, List.drop_left, List.length_append, Nat.add_sub_cancel_left]
        rw [← e]
        exact hm104) (by decide) (by decide) dX12_writeFunction_107
    · have hk : k < cn v 1208 f := by rw [nI_leI (by omega) (by omega)] at c57; omega
      have hwr := rg_1209 hv (k := 60 * f + k) (by omega)
      have hwr2 := hwr.2
      refine r_aload_n F dX12_writeFunction_60 rfl ?_
      refine r_iload_n F dX12_writeFunction_61 rfl ?_
      refine r_bipush (v := 8) F dX12_writeFunction_62 (by decide) ?_
      refine r_idiv F dX12_writeFunction_64 (by decide) ?_
      refine r_aload_n F dX12_writeFunction_65 rfl ?_
      refine gq_word F G hS dX12_writeFunction_66 ?_
      refine r_bipush (v := 60) F dX12_writeFunction_69 (by decide) ?_
      refine r_iload_n F dX12_writeFunction_71 rfl ?_
      refine r_imul F dX12_writeFunction_72 ?_
      refine r_iload_n F dX12_writeFunction_73 rfl ?_
      refine r_iadd F dX12_writeFunction_74 ?_
      refine al_word F G hS (60 * f + k) (show (60 : Int32) * nI f + nI k = _ by rw [nl60, nI_mul, nI_add]) (by omega) dX12_writeFunction_75 ?_
      rw [hX.L 1209 _ (by omega), hwr.1]
      refine r_aload_n F dX12_writeFunction_76 rfl ?_
      refine gq_number F G hS dX12_writeFunction_77 ?_
      refine r_bipush (v := 60) F dX12_writeFunction_80 (by decide) ?_
      refine r_iload_n F dX12_writeFunction_82 rfl ?_
      refine r_imul F dX12_writeFunction_83 ?_
      refine r_iload_n F dX12_writeFunction_84 rfl ?_
      refine r_iadd F dX12_writeFunction_85 ?_
      refine al_number F G hS (60 * f + k) (show (60 : Int32) * nI f + nI k = _ by rw [nl60, nI_mul, nI_add]) (by omega) dX12_writeFunction_86 ?_
      rw [hX.L 1210 _ (by omega)]
      rw [show nI f / 8 = nI (f / 8) by rw [nl8]; exact nI_div (by omega) (by omega)]
      refine c_Vv (ci := 12) F G (mm_writeWord hm0 hv hA hD hf (by omega) (hg k hk) hT hU hnT hnS (h32 k hk) (hkd k hk) (by omega)) (cwV 3 F.2.2.2.2 (zgV km_X12_287 ki_X12_writeWord ke_X12_X12_writeWord kn_X12 ko_X12_writeWord) rfl rfl rfl ⟨rfl, hd_yX12_writeWord⟩ ⟨Nat.le_of_ble_eq_true rfl, Nat.le_of_ble_eq_true rfl⟩) rfl (by decide) hS.al rfl rfl (Nat.le_of_ble_eq_true rfl) dX12_writeFunction_87 ⟨Nat.le_of_ble_eq_true rfl, Nat.le_of_ble_eq_true rfl⟩ (fun S87 hm87 => ?_)
      refine r_iinc F dX12_writeFunction_90 rfl (by decide) ?_
      refine r_goto (tgt := 50) F dX12_writeFunction_93 (by decide) ?_
      exact ih (n - 1) _ _ (by omega) ⟨k + 1, by omega, by rw [show wLs v Ts Ss f (k + 1) = wLs v Ts Ss f k ++ wB v Ts Ss (f / 8) (cn v 1209 (60 * f + k)) (v.1 1210 (60 * f + k)) from rfl, ← List.append_assoc]; exact hm87, by rw [show nI k + Int32.ofInt 1 = nI (k + 1) from nI_add k 1]; rfl⟩
  · refine r_iconst (v := 1) F dX12_writeFunction_15 (by decide) ?_
    refine r_goto (tgt := 20) F dX12_writeFunction_16 (by decide) ?_
    refine c_Vv (ci := 12) F G (mm_put hm0 (x := nI 1) (by first | omega | (simp only [List.length_append, List.length_cons, List.length_nil]; omega))) (cwV 1 F.2.2.2.2 (zgV km_X12_235 ki_X12_put ke_X12_X12_put kn_X12 ko_X12_put) rfl rfl rfl ⟨rfl, hd_yX12_put⟩ ⟨Nat.le_of_ble_eq_true rfl, Nat.le_of_ble_eq_true rfl⟩) rfl (by decide) hS.al rfl rfl (Nat.le_of_ble_eq_true rfl) dX12_writeFunction_20 ⟨Nat.le_of_ble_eq_true rfl, Nat.le_of_ble_eq_true rfl⟩ (fun S20 hm20 => ?_)
    have hm0 := hm20
    obtain ⟨v1, hS, hX, hB⟩ := hm20
    refine r_aload_n F dX12_writeFunction_23 rfl ?_
    refine gq_locals F G hS dX12_writeFunction_24 ?_
    refine r_iload_n F dX12_writeFunction_27 rfl ?_
    refine al_locals F G hS (f) rfl hf dX12_writeFunction_28 ?_
    rw [hX.L 1207 f (by omega), hl7.1]
    refine r_if_le (tgt := 48) F dX12_writeFunction_29 (by decide) (fun h9 => absurd h9 c12) (fun _ => ?_)
    refine r_aload_n F dX12_writeFunction_32 rfl ?_
    refine r_aload_n F dX12_writeFunction_33 rfl ?_
    refine gq_locals F G hS dX12_writeFunction_34 ?_
    refine r_iload_n F dX12_writeFunction_37 rfl ?_
    refine al_locals F G hS (f) rfl hf dX12_writeFunction_38 ?_
    rw [hX.L 1207 f (by omega), hl7.1]
    refine c_Vv (ci := 12) F G (mm_put hm0 (x := nI (cn v 1207 f)) (by first | omega | (simp only [List.length_append, List.length_cons, List.length_nil]; omega))) (cwV 1 F.2.2.2.2 (zgV km_X12_235 ki_X12_put ke_X12_X12_put kn_X12 ko_X12_put) rfl rfl rfl ⟨rfl, hd_yX12_put⟩ ⟨Nat.le_of_ble_eq_true rfl, Nat.le_of_ble_eq_true rfl⟩) rfl (by decide) hS.al rfl rfl (Nat.le_of_ble_eq_true rfl) dX12_writeFunction_39 ⟨Nat.le_of_ble_eq_true rfl, Nat.le_of_ble_eq_true rfl⟩ (fun S39 hm39 => ?_)
    have hm0 := hm39
    obtain ⟨v1, hS, hX, hB⟩ := hm39
    refine r_aload_n F dX12_writeFunction_42 rfl ?_
    refine r_bipush (v := 126) F dX12_writeFunction_43 (by decide) ?_
    refine c_Vv (ci := 12) F G (mm_put hm0 (x := nI 126) (by first | omega | (simp only [List.length_append, List.length_cons, List.length_nil]; omega))) (cwV 1 F.2.2.2.2 (zgV km_X12_235 ki_X12_put ke_X12_X12_put kn_X12 ko_X12_put) rfl rfl rfl ⟨rfl, hd_yX12_put⟩ ⟨Nat.le_of_ble_eq_true rfl, Nat.le_of_ble_eq_true rfl⟩) rfl (by decide) hS.al rfl rfl (Nat.le_of_ble_eq_true rfl) dX12_writeFunction_45 ⟨Nat.le_of_ble_eq_true rfl, Nat.le_of_ble_eq_true rfl⟩ (fun S45 hm45 => ?_)
    have hm0 := hm45
    obtain ⟨v1, hS, hX, hB⟩ := hm45
    refine r_iconst (v := 0) F dX12_writeFunction_48 (by decide) ?_
    refine r_istore_n F dX12_writeFunction_49 (by decide) ?_
    have hm1 : mT S0 g qa v T (L ++ lcB v f) S45 := by
      unfold lcB
      rw [if_pos (by have c9 := c12; rw [nl0, nI_leI (by omega) (by omega)] at c9; omega)]
      simpa only [List.append_assoc, List.cons_append, List.nil_append] using hm0
    have hlc : (lcB v f).length ≤ 3 ∧ aB (lcB v f) := by
      unfold lcB
      split
      · exact ⟨Nat.le_refl _, aB.nil.cons.cons.cons⟩
      · exact ⟨by decide, aB.nil.cons⟩
    clear hm0 hS hX hB
    refine z_loop (fun n S9 lv => ∃ k, k + n = cn v 1208 f ∧ mT S0 g qa v T (L ++ lcB v f ++ wLs v Ts Ss f k) S9 ∧ lv = [(3, .int (nI k)), (2, .int (nI L.length)), (0, .ref g), (1, .int (nI f))]) (cn v 1208 f) ?_ ⟨0, by omega, by rw [show wLs v Ts Ss f 0 = [] from rfl, List.append_nil]; exact hm1, rfl⟩
    clear hm1
    rintro n S lv ⟨k, hkn, hm0, rfl⟩ ih
    have hm1 := hm0
    obtain ⟨v1, hS, hX, hB⟩ := hm1
    have hwl := wLs_ok v Ts Ss f k
    have hlk9 : (L ++ lcB v f ++ wLs v Ts Ss f k).length ≤ L.length + 3 + 8 * k := by rw [List.length_append, List.length_append]; have := hwl.2; have := hlc.1; omega
    refine r_iload_n F dX12_writeFunction_50 rfl ?_
    refine r_aload_n F dX12_writeFunction_51 rfl ?_
    refine gq_words F G hS dX12_writeFunction_52 ?_
    refine r_iload_n F dX12_writeFunction_55 rfl ?_
    refine al_words F G hS (f) rfl hf dX12_writeFunction_56 ?_
    rw [hX.L 1208 f (by omega), hl8.1]
    refine r_icmp_ge (tgt := 96) F dX12_writeFunction_57 (by decide) (fun c57 => ?_) (fun c57 => ?_)
    · have hke : k = cn v 1208 f := by rw [nI_leI (by omega) (by omega)] at c57; omega
      refine r_aload_n F dX12_writeFunction_96 rfl ?_
      refine r_bipush (v := 11) F dX12_writeFunction_97 (by decide) ?_
      refine c_Vv (ci := 12) F G (mm_put hm0 (x := nI 11) (by omega)) (cwV 1 F.2.2.2.2 (zgV km_X12_235 ki_X12_put ke_X12_X12_put kn_X12 ko_X12_put) rfl rfl rfl ⟨rfl, hd_yX12_put⟩ ⟨Nat.le_of_ble_eq_true rfl, Nat.le_of_ble_eq_true rfl⟩) rfl (by decide) hS.al rfl rfl (Nat.le_of_ble_eq_true rfl) dX12_writeFunction_99 ⟨Nat.le_of_ble_eq_true rfl, Nat.le_of_ble_eq_true rfl⟩ (fun S99 hm99 => ?_)
      have hm2 : mT S0 g qa v T (L ++ fnB v Ts Ss f) S99 := by
        unfold fnB
        rw [← hke]
        simpa only [List.append_assoc] using hm99
      have hm3 := hm2
      obtain ⟨v2, hS, hX2, hB2⟩ := hm2
      have hfl : (fnB v Ts Ss f).length ≤ 3 + 8 * k + 1 := by
        unfold fnB
        rw [← hke, List.length_append, List.length_append]
        have h1 := hwl.2
        have h2 := hlc.1
        show (lcB v f).length + ((wLs v Ts Ss f k).length + 1) ≤ _
        omega
      have hfa : aB (fnB v Ts Ss f) := by
        unfold fnB
        rw [← hke]
        exact hlc.2.app (hwl.1.app aB.nil.cons)
      refine r_aload_n F dX12_writeFunction_102 rfl ?_
      refine r_iload_n F dX12_writeFunction_103 rfl ?_
      refine c_Vv (ci := 12) F G (mm_sized hm3 (t := L.length) (haB.app hfa).hb (by rw [List.length_append]; omega) (by rw [List.length_append]; omega)) (cwV 1 F.2.2.2.2 (zgV km_X12_266 ki_X12_sized ke_X12_X12_sized kn_X12 ko_X12_sized) rfl rfl rfl ⟨rfl, hd_yX12_sized⟩ ⟨Nat.le_of_ble_eq_true rfl, Nat.le_of_ble_eq_true rfl⟩) rfl (by decide) hS.al rfl rfl (Nat.le_of_ble_eq_true rfl) dX12_writeFunction_104 ⟨Nat.le_of_ble_eq_true rfl, Nat.le_of_ble_eq_true rfl⟩ (fun S104 hm104 => ?_)
      exact e_vret F hr hlk (by
        have e : szd (L ++ fnB v Ts Ss f) L.length = L ++ fnW v Ts Ss f := by
          unfold szd fnW
          rw [List.take_left, List.drop_left, List.length_append, Nat.add_sub_cancel_left]
        rw [← e]
        exact hm104) (by decide) (by decide) dX12_writeFunction_107
    · have hk : k < cn v 1208 f := by rw [nI_leI (by omega) (by omega)] at c57; omega
      have hwr := rg_1209 hv (k := 60 * f + k) (by omega)
      have hwr2 := hwr.2
      refine r_aload_n F dX12_writeFunction_60 rfl ?_
      refine r_iload_n F dX12_writeFunction_61 rfl ?_
      refine r_bipush (v := 8) F dX12_writeFunction_62 (by decide) ?_
      refine r_idiv F dX12_writeFunction_64 (by decide) ?_
      refine r_aload_n F dX12_writeFunction_65 rfl ?_
      refine gq_word F G hS dX12_writeFunction_66 ?_
      refine r_bipush (v := 60) F dX12_writeFunction_69 (by decide) ?_
      refine r_iload_n F dX12_writeFunction_71 rfl ?_
      refine r_imul F dX12_writeFunction_72 ?_
      refine r_iload_n F dX12_writeFunction_73 rfl ?_
      refine r_iadd F dX12_writeFunction_74 ?_
      refine al_word F G hS (60 * f + k) (show (60 : Int32) * nI f + nI k = _ by rw [nl60, nI_mul, nI_add]) (by omega) dX12_writeFunction_75 ?_
      rw [hX.L 1209 _ (by omega), hwr.1]
      refine r_aload_n F dX12_writeFunction_76 rfl ?_
      refine gq_number F G hS dX12_writeFunction_77 ?_
      refine r_bipush (v := 60) F dX12_writeFunction_80 (by decide) ?_
      refine r_iload_n F dX12_writeFunction_82 rfl ?_
      refine r_imul F dX12_writeFunction_83 ?_
      refine r_iload_n F dX12_writeFunction_84 rfl ?_
      refine r_iadd F dX12_writeFunction_85 ?_
      refine al_number F G hS (60 * f + k) (show (60 : Int32) * nI f + nI k = _ by rw [nl60, nI_mul, nI_add]) (by omega) dX12_writeFunction_86 ?_
      rw [hX.L 1210 _ (by omega)]
      rw [show nI f / 8 = nI (f / 8) by rw [nl8]; exact nI_div (by omega) (by omega)]
      refine c_Vv (ci := 12) F G (mm_writeWord hm0 hv hA hD hf (by omega) (hg k hk) hT hU hnT hnS (h32 k hk) (hkd k hk) (by omega)) (cwV 3 F.2.2.2.2 (zgV km_X12_287 ki_X12_writeWord ke_X12_X12_writeWord kn_X12 ko_X12_writeWord) rfl rfl rfl ⟨rfl, hd_yX12_writeWord⟩ ⟨Nat.le_of_ble_eq_true rfl, Nat.le_of_ble_eq_true rfl⟩) rfl (by decide) hS.al rfl rfl (Nat.le_of_ble_eq_true rfl) dX12_writeFunction_87 ⟨Nat.le_of_ble_eq_true rfl, Nat.le_of_ble_eq_true rfl⟩ (fun S87 hm87 => ?_)
      refine r_iinc F dX12_writeFunction_90 rfl (by decide) ?_
      refine r_goto (tgt := 50) F dX12_writeFunction_93 (by decide) ?_
      exact ih (n - 1) _ _ (by omega) ⟨k + 1, by omega, by rw [show wLs v Ts Ss f (k + 1) = wLs v Ts Ss f k ++ wB v Ts Ss (f / 8) (cn v 1209 (60 * f + k)) (v.1 1210 (60 * f + k)) from rfl, ← List.append_assoc]; exact hm87, by rw [show nI k + Int32.ofInt 1 = nI (k + 1) from nI_add k 1]; rfl⟩
