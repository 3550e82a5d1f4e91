/-- the first k bytes of a segment; a segment -/
def sBy (v : zV) (q : Nat) : Nat → List Int32
  | 0 => []
  | k + 1 => sBy v q k ++ [bv (v.1 1213 (64 * q + k))]
theorem sBy_l {v : zV} {q : Nat} : ∀ k, (sBy v q k).length = k
  | 0 => rfl
  | k + 1 => by
    show (sBy v q k ++ [_]).length = k + 1
    rw [List.length_append, sBy_l k]
    rfl
def sgH (v : zV) (q : Nat) : List Int32 := bv (nI 0) :: bv (nI 65) :: (sgn (nI (rs (aS v q) (cn v 1212 q))) ++ (bv (nI 11) :: uns (cn v 1211 q)))
def sgB (v : zV) (q : Nat) : List Int32 := sgH v q ++ sBy v q (cn v 1211 q)
theorem sgH_l (v : zV) (q : Nat) : (sgH v q).length ≤ 13 := by
  show ((sgn _ ++ (_ :: uns _)).length + 1 + 1) ≤ 13
  rw [List.length_append, List.length_cons]
  have h1 := sgn_b (nI (rs (aS v q) (cn v 1212 q)))
  have h2 := uns_b (cn v 1211 q)
  omega
set_option maxRecDepth 100000 in
set_option maxHeartbeats 4000000 in
theorem mm_writeSegment {l : Launch} {N0 t0 : Nat} {D : va_G} {cy : Nat → ClassId} {S : zS} {S0 : zS} {g : Nat} {qa : Nat → Nat} {v : zV} {T : Nat → Int32} {L : List Int32} (hm : mT S0 g qa v T L S) {q : Nat} (hv : vRg v) (hq : q < 24) (hb : L.length + 80 ≤ 40000) : zMv l yX12_writeSegment (zws yX12_writeSegment cX12_writeSegment 3 none) { frames := 2, cells := 0, slots := 0, locals := 45 } N0 t0 D cy S [.ref g, .int (nI q)] (fun S' => mT S0 g qa v T (L ++ sgB v q) S') 0 0 := by
  refine zMv.of (cc := cX12_writeSegment) (maxL := 3) (ret := none) (by decide) rfl (Nat.le_of_ble_eq_true rfl) ?_
  intro p e s m args below meth c F G hr hlk hnm
  have hm0 := hm
  have hsz := rg_1211 hv hq
  have hsz2 := hsz.2
  have hs5 := sgn_b (nI (rs (aS v q) (cn v 1212 q)))
  have hu5 := uns_b (cn v 1211 q)
  have hh13 := sgH_l v q
  obtain ⟨v1, hS, hX, hB⟩ := hm
  refine r_aload_n F dX12_writeSegment_0 rfl ?_
  refine r_iconst (v := 0) F dX12_writeSegment_1 (by decide) ?_
  refine c_Vv (ci := 12) F G (mm_put hm0 (x := nI 0) (by first | omega | (simp only [List.length_append, List.length_cons, List.length_nil]; omega))) (cwV 1 F.2.2.2.2 (zgV km_X12_235 ki_X12_put ke_X12_X12_put kn_X12 ko_X12_put) rfl rfl rfl ⟨rfl, hd_yX12_put⟩ ⟨Nat.le_of_ble_eq_true rfl, Nat.le_of_ble_eq_true rfl⟩) rfl (by decide) hS.al rfl rfl (Nat.le_of_ble_eq_true rfl) dX12_writeSegment_2 ⟨Nat.le_of_ble_eq_true rfl, Nat.le_of_ble_eq_true rfl⟩ (fun S2 hm2 => ?_)
  have hm0 := hm2
  obtain ⟨v1, hS, hX, hB⟩ := hm2
  refine r_aload_n F dX12_writeSegment_5 rfl ?_
  refine r_bipush (v := 65) F dX12_writeSegment_6 (by decide) ?_
  refine c_Vv (ci := 12) F G (mm_put hm0 (x := nI 65) (by first | omega | (simp only [List.length_append, List.length_cons, List.length_nil]; omega))) (cwV 1 F.2.2.2.2 (zgV km_X12_235 ki_X12_put ke_X12_X12_put kn_X12 ko_X12_put) rfl rfl rfl ⟨rfl, hd_yX12_put⟩ ⟨Nat.le_of_ble_eq_true rfl, Nat.le_of_ble_eq_true rfl⟩) rfl (by decide) hS.al rfl rfl (Nat.le_of_ble_eq_true rfl) dX12_writeSegment_8 ⟨Nat.le_of_ble_eq_true rfl, Nat.le_of_ble_eq_true rfl⟩ (fun S8 hm8 => ?_)
  have hm0 := hm8
  obtain ⟨v1, hS, hX, hB⟩ := hm8
  refine r_aload_n F dX12_writeSegment_11 rfl ?_
  refine r_aload_n F dX12_writeSegment_12 rfl ?_
  refine r_iload_n F dX12_writeSegment_13 rfl ?_
  refine c_Vi (ci := 12) F G (mm_addressOfSegment hS (q := q) hq (hX.L.rg hv)) (cwV 1 F.2.2.2.2 (zgV km_X12_149 ki_X12_addressOfSegment ke_X12_X12_addressOfSegment kn_X12 ko_X12_addressOfSegment) rfl rfl rfl ⟨rfl, hd_yX12_addressOfSegment⟩ ⟨Nat.le_of_ble_eq_true rfl, Nat.le_of_ble_eq_true rfl⟩) rfl (by decide) hS.al rfl rfl (Nat.le_of_ble_eq_true rfl) dX12_writeSegment_14 ⟨Nat.le_of_ble_eq_true rfl, Nat.le_of_ble_eq_true rfl⟩ (fun r14 S14 h14 => ?_)
  obtain ⟨a14, e14⟩ := h14
  have hs14 := e14.symm
  subst hs14
  subst a14
  rw [hX.L.eaS, hX.L.c (id := 1212) (by omega)]
  refine c_Vv (ci := 12) F G (mm_signed hm0 (x := nI (rs (aS v q) (cn v 1212 q))) (by first | omega | (simp only [List.length_append, List.length_cons, List.length_nil]; omega))) (cwV 1 F.2.2.2.2 (zgV km_X12_284 ki_X12_signed ke_X12_X12_signed kn_X12 ko_X12_signed) rfl rfl rfl ⟨rfl, hd_yX12_signed⟩ ⟨Nat.le_of_ble_eq_true rfl, Nat.le_of_ble_eq_true rfl⟩) rfl (by decide) hS.al rfl rfl (Nat.le_of_ble_eq_true rfl) dX12_writeSegment_17 ⟨Nat.le_of_ble_eq_true rfl, Nat.le_of_ble_eq_true rfl⟩ (fun S17 hm17 => ?_)
  have hm0 := hm17
  obtain ⟨v1, hS, hX, hB⟩ := hm17
  refine r_aload_n F dX12_writeSegment_20 rfl ?_
  refine r_bipush (v := 11) F dX12_writeSegment_21 (by decide) ?_
  refine c_Vv (ci := 12) F G (mm_put hm0 (x := nI 11) (by first | omega | (simp only [List.length_append, List.length_cons, List.length_nil]; omega))) (cwV 1 F.2.2.2.2 (zgV km_X12_235 ki_X12_put ke_X12_X12_put kn_X12 ko_X12_put) rfl rfl rfl ⟨rfl, hd_yX12_put⟩ ⟨Nat.le_of_ble_eq_true rfl, Nat.le_of_ble_eq_true rfl⟩) rfl (by decide) hS.al rfl rfl (Nat.le_of_ble_eq_true rfl) dX12_writeSegment_23 ⟨Nat.le_of_ble_eq_true rfl, Nat.le_of_ble_eq_true rfl⟩ (fun S23 hm23 => ?_)
  have hm0 := hm23
  obtain ⟨v1, hS, hX, hB⟩ := hm23
  refine r_aload_n F dX12_writeSegment_26 rfl ?_
  refine r_aload_n F dX12_writeSegment_27 rfl ?_
  refine gq_size F G hS dX12_writeSegment_28 ?_
  refine r_iload_n F dX12_writeSegment_31 rfl ?_
  refine al_size F G hS (q) rfl hq dX12_writeSegment_32 ?_
  rw [hX.L 1211 q (by omega), hsz.1]
  refine c_Vv (ci := 12) F G (mm_unsigned hm0 (n := cn v 1211 q) (by omega) (by first | omega | (simp only [List.length_append, List.length_cons, List.length_nil]; omega))) (cwV 1 F.2.2.2.2 (zgV km_X12_245 ki_X12_unsigned ke_X12_X12_unsigned kn_X12 ko_X12_unsigned) rfl rfl rfl ⟨rfl, hd_yX12_unsigned⟩ ⟨Nat.le_of_ble_eq_true rfl, Nat.le_of_ble_eq_true rfl⟩) rfl (by decide) hS.al rfl rfl (Nat.le_of_ble_eq_true rfl) dX12_writeSegment_33 ⟨Nat.le_of_ble_eq_true rfl, Nat.le_of_ble_eq_true rfl⟩ (fun S33 hm33 => ?_)
  have hm0 := hm33
  obtain ⟨v1, hS, hX, hB⟩ := hm33
  refine r_iconst (v := 0) F dX12_writeSegment_36 (by decide) ?_
  refine r_istore_n F dX12_writeSegment_37 (by decide) ?_
  have hm1 : mT S0 g qa v T (L ++ sgH v q) S33 := by
    unfold sgH
    simpa only [List.append_assoc, List.cons_append, List.nil_append] using hm0
  clear hm0 hS hX hB
  refine z_loop (fun n S9 lv => ∃ k, k + n = cn v 1211 q ∧ mT S0 g qa v T (L ++ sgH v q ++ sBy v q k) S9 ∧ lv = [(2, .int (nI k)), (0, .ref g), (1, .int (nI q))]) (cn v 1211 q) ?_ ⟨0, by omega, by rw [show sBy v q 0 = [] from rfl, List.append_nil]; exact hm1, rfl⟩
  clear hm1
  rintro n S lv ⟨k, hkn, hm0, rfl⟩ ih
  have hm1 := hm0
  obtain ⟨v1, hS, hX, hB⟩ := hm1
  have hlk9 : (L ++ sgH v q ++ sBy v q k).length ≤ L.length + 13 + k := by rw [List.length_append, List.length_append, sBy_l]; omega
  refine r_iload_n F dX12_writeSegment_38 rfl ?_
  refine r_aload_n F dX12_writeSegment_39 rfl ?_
  refine gq_size F G hS dX12_writeSegment_40 ?_
  refine r_iload_n F dX12_writeSegment_43 rfl ?_
  refine al_size F G hS (q) rfl hq dX12_writeSegment_44 ?_
  rw [hX.L 1211 q (by omega), hsz.1]
  refine r_icmp_ge (tgt := 69) F dX12_writeSegment_45 (by decide) (fun c45 => ?_) (fun c45 => ?_)
  · have hke : k = cn v 1211 q := by rw [nI_leI (by omega) (by omega)] at c45; omega
    exact e_vret F hr hlk (by unfold sgB; rw [← List.append_assoc, ← hke]; exact hm0) (by decide) (by decide) dX12_writeSegment_69
  · have hk : k < cn v 1211 q := by rw [nI_leI (by omega) (by omega)] at c45; omega
    refine r_aload_n F dX12_writeSegment_48 rfl ?_
    refine r_aload_n F dX12_writeSegment_49 rfl ?_
    refine gq_bytes F G hS dX12_writeSegment_50 ?_
    refine r_bipush (v := 64) F dX12_writeSegment_53 (by decide) ?_
    refine r_iload_n F dX12_writeSegment_55 rfl ?_
    refine r_imul F dX12_writeSegment_56 ?_
    refine r_iload_n F dX12_writeSegment_57 rfl ?_
    refine r_iadd F dX12_writeSegment_58 ?_
    refine al_bytes F G hS (64 * q + k) (show (64 : Int32) * nI q + nI k = _ by rw [nl64, nI_mul, nI_add]) (by omega) dX12_writeSegment_59 ?_
    rw [hX.L 1213 _ (by omega)]
    refine c_Vv (ci := 12) F G (mm_put hm0 (x := v.1 1213 (64 * q + k)) (by omega)) (cwV 1 F.2.2.2.2 (zgV km_X12_235 ki_X12_put ke_X12_X12_put kn_X12 ko_X12_put) rfl rfl rfl ⟨rfl, hd_yX12_put⟩ ⟨Nat.le_of_ble_eq_true rfl, Nat.le_of_ble_eq_true rfl⟩) rfl (by decide) hS.al rfl rfl (Nat.le_of_ble_eq_true rfl) dX12_writeSegment_60 ⟨Nat.le_of_ble_eq_true rfl, Nat.le_of_ble_eq_true rfl⟩ (fun S60 hm60 => ?_)
    refine r_iinc F dX12_writeSegment_63 rfl (by decide) ?_
    refine r_goto (tgt := 38) F dX12_writeSegment_66 (by decide) ?_
    exact ih (n - 1) _ _ (by omega) ⟨k + 1, by omega, by rw [show sBy v q (k + 1) = sBy v q k ++ [bv (v.1 1213 (64 * q + k))] from rfl, ← List.append_assoc]; exact hm60, by rw [show nI k + Int32.ofInt 1 = nI (k + 1) from nI_add k 1]; rfl⟩
