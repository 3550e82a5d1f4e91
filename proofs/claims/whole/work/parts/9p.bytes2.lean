/-- a signed number of varied length -/
def sgnF : Nat → Int → List Int32
  | 0, z => [bv (nI (z % 128).toNat)]
  | k + 1, z => if z < -64 ∨ 63 < z then bv (nI ((z % 128).toNat + 128)) :: sgnF k (z / 128) else [bv (nI (z % 128).toNat)]
def sgn (x : Int32) : List Int32 := sgnF 4 x.toInt
theorem sgnF_b : ∀ k z, (sgnF k z).length ≤ k + 1
  | 0, z => Nat.le_refl _
  | k + 1, z => by
    unfold sgnF
    split
    · exact Nat.succ_le_succ (sgnF_b k (z / 128))
    · exact Nat.succ_le_succ (Nat.zero_le _)
theorem sgn_b (x : Int32) : (sgn x).length ≤ 5 := sgnF_b 4 x.toInt
theorem sgnF_e {k : Nat} {z : Int} (h : ¬ (z < -64 ∨ 63 < z)) : sgnF k z = [bv (nI (z % 128).toNat)] := by
  cases k with
  | zero => rfl
  | succ k => exact if_neg h
theorem l_and127 (y : Int64) : (y &&& 127).toInt32 = nI (y.toInt % 128).toNat := by
  apply Int32.toBitVec_inj.mp
  rw [Int64.toBitVec_toInt32, Int64.toBitVec_and, show (nI (y.toInt % 128).toNat).toBitVec = BitVec.ofNat 32 (y.toInt % 128).toNat from Int32.toBitVec_ofNat']
  apply BitVec.eq_of_toNat_eq
  rw [BitVec.signExtend_eq_setWidth_of_le _ (by decide), BitVec.toNat_setWidth, BitVec.toNat_and, show (127 : Int64).toBitVec.toNat = 2 ^ 7 - 1 from rfl, Nat.and_two_pow_sub_one_eq_mod, BitVec.toNat_ofNat]
  have h : y.toInt = y.toBitVec.toInt := rfl
  rw [h, BitVec.toInt_eq_toNat_cond]
  have h2 := y.toBitVec.isLt
  split <;> omega
theorem l_shr7 (y : Int64) : (y >>> ((7 : Int32).toInt64 &&& 63)).toInt = y.toInt / 128 := by
  show (y >>> ((7 : Int32).toInt64 &&& 63)).toBitVec.toInt = y.toBitVec.toInt / 128
  rw [Int64.toBitVec_shiftRight]
  show (y.toBitVec.sshiftRight (((7 : Int32).toInt64 &&& 63).toBitVec.smod 64).toNat).toInt = _
  rw [show (((7 : Int32).toInt64 &&& 63).toBitVec.smod 64).toNat = 7 by decide, BitVec.toInt_sshiftRight, Int.shiftRight_eq_div_pow]
  rfl
theorem i_toL (x : Int32) : x.toInt64.toInt = x.toInt := Int32.toInt_toInt64 x
set_option maxRecDepth 100000 in
set_option maxHeartbeats 4000000 in
theorem mm_signed {l : Launch} {N0 t0 : Nat} {D : va_G} {cy : Nat → ClassId} {S : zS} {S0 : zS} {g : Nat} {qa : Nat → Nat} {v : zV} {T : Nat → Int32} {L : List Int32} (hm : mT S0 g qa v T L S) {x : Int32} (hb : L.length + 5 ≤ 40000) : zMv l yX12_signed (zws yX12_signed cX12_signed 4 none) { frames := 1, cells := 0, slots := 0, locals := 21 } N0 t0 D cy S [.ref g, .int x] (fun S' => mT S0 g qa v T (L ++ sgn x) S') 0 0 := by
  refine zMv.of (cc := cX12_signed) (maxL := 4) (ret := none) (by decide) rfl (Nat.le_of_ble_eq_true rfl) ?_
  intro p e s m args below meth c F G hr hlk hnm
  refine r_iload_n F dX12_signed_0 rfl ?_
  refine r_i2l F dX12_signed_1 ?_
  refine r_lstore_n F dX12_signed_2 (by decide) ?_
  refine z_loop (fun k S9 lv => ∃ (L1 : List Int32) (y : Int64), mT S0 g qa v T L1 S9 ∧ L1 ++ sgnF k y.toInt = L ++ sgn x ∧ k ≤ 4 ∧ (-(8 * 128 ^ k : Int) ≤ y.toInt ∧ y.toInt < 8 * 128 ^ k) ∧ L1.length + k + 1 ≤ 40000 ∧ lv = [(2, .long y), (0, .ref g), (1, .int x)]) 4 ?_ ⟨L, x.toInt64, hm, by rw [i_toL]; rfl, Nat.le_refl _, by rw [i_toL]; exact ⟨Int32.le_toInt x, Int32.toInt_lt x⟩, by omega, rfl⟩
  clear hm
  rintro k S lv ⟨L1, y, hm, he, hk4, hy, hb1, rfl⟩ ih
  have hm0 := hm
  obtain ⟨v1, hS, hX, hB⟩ := hm
  refine r_lload_n F dX12_signed_3 rfl ?_
  refine r_ldcL (v := -64) F (zin kv_X12_239) dX12_signed_4 ?_
  refine r_lcmp F dX12_signed_7 ?_
  refine r_if_lt (tgt := 19) F dX12_signed_8 (by decide) (fun c8 => ?_) (fun c8 => ?_)
  · have hz : y.toInt < -64 ∨ 63 < y.toInt := Or.inl (by have c9 := (lg_cmp_lt _ _).mp c8; rw [Int64.lt_iff_toInt_lt] at c9; exact c9)
    obtain ⟨k2, ek⟩ : ∃ k2, k = k2 + 1 := by
      cases k with
      | zero => exact absurd hz (by have := hy.1; have := hy.2; omega)
      | succ k2 => exact ⟨k2, rfl⟩
    subst ek
    refine r_aload_n F dX12_signed_19 rfl ?_
    refine r_lload_n F dX12_signed_20 rfl ?_
    refine r_ldcL (v := 127) F (zin kv_X12_243) dX12_signed_21 ?_
    refine r_land F dX12_signed_24 ?_
    refine r_l2i F dX12_signed_25 ?_
    rw [l_and127]
    refine r_sipush (v := 128) F dX12_signed_26 (by decide) ?_
    refine r_iadd F dX12_signed_29 ?_
    rw [show nI (y.toInt % 128).toNat + 128 = nI ((y.toInt % 128).toNat + 128) from nI_add _ 128]
    refine c_Vv (ci := 12) F G (mm_put hm0 (x := nI ((y.toInt % 128).toNat + 128)) (by omega)) (cwV 1 F.2.2.2.2 (zgV km_X12_235 ki_X12_put ke_X12_X12_put kn_X12 ko_X12_put) rfl rfl rfl ⟨rfl, hd_yX12_put⟩ ⟨Nat.le_of_ble_eq_true rfl, Nat.le_of_ble_eq_true rfl⟩) rfl (by decide) hS.al rfl rfl (Nat.le_of_ble_eq_true rfl) dX12_signed_30 ⟨Nat.le_of_ble_eq_true rfl, Nat.le_of_ble_eq_true rfl⟩ (fun S30 hm30 => ?_)
    refine r_lload_n F dX12_signed_33 rfl ?_
    refine r_bipush (v := 7) F dX12_signed_34 (by decide) ?_
    refine r_lshr F dX12_signed_36 ?_
    refine r_lstore_n F dX12_signed_37 (by decide) ?_
    refine r_goto (tgt := 3) F dX12_signed_38 (by decide) ?_
    exact ih k2 _ _ (by omega) ⟨L1 ++ [bv (nI ((y.toInt % 128).toNat + 128))], y >>> ((7 : Int32).toInt64 &&& 63), hm30, by rw [List.append_assoc, ← he, l_shr7]; exact congrArg (fun z => L1 ++ z) (if_pos hz).symm, by omega, by
      rw [l_shr7]
      have h1 := hy.1
      have h2 := hy.2
      rw [Int.pow_succ] at h1 h2
      generalize (128 : Int) ^ k2 = P at h1 h2
      omega, by rw [List.length_append]; show L1.length + 1 + k2 + 1 ≤ 40000; omega, rfl⟩
  · refine r_lload_n F dX12_signed_11 rfl ?_
    refine r_ldcL (v := 63) F (zin kv_X12_241) dX12_signed_12 ?_
    refine r_lcmp F dX12_signed_15 ?_
    refine r_if_le (tgt := 41) F dX12_signed_16 (by decide) (fun c16 => ?_) (fun c16 => ?_)
    · have hz : ¬ (y.toInt < -64 ∨ 63 < y.toInt) := fun h9 => h9.elim (fun h8 => c8 ((lg_cmp_lt _ _).mpr (Int64.lt_iff_toInt_lt.mpr h8))) (fun h8 => by have c9 := (lg_cmp_le _ _).mp c16; rw [Int64.le_iff_toInt_le] at c9; exact absurd h8 (Int.not_lt.mpr c9))
      rw [sgnF_e hz] at he
      refine r_aload_n F dX12_signed_41 rfl ?_
      refine r_lload_n F dX12_signed_42 rfl ?_
      refine r_ldcL (v := 127) F (zin kv_X12_243) dX12_signed_43 ?_
      refine r_land F dX12_signed_46 ?_
      refine r_l2i F dX12_signed_47 ?_
      rw [l_and127]
      refine c_Vv (ci := 12) F G (mm_put hm0 (x := nI (y.toInt % 128).toNat) (by omega)) (cwV 1 F.2.2.2.2 (zgV km_X12_235 ki_X12_put ke_X12_X12_put kn_X12 ko_X12_put) rfl rfl rfl ⟨rfl, hd_yX12_put⟩ ⟨Nat.le_of_ble_eq_true rfl, Nat.le_of_ble_eq_true rfl⟩) rfl (by decide) hS.al rfl rfl (Nat.le_of_ble_eq_true rfl) dX12_signed_48 ⟨Nat.le_of_ble_eq_true rfl, Nat.le_of_ble_eq_true rfl⟩ (fun S48 hm48 => ?_)
      exact e_vret F hr hlk (by rw [← he]; exact hm48) (by decide) (by decide) dX12_signed_51
    · have hz : y.toInt < -64 ∨ 63 < y.toInt := Or.inr (by have c9 := fun h9 => c16 ((lg_cmp_le _ _).mpr h9); rw [Int64.le_iff_toInt_le] at c9; exact Int.not_le.mp c9)
      obtain ⟨k2, ek⟩ : ∃ k2, k = k2 + 1 := by
        cases k with
        | zero => exact absurd hz (by have := hy.1; have := hy.2; omega)
        | succ k2 => exact ⟨k2, rfl⟩
      subst ek
      refine r_aload_n F dX12_signed_19 rfl ?_
      refine r_lload_n F dX12_signed_20 rfl ?_
      refine r_ldcL (v := 127) F (zin kv_X12_243) dX12_signed_21 ?_
      refine r_land F dX12_signed_24 ?_
      refine r_l2i F dX12_signed_25 ?_
      rw [l_and127]
      refine r_sipush (v := 128) F dX12_signed_26 (by decide) ?_
      refine r_iadd F dX12_signed_29 ?_
      rw [show nI (y.toInt % 128).toNat + 128 = nI ((y.toInt % 128).toNat + 128) from nI_add _ 128]
      refine c_Vv (ci := 12) F G (mm_put hm0 (x := nI ((y.toInt % 128).toNat + 128)) (by omega)) (cwV 1 F.2.2.2.2 (zgV km_X12_235 ki_X12_put ke_X12_X12_put kn_X12 ko_X12_put) rfl rfl rfl ⟨rfl, hd_yX12_put⟩ ⟨Nat.le_of_ble_eq_true rfl, Nat.le_of_ble_eq_true rfl⟩) rfl (by decide) hS.al rfl rfl (Nat.le_of_ble_eq_true rfl) dX12_signed_30 ⟨Nat.le_of_ble_eq_true rfl, Nat.le_of_ble_eq_true rfl⟩ (fun S30 hm30 => ?_)
      refine r_lload_n F dX12_signed_33 rfl ?_
      refine r_bipush (v := 7) F dX12_signed_34 (by decide) ?_
      refine r_lshr F dX12_signed_36 ?_
      refine r_lstore_n F dX12_signed_37 (by decide) ?_
      refine r_goto (tgt := 3) F dX12_signed_38 (by decide) ?_
      exact ih k2 _ _ (by omega) ⟨L1 ++ [bv (nI ((y.toInt % 128).toNat + 128))], y >>> ((7 : Int32).toInt64 &&& 63), hm30, by rw [List.append_assoc, ← he, l_shr7]; exact congrArg (fun z => L1 ++ z) (if_pos hz).symm, by omega, by
        rw [l_shr7]
        have h1 := hy.1
        have h2 := hy.2
        rw [Int.pow_succ] at h1 h2
        generalize (128 : Int) ^ k2 = P at h1 h2
        omega, by rw [List.length_append]; show L1.length + 1 + k2 + 1 ≤ 40000; omega, rfl⟩
