set_option maxRecDepth 100000 in
set_option maxHeartbeats 4000000 in
theorem c_bnumber {l : Launch} {N0 t0 : Nat} {D : va_G} {cy : Nat → ClassId} {S : zS} {X : Nat → Prop} {S0 : zS} {ad : Nat → Nat} {W : zO} (hH : zH t0 X S0 ad W S) {bc k a : Nat} {L : List Int32} (hB : bL W bc L k) (ea : ad bc = a) {v : Nat} (hv : v < 2 ^ 31) (hlim : L.length + 5 ≤ 40000) : zMv l yX0_number (zws yX0_number cX0_number 4 none) { frames := 3, cells := (gk k L.length (uns v).length - k), slots := (2 * (gk k L.length (uns v).length - k)), locals := 67 } N0 t0 D cy S [.ref a, .int (nI v)] (fun S' => bO t0 X S0 ad W bc (L ++ uns v) (gk k L.length (uns v).length) S') (gk k L.length (uns v).length - k) (2 * (gk k L.length (uns v).length - k)) := by
  refine zMv.of (cc := cX0_number) (maxL := 4) (ret := none) (by decide) rfl (Nat.le_of_ble_eq_true rfl) ?_
  intro p e s m args below meth c F G hr hlk hnm
  have hub := uns_b v
  refine r_iload_n F dX0_number_0 rfl ?_
  refine r_istore_n F dX0_number_1 (by decide) ?_
  refine r_iconst (v := 0) F dX0_number_2 (by decide) ?_
  refine r_istore_n F dX0_number_3 (by decide) ?_
  refine zsub (lv' := [(3, .int (nI 0)), (2, .int (nI v)), (0, .ref a), (1, .int (nI v))]) (by simp [zs1, lv_args, Value.category, show ((1 : Fin 4) : Nat) = 1 from rfl, show ((2 : Fin 4) : Nat) = 2 from rfl, show ((3 : Fin 4) : Nat) = 3 from rfl, show nI 0 = (0 : Int32) from rfl]) ?_
  refine z_loop2 (fun n cl sl S9 lv => ∃ (L1 : List Int32) (kk j : Nat) (i r : Nat), bO t0 X S0 ad W bc L1 kk S9 ∧ L1.length = L.length + j ∧ kk = gk k L.length j ∧ cl ≤ kk - k ∧ sl ≤ 2 * (kk - k) ∧ (i + n = 4 ∧ L1 ++ unsF n r = L ++ uns v ∧ r < 8 * 128 ^ n) ∧ lv = [(3, .int (nI i)), (2, .int (nI r)), (0, .ref a), (1, .int (nI v))]) 4 ?_ ⟨L, k, 0, 0, v, ⟨ad, W, hH, fun _ _ => rfl, fun _ _ _ => rfl, hB⟩, rfl, rfl, by omega, by omega, ⟨rfl, rfl, by omega⟩, rfl⟩
  clear hH
  rintro n cl sl S lv ⟨L1, kk, j, i, r, hb1, hL1, hkk, hcl, hsl, ⟨hin, he, hr8⟩, rfl⟩ ih
  obtain ⟨ad1, W1, hH, ka, kw, hB1⟩ := hb1
  have hk1 := hB1.k
  have ea1 : ad1 bc = a := (ka bc (by omega)).trans ea
  have A0 : zA S a 1 := hH.al hB1.2.1 ea1 hk1.1
  have hkl := gk_le k L.length j
  have hlen : j + (unsF n r).length = (uns v).length := by have h9 := congrArg List.length he; rw [List.length_append, List.length_append] at h9; omega
  have hr31 : r < 2 ^ 31 := Nat.lt_of_lt_of_le hr8 (by have := Nat.pow_le_pow_right (show 0 < 128 by decide) (show n ≤ 4 by omega); omega)
  refine r_iload_n F dX0_number_4 rfl ?_
  refine r_iconst (v := 4) F dX0_number_5 (by decide) ?_
  refine r_icmp_ge (tgt := 39) F dX0_number_6 (by decide) (fun c6 => ?_) (fun c6 => ?_)
  · have hu : unsF n r = [bv (nI r)] := by rw [show n = 0 by have c9 := c6; rw [nl4, nI_leI (by omega) (by omega)] at c9; omega]; rfl
    rw [hu] at he hlen
    have hj1 : j + 1 = (uns v).length := hlen
    refine r_aload_n F dX0_number_39 rfl ?_
    refine r_iload_n F dX0_number_40 rfl ?_
    have hpl := pkk_le kk L1.length
    have hgk : pk kk L1.length = gk k L.length (j + 1) := by rw [hL1, hkk]; rfl
    have hgm : gk k L.length (j + 1) ≤ gk k L.length (uns v).length := gk_mono _ (by omega)
    refine c_Vv (ci := 1) F G (c_bput hH hB1 ea1 (x := nI r) (by omega)) (cwV 1 F.2.2.2.2 (zgV km_X0_23 ki_X0_put ke_X0_X0_put kn_X0 ko_X0_put) rfl rfl rfl ⟨rfl, hd_yX0_put⟩ ⟨Nat.le_of_ble_eq_true rfl, Nat.le_of_ble_eq_true rfl⟩) rfl (by decide) A0 rfl rfl (Nat.le_of_ble_eq_true rfl) dX0_number_41 ⟨show cl + (pk kk L1.length - kk) ≤ gk k L.length (uns v).length - k by omega, show sl + 2 * (pk kk L1.length - kk) ≤ 2 * (gk k L.length (uns v).length - k) by omega⟩ (fun S41 h41 => ?_)
    have h41 := bO.tr ka kw h41
    rw [hgk] at h41
    exact e_vret F hr hlk (by rw [he, hj1] at h41; exact h41) (by omega) (by omega) dX0_number_44
  · refine r_iload_n F dX0_number_9 rfl ?_
    refine r_sipush (v := 128) F dX0_number_10 (by decide) ?_
    refine r_icmp_lt (tgt := 39) F dX0_number_13 (by decide) (fun c13 => ?_) (fun c13 => ?_)
    · have hu : unsF n r = [bv (nI r)] := unsF_e (by have c9 := c13; rw [show (128 : Int32) = nI 128 from rfl, nI_ltI (by omega) (by omega)] at c9; omega)
      rw [hu] at he hlen
      have hj1 : j + 1 = (uns v).length := hlen
      refine r_aload_n F dX0_number_39 rfl ?_
      refine r_iload_n F dX0_number_40 rfl ?_
      have hpl := pkk_le kk L1.length
      have hgk : pk kk L1.length = gk k L.length (j + 1) := by rw [hL1, hkk]; rfl
      have hgm : gk k L.length (j + 1) ≤ gk k L.length (uns v).length := gk_mono _ (by omega)
      refine c_Vv (ci := 1) F G (c_bput hH hB1 ea1 (x := nI r) (by omega)) (cwV 1 F.2.2.2.2 (zgV km_X0_23 ki_X0_put ke_X0_X0_put kn_X0 ko_X0_put) rfl rfl rfl ⟨rfl, hd_yX0_put⟩ ⟨Nat.le_of_ble_eq_true rfl, Nat.le_of_ble_eq_true rfl⟩) rfl (by decide) A0 rfl rfl (Nat.le_of_ble_eq_true rfl) dX0_number_41 ⟨show cl + (pk kk L1.length - kk) ≤ gk k L.length (uns v).length - k by omega, show sl + 2 * (pk kk L1.length - kk) ≤ 2 * (gk k L.length (uns v).length - k) by omega⟩ (fun S41 h41 => ?_)
      have h41 := bO.tr ka kw h41
      rw [hgk] at h41
      exact e_vret F hr hlk (by rw [he, hj1] at h41; exact h41) (by omega) (by omega) dX0_number_44
    · have hr1 : ¬ r ≤ 127 := by have c9 := c13; rw [show (128 : Int32) = nI 128 from rfl, nI_ltI (by omega) (by omega)] at c9; omega
      obtain ⟨n2, en⟩ : ∃ n2, n = n2 + 1 := ⟨n - 1, by have c9 := c6; rw [nl4, nI_leI (by omega) (by omega)] at c9; omega⟩
      subst en
      have hu : unsF (n2 + 1) r = bv (nI (r % 128 + 128)) :: unsF n2 (r / 128) := if_neg hr1
      rw [hu] at he hlen
      have hlen2 : j + ((unsF n2 (r / 128)).length + 1) = (uns v).length := hlen
      refine r_aload_n F dX0_number_16 rfl ?_
      refine r_iload_n F dX0_number_17 rfl ?_
      refine r_bipush (v := 127) F dX0_number_18 (by decide) ?_
      refine r_iand F dX0_number_20 ?_
      refine r_sipush (v := 128) F dX0_number_21 (by decide) ?_
      refine r_ior F dX0_number_24 ?_
      rw [i_c128, nI_toInt (by omega), show ((r : Int) % 128).toNat = r % 128 by omega]
      have hpl := pkk_le kk L1.length
      have hgk : pk kk L1.length = gk k L.length (j + 1) := by rw [hL1, hkk]; rfl
      have hgm : gk k L.length (j + 1) ≤ gk k L.length (uns v).length := gk_mono _ (by omega)
      refine c_Vv (ci := 1) F G (c_bput hH hB1 ea1 (x := nI (r % 128 + 128)) (by omega)) (cwV 1 F.2.2.2.2 (zgV km_X0_23 ki_X0_put ke_X0_X0_put kn_X0 ko_X0_put) rfl rfl rfl ⟨rfl, hd_yX0_put⟩ ⟨Nat.le_of_ble_eq_true rfl, Nat.le_of_ble_eq_true rfl⟩) rfl (by decide) A0 rfl rfl (Nat.le_of_ble_eq_true rfl) dX0_number_25 ⟨show cl + (pk kk L1.length - kk) ≤ gk k L.length (uns v).length - k by omega, show sl + 2 * (pk kk L1.length - kk) ≤ 2 * (gk k L.length (uns v).length - k) by omega⟩ (fun S25 h25 => ?_)
      have h25 := bO.tr ka kw h25
      rw [hgk] at h25
      refine r_iload_n F dX0_number_28 rfl ?_
      refine r_bipush (v := 7) F dX0_number_29 (by decide) ?_
      refine r_iushr F dX0_number_31 ?_
      rw [i_ushr7 hr31]
      refine r_istore_n F dX0_number_32 (by decide) ?_
      refine r_iinc F dX0_number_33 rfl (by decide) ?_
      refine r_goto (tgt := 4) F dX0_number_36 (by decide) ?_
      refine zsub (lv' := [(3, .int (nI (i + 1))), (2, .int (nI (r / 128))), (0, .ref a), (1, .int (nI v))]) (by rw [show nI (i + 1) = nI i + Int32.ofInt 1 from (nI_add i 1).symm]; simp [zs1, lv_args, Value.category, show ((1 : Fin 4) : Nat) = 1 from rfl, show ((2 : Fin 4) : Nat) = 2 from rfl, show ((3 : Fin 4) : Nat) = 3 from rfl, show nI 0 = (0 : Int32) from rfl]) ?_
      exact ih n2 _ _ _ _ (by omega) ⟨L1 ++ [bv (nI (r % 128 + 128))], gk k L.length (j + 1), j + 1, i + 1, r / 128, h25, by rw [List.length_append, hL1]; rfl, rfl, by omega, by omega, ⟨by omega, by rw [List.append_assoc]; exact he, by rw [Nat.div_lt_iff_lt_mul (by decide), Nat.mul_assoc, ← Nat.pow_succ]; exact hr8⟩, rfl⟩
theorem wid_p {n : Nat} (i : Nat) (hi : i < 4) : (wid n).take (i + 1) = (wid n).take i ++ [bv (nI (n / 128 ^ i % 128 + 128))] := by
  rcases (show i = 0 ∨ i = 1 ∨ i = 2 ∨ i = 3 by omega) with e | e | e | e <;> subst e
  · show [bv (nI (n % 128 + 128))] = [] ++ [bv (nI (n / 1 % 128 + 128))]
    rw [Nat.div_one]
    rfl
  · rfl
  · rfl
  · rfl
set_option maxRecDepth 100000 in
set_option maxHeartbeats 4000000 in
theorem c_bwide {l : Launch} {N0 t0 : Nat} {D : va_G} {cy : Nat → ClassId} {S : zS} {X : Nat → Prop} {S0 : zS} {ad : Nat → Nat} {W : zO} (hH : zH t0 X S0 ad W S) {bc k a : Nat} {L : List Int32} (hB : bL W bc L k) (ea : ad bc = a) {v : Nat} (hv : v < 2 ^ 31) (hlim : L.length + 5 ≤ 40000) : zMv l yX0_wide (zws yX0_wide cX0_wide 4 none) { frames := 3, cells := (gk k L.length (wid v).length - k), slots := (2 * (gk k L.length (wid v).length - k)), locals := 67 } N0 t0 D cy S [.ref a, .int (nI v)] (fun S' => bO t0 X S0 ad W bc (L ++ wid v) (gk k L.length (wid v).length) S') (gk k L.length (wid v).length - k) (2 * (gk k L.length (wid v).length - k)) := by
  refine zMv.of (cc := cX0_wide) (maxL := 4) (ret := none) (by decide) rfl (Nat.le_of_ble_eq_true rfl) ?_
  intro p e s m args below meth c F G hr hlk hnm
  have hub : (wid v).length = 5 := rfl
  refine r_iload_n F dX0_wide_0 rfl ?_
  refine r_istore_n F dX0_wide_1 (by decide) ?_
  refine r_iconst (v := 0) F dX0_wide_2 (by decide) ?_
  refine r_istore_n F dX0_wide_3 (by decide) ?_
  refine zsub (lv' := [(3, .int (nI 0)), (2, .int (nI v)), (0, .ref a), (1, .int (nI v))]) (by simp [zs1, lv_args, Value.category, show ((1 : Fin 4) : Nat) = 1 from rfl, show ((2 : Fin 4) : Nat) = 2 from rfl, show ((3 : Fin 4) : Nat) = 3 from rfl, show nI 0 = (0 : Int32) from rfl]) ?_
  rw [show nI v = nI (v / 128 ^ 0) by rw [Nat.pow_zero, Nat.div_one]]
  refine z_loop2 (fun n cl sl S9 lv => ∃ (L1 : List Int32) (kk j : Nat) (i : Nat), bO t0 X S0 ad W bc L1 kk S9 ∧ L1.length = L.length + j ∧ kk = gk k L.length j ∧ cl ≤ kk - k ∧ sl ≤ 2 * (kk - k) ∧ (i + n = 4 ∧ L1 = L ++ (wid v).take i ∧ j = i) ∧ lv = [(3, .int (nI i)), (2, .int (nI (v / 128 ^ i))), (0, .ref a), (1, .int (nI (v / 128 ^ 0)))]) 4 ?_ ⟨L, k, 0, 0, ⟨ad, W, hH, fun _ _ => rfl, fun _ _ _ => rfl, hB⟩, rfl, rfl, by omega, by omega, ⟨rfl, (List.append_nil L).symm, rfl⟩, rfl⟩
  clear hH
  rintro n cl sl S lv ⟨L1, kk, j, i, hb1, hL1, hkk, hcl, hsl, ⟨hin, he, hji⟩, rfl⟩ ih
  obtain ⟨ad1, W1, hH, ka, kw, hB1⟩ := hb1
  have hk1 := hB1.k
  have ea1 : ad1 bc = a := (ka bc (by omega)).trans ea
  have A0 : zA S a 1 := hH.al hB1.2.1 ea1 hk1.1
  have hkl := gk_le k L.length j
  have hr31 : v / 128 ^ i < 2 ^ 31 := Nat.lt_of_le_of_lt (Nat.div_le_self _ _) hv
  refine r_iload_n F dX0_wide_4 rfl ?_
  refine r_iconst (v := 4) F dX0_wide_5 (by decide) ?_
  refine r_icmp_ge (tgt := 32) F dX0_wide_6 (by decide) (fun c6 => ?_) (fun c6 => ?_)
  · have hi4 : i = 4 := by have c9 := c6; rw [nl4, nI_leI (by omega) (by omega)] at c9; omega
    subst hi4
    refine r_aload_n F dX0_wide_32 rfl ?_
    refine r_iload_n F dX0_wide_33 rfl ?_
    have hpl := pkk_le kk L1.length
    have hgk : pk kk L1.length = gk k L.length (j + 1) := by rw [hL1, hkk]; rfl
    have hgm : gk k L.length (j + 1) ≤ gk k L.length (wid v).length := gk_mono _ (by omega)
    refine c_Vv (ci := 1) F G (c_bput hH hB1 ea1 (x := nI (v / 128 ^ 4)) (by omega)) (cwV 1 F.2.2.2.2 (zgV km_X0_23 ki_X0_put ke_X0_X0_put kn_X0 ko_X0_put) rfl rfl rfl ⟨rfl, hd_yX0_put⟩ ⟨Nat.le_of_ble_eq_true rfl, Nat.le_of_ble_eq_true rfl⟩) rfl (by decide) A0 rfl rfl (Nat.le_of_ble_eq_true rfl) dX0_wide_34 ⟨show cl + (pk kk L1.length - kk) ≤ gk k L.length (wid v).length - k by omega, show sl + 2 * (pk kk L1.length - kk) ≤ 2 * (gk k L.length (wid v).length - k) by omega⟩ (fun S34 h34 => ?_)
    have h34 := bO.tr ka kw h34
    rw [hgk] at h34
    exact e_vret F hr hlk (by
      rw [he, hji, List.append_assoc] at h34
      exact h34) (by omega) (by omega) dX0_wide_37
  · have hi4 : i < 4 := by have c9 := c6; rw [nl4, nI_leI (by omega) (by omega)] at c9; omega
    refine r_aload_n F dX0_wide_9 rfl ?_
    refine r_iload_n F dX0_wide_10 rfl ?_
    refine r_bipush (v := 127) F dX0_wide_11 (by decide) ?_
    refine r_iand F dX0_wide_13 ?_
    refine r_sipush (v := 128) F dX0_wide_14 (by decide) ?_
    refine r_ior F dX0_wide_17 ?_
    rw [i_c128, nI_toInt (by omega), show (((v / 128 ^ i : Nat) : Int) % 128).toNat = v / 128 ^ i % 128 by omega]
    have hpl := pkk_le kk L1.length
    have hgk : pk kk L1.length = gk k L.length (j + 1) := by rw [hL1, hkk]; rfl
    have hgm : gk k L.length (j + 1) ≤ gk k L.length (wid v).length := gk_mono _ (by omega)
    refine c_Vv (ci := 1) F G (c_bput hH hB1 ea1 (x := nI (v / 128 ^ i % 128 + 128)) (by omega)) (cwV 1 F.2.2.2.2 (zgV km_X0_23 ki_X0_put ke_X0_X0_put kn_X0 ko_X0_put) rfl rfl rfl ⟨rfl, hd_yX0_put⟩ ⟨Nat.le_of_ble_eq_true rfl, Nat.le_of_ble_eq_true rfl⟩) rfl (by decide) A0 rfl rfl (Nat.le_of_ble_eq_true rfl) dX0_wide_18 ⟨show cl + (pk kk L1.length - kk) ≤ gk k L.length (wid v).length - k by omega, show sl + 2 * (pk kk L1.length - kk) ≤ 2 * (gk k L.length (wid v).length - k) by omega⟩ (fun S18 h18 => ?_)
    have h18 := bO.tr ka kw h18
    rw [hgk] at h18
    refine r_iload_n F dX0_wide_21 rfl ?_
    refine r_bipush (v := 7) F dX0_wide_22 (by decide) ?_
    refine r_iushr F dX0_wide_24 ?_
    rw [i_ushr7 hr31, show v / 128 ^ i / 128 = v / 128 ^ (i + 1) by rw [Nat.div_div_eq_div_mul, Nat.pow_succ]]
    refine r_istore_n F dX0_wide_25 (by decide) ?_
    refine r_iinc F dX0_wide_26 rfl (by decide) ?_
    refine r_goto (tgt := 4) F dX0_wide_29 (by decide) ?_
    refine zsub (lv' := [(3, .int (nI (i + 1))), (2, .int (nI (v / 128 ^ (i + 1)))), (0, .ref a), (1, .int (nI (v / 128 ^ 0)))]) (by rw [show nI (i + 1) = nI i + Int32.ofInt 1 from (nI_add i 1).symm]; simp [zs1, lv_args, Value.category, show ((1 : Fin 4) : Nat) = 1 from rfl, show ((2 : Fin 4) : Nat) = 2 from rfl, show ((3 : Fin 4) : Nat) = 3 from rfl, show nI 0 = (0 : Int32) from rfl]) ?_
    exact ih (n - 1) _ _ _ _ (by omega) ⟨L1 ++ [bv (nI (v / 128 ^ i % 128 + 128))], gk k L.length (j + 1), j + 1, i + 1, h18, by rw [List.length_append, hL1]; rfl, rfl, by omega, by omega, ⟨by omega, by rw [he, wid_p i hi4, List.append_assoc], by omega⟩, rfl⟩
set_option maxRecDepth 100000 in
set_option maxHeartbeats 4000000 in
theorem c_bsigned {l : Launch} {N0 t0 : Nat} {D : va_G} {cy : Nat → ClassId} {S : zS} {X : Nat → Prop} {S0 : zS} {ad : Nat → Nat} {W : zO} (hH : zH t0 X S0 ad W S) {bc k a : Nat} {L : List Int32} (hB : bL W bc L k) (ea : ad bc = a) {x : Int32} (hlim : L.length + 5 ≤ 40000) : zMv l yX0_signed (zws yX0_signed cX0_signed 4 none) { frames := 3, cells := (gk k L.length (sgn x).length - k), slots := (2 * (gk k L.length (sgn x).length - k)), locals := 67 } N0 t0 D cy S [.ref a, .int x] (fun S' => bO t0 X S0 ad W bc (L ++ sgn x) (gk k L.length (sgn x).length) S') (gk k L.length (sgn x).length - k) (2 * (gk k L.length (sgn x).length - k)) := by
  refine zMv.of (cc := cX0_signed) (maxL := 4) (ret := none) (by decide) rfl (Nat.le_of_ble_eq_true rfl) ?_
  intro p e s m args below meth c F G hr hlk hnm
  have hub := sgn_b x
  refine r_iload_n F dX0_signed_0 rfl ?_
  refine r_istore_n F dX0_signed_1 (by decide) ?_
  refine r_iconst (v := 0) F dX0_signed_2 (by decide) ?_
  refine r_istore_n F dX0_signed_3 (by decide) ?_
  refine zsub (lv' := [(3, .int (nI 0)), (2, .int x), (0, .ref a), (1, .int x)]) (by simp [zs1, lv_args, Value.category, show ((1 : Fin 4) : Nat) = 1 from rfl, show ((2 : Fin 4) : Nat) = 2 from rfl, show ((3 : Fin 4) : Nat) = 3 from rfl, show nI 0 = (0 : Int32) from rfl]) ?_
  refine z_loop2 (fun n cl sl S9 lv => ∃ (L1 : List Int32) (kk j : Nat) (i : Nat) (z : Int32), bO t0 X S0 ad W bc L1 kk S9 ∧ L1.length = L.length + j ∧ kk = gk k L.length j ∧ cl ≤ kk - k ∧ sl ≤ 2 * (kk - k) ∧ (i + n = 4 ∧ L1 ++ sgnF n z.toInt = L ++ sgn x) ∧ lv = [(3, .int (nI i)), (2, .int z), (0, .ref a), (1, .int x)]) 4 ?_ ⟨L, k, 0, 0, x, ⟨ad, W, hH, fun _ _ => rfl, fun _ _ _ => rfl, hB⟩, rfl, rfl, by omega, by omega, ⟨rfl, rfl⟩, rfl⟩
  clear hH
  rintro n cl sl S lv ⟨L1, kk, j, i, z, hb1, hL1, hkk, hcl, hsl, ⟨hin, he⟩, rfl⟩ ih
  obtain ⟨ad1, W1, hH, ka, kw, hB1⟩ := hb1
  have hk1 := hB1.k
  have ea1 : ad1 bc = a := (ka bc (by omega)).trans ea
  have A0 : zA S a 1 := hH.al hB1.2.1 ea1 hk1.1
  have hkl := gk_le k L.length j
  have hlen : j + (sgnF n z.toInt).length = (sgn x).length := by have h9 := congrArg List.length he; rw [List.length_append, List.length_append] at h9; omega
  refine r_iload_n F dX0_signed_4 rfl ?_
  refine r_iconst (v := 4) F dX0_signed_5 (by decide) ?_
  refine r_icmp_ge (tgt := 44) F dX0_signed_6 (by decide) (fun c6 => ?_) (fun c6 => ?_)
  · have hu : sgnF n z.toInt = [bv (nI (z.toInt % 128).toNat)] := by rw [show n = 0 by have c9 := c6; rw [nl4, nI_leI (by omega) (by omega)] at c9; omega]; rfl
    rw [hu] at he hlen
    have hj1 : j + 1 = (sgn x).length := hlen
    refine r_aload_n F dX0_signed_44 rfl ?_
    refine r_iload_n F dX0_signed_45 rfl ?_
    refine r_bipush (v := 127) F dX0_signed_46 (by decide) ?_
    refine r_iand F dX0_signed_48 ?_
    rw [i_and127]
    have hpl := pkk_le kk L1.length
    have hgk : pk kk L1.length = gk k L.length (j + 1) := by rw [hL1, hkk]; rfl
    have hgm : gk k L.length (j + 1) ≤ gk k L.length (sgn x).length := gk_mono _ (by omega)
    refine c_Vv (ci := 1) F G (c_bput hH hB1 ea1 (x := nI (z.toInt % 128).toNat) (by omega)) (cwV 1 F.2.2.2.2 (zgV km_X0_23 ki_X0_put ke_X0_X0_put kn_X0 ko_X0_put) rfl rfl rfl ⟨rfl, hd_yX0_put⟩ ⟨Nat.le_of_ble_eq_true rfl, Nat.le_of_ble_eq_true rfl⟩) rfl (by decide) A0 rfl rfl (Nat.le_of_ble_eq_true rfl) dX0_signed_49 ⟨show cl + (pk kk L1.length - kk) ≤ gk k L.length (sgn x).length - k by omega, show sl + 2 * (pk kk L1.length - kk) ≤ 2 * (gk k L.length (sgn x).length - k) by omega⟩ (fun S49 h49 => ?_)
    have h49 := bO.tr ka kw h49
    rw [hgk] at h49
    exact e_vret F hr hlk (by rw [he, hj1] at h49; exact h49) (by omega) (by omega) dX0_signed_52
  · refine r_iload_n F dX0_signed_9 rfl ?_
    refine r_bipush (v := -64) F dX0_signed_10 (by decide) ?_
    refine r_icmp_lt (tgt := 21) F dX0_signed_12 (by decide) (fun c12 => ?_) (fun c12 => ?_)
    · have hz : z.toInt < -64 ∨ 63 < z.toInt := Or.inl (by have c9 := c12; rw [Int32.lt_iff_toInt_lt] at c9; exact c9)
      obtain ⟨n2, en⟩ : ∃ n2, n = n2 + 1 := ⟨n - 1, by have c9 := c6; rw [nl4, nI_leI (by omega) (by omega)] at c9; omega⟩
      subst en
      have hu : sgnF (n2 + 1) z.toInt = bv (nI ((z.toInt % 128).toNat + 128)) :: sgnF n2 (z.toInt / 128) := if_pos hz
      rw [hu] at he hlen
      have hlen2 : j + ((sgnF n2 (z.toInt / 128)).length + 1) = (sgn x).length := hlen
      refine r_aload_n F dX0_signed_21 rfl ?_
      refine r_iload_n F dX0_signed_22 rfl ?_
      refine r_bipush (v := 127) F dX0_signed_23 (by decide) ?_
      refine r_iand F dX0_signed_25 ?_
      refine r_sipush (v := 128) F dX0_signed_26 (by decide) ?_
      refine r_ior F dX0_signed_29 ?_
      rw [i_c128]
      have hpl := pkk_le kk L1.length
      have hgk : pk kk L1.length = gk k L.length (j + 1) := by rw [hL1, hkk]; rfl
      have hgm : gk k L.length (j + 1) ≤ gk k L.length (sgn x).length := gk_mono _ (by omega)
      refine c_Vv (ci := 1) F G (c_bput hH hB1 ea1 (x := nI ((z.toInt % 128).toNat + 128)) (by omega)) (cwV 1 F.2.2.2.2 (zgV km_X0_23 ki_X0_put ke_X0_X0_put kn_X0 ko_X0_put) rfl rfl rfl ⟨rfl, hd_yX0_put⟩ ⟨Nat.le_of_ble_eq_true rfl, Nat.le_of_ble_eq_true rfl⟩) rfl (by decide) A0 rfl rfl (Nat.le_of_ble_eq_true rfl) dX0_signed_30 ⟨show cl + (pk kk L1.length - kk) ≤ gk k L.length (sgn x).length - k by omega, show sl + 2 * (pk kk L1.length - kk) ≤ 2 * (gk k L.length (sgn x).length - k) by omega⟩ (fun S30 h30 => ?_)
      have h30 := bO.tr ka kw h30
      rw [hgk] at h30
      refine r_iload_n F dX0_signed_33 rfl ?_
      refine r_bipush (v := 7) F dX0_signed_34 (by decide) ?_
      refine r_ishr F dX0_signed_36 ?_
      refine r_istore_n F dX0_signed_37 (by decide) ?_
      refine r_iinc F dX0_signed_38 rfl (by decide) ?_
      refine r_goto (tgt := 4) F dX0_signed_41 (by decide) ?_
      refine zsub (lv' := [(3, .int (nI (i + 1))), (2, .int (z >>> ((7 : Int32) &&& 31))), (0, .ref a), (1, .int x)]) (by rw [show nI (i + 1) = nI i + Int32.ofInt 1 from (nI_add i 1).symm]; simp [zs1, lv_args, Value.category, show ((1 : Fin 4) : Nat) = 1 from rfl, show ((2 : Fin 4) : Nat) = 2 from rfl, show ((3 : Fin 4) : Nat) = 3 from rfl, show nI 0 = (0 : Int32) from rfl]) ?_
      exact ih n2 _ _ _ _ (by omega) ⟨L1 ++ [bv (nI ((z.toInt % 128).toNat + 128))], gk k L.length (j + 1), j + 1, i + 1, z >>> ((7 : Int32) &&& 31), h30, by rw [List.length_append, hL1]; rfl, rfl, by omega, by omega, ⟨by omega, by rw [List.append_assoc, i_shr7]; exact he⟩, rfl⟩
    · refine r_iload_n F dX0_signed_15 rfl ?_
      refine r_bipush (v := 63) F dX0_signed_16 (by decide) ?_
      refine r_icmp_le (tgt := 44) F dX0_signed_18 (by decide) (fun c18 => ?_) (fun c18 => ?_)
      · have hu : sgnF n z.toInt = [bv (nI (z.toInt % 128).toNat)] := sgnF_e (by
          have c8 := c12
          have c9 := c18
          rw [Int32.lt_iff_toInt_lt, show (-64 : Int32).toInt = -64 from rfl] at c8
          rw [Int32.le_iff_toInt_le, show (63 : Int32).toInt = 63 from rfl] at c9
          omega)
        rw [hu] at he hlen
        have hj1 : j + 1 = (sgn x).length := hlen
        refine r_aload_n F dX0_signed_44 rfl ?_
        refine r_iload_n F dX0_signed_45 rfl ?_
        refine r_bipush (v := 127) F dX0_signed_46 (by decide) ?_
        refine r_iand F dX0_signed_48 ?_
        rw [i_and127]
        have hpl := pkk_le kk L1.length
        have hgk : pk kk L1.length = gk k L.length (j + 1) := by rw [hL1, hkk]; rfl
        have hgm : gk k L.length (j + 1) ≤ gk k L.length (sgn x).length := gk_mono _ (by omega)
        refine c_Vv (ci := 1) F G (c_bput hH hB1 ea1 (x := nI (z.toInt % 128).toNat) (by omega)) (cwV 1 F.2.2.2.2 (zgV km_X0_23 ki_X0_put ke_X0_X0_put kn_X0 ko_X0_put) rfl rfl rfl ⟨rfl, hd_yX0_put⟩ ⟨Nat.le_of_ble_eq_true rfl, Nat.le_of_ble_eq_true rfl⟩) rfl (by decide) A0 rfl rfl (Nat.le_of_ble_eq_true rfl) dX0_signed_49 ⟨show cl + (pk kk L1.length - kk) ≤ gk k L.length (sgn x).length - k by omega, show sl + 2 * (pk kk L1.length - kk) ≤ 2 * (gk k L.length (sgn x).length - k) by omega⟩ (fun S49 h49 => ?_)
        have h49 := bO.tr ka kw h49
        rw [hgk] at h49
        exact e_vret F hr hlk (by rw [he, hj1] at h49; exact h49) (by omega) (by omega) dX0_signed_52
      · have hz : z.toInt < -64 ∨ 63 < z.toInt := Or.inr (by have c9 := c18; rw [Int32.le_iff_toInt_le, show (63 : Int32).toInt = 63 from rfl] at c9; omega)
        obtain ⟨n2, en⟩ : ∃ n2, n = n2 + 1 := ⟨n - 1, by have c9 := c6; rw [nl4, nI_leI (by omega) (by omega)] at c9; omega⟩
        subst en
        have hu : sgnF (n2 + 1) z.toInt = bv (nI ((z.toInt % 128).toNat + 128)) :: sgnF n2 (z.toInt / 128) := if_pos hz
        rw [hu] at he hlen
        have hlen2 : j + ((sgnF n2 (z.toInt / 128)).length + 1) = (sgn x).length := hlen
        refine r_aload_n F dX0_signed_21 rfl ?_
        refine r_iload_n F dX0_signed_22 rfl ?_
        refine r_bipush (v := 127) F dX0_signed_23 (by decide) ?_
        refine r_iand F dX0_signed_25 ?_
        refine r_sipush (v := 128) F dX0_signed_26 (by decide) ?_
        refine r_ior F dX0_signed_29 ?_
        rw [i_c128]
        have hpl := pkk_le kk L1.length
        have hgk : pk kk L1.length = gk k L.length (j + 1) := by rw [hL1, hkk]; rfl
        have hgm : gk k L.length (j + 1) ≤ gk k L.length (sgn x).length := gk_mono _ (by omega)
        refine c_Vv (ci := 1) F G (c_bput hH hB1 ea1 (x := nI ((z.toInt % 128).toNat + 128)) (by omega)) (cwV 1 F.2.2.2.2 (zgV km_X0_23 ki_X0_put ke_X0_X0_put kn_X0 ko_X0_put) rfl rfl rfl ⟨rfl, hd_yX0_put⟩ ⟨Nat.le_of_ble_eq_true rfl, Nat.le_of_ble_eq_true rfl⟩) rfl (by decide) A0 rfl rfl (Nat.le_of_ble_eq_true rfl) dX0_signed_30 ⟨show cl + (pk kk L1.length - kk) ≤ gk k L.length (sgn x).length - k by omega, show sl + 2 * (pk kk L1.length - kk) ≤ 2 * (gk k L.length (sgn x).length - k) by omega⟩ (fun S30 h30 => ?_)
        have h30 := bO.tr ka kw h30
        rw [hgk] at h30
        refine r_iload_n F dX0_signed_33 rfl ?_
        refine r_bipush (v := 7) F dX0_signed_34 (by decide) ?_
        refine r_ishr F dX0_signed_36 ?_
        refine r_istore_n F dX0_signed_37 (by decide) ?_
        refine r_iinc F dX0_signed_38 rfl (by decide) ?_
        refine r_goto (tgt := 4) F dX0_signed_41 (by decide) ?_
        refine zsub (lv' := [(3, .int (nI (i + 1))), (2, .int (z >>> ((7 : Int32) &&& 31))), (0, .ref a), (1, .int x)]) (by rw [show nI (i + 1) = nI i + Int32.ofInt 1 from (nI_add i 1).symm]; simp [zs1, lv_args, Value.category, show ((1 : Fin 4) : Nat) = 1 from rfl, show ((2 : Fin 4) : Nat) = 2 from rfl, show ((3 : Fin 4) : Nat) = 3 from rfl, show nI 0 = (0 : Int32) from rfl]) ?_
        exact ih n2 _ _ _ _ (by omega) ⟨L1 ++ [bv (nI ((z.toInt % 128).toNat + 128))], gk k L.length (j + 1), j + 1, i + 1, z >>> ((7 : Int32) &&& 31), h30, by rw [List.length_append, hL1]; rfl, rfl, by omega, by omega, ⟨by omega, by rw [List.append_assoc, i_shr7]; exact he⟩, rfl⟩
set_option maxRecDepth 100000 in
set_option maxHeartbeats 4000000 in
theorem c_bputAll {l : Launch} {N0 t0 : Nat} {D : va_G} {cy : Nat → ClassId} {S : zS} {X : Nat → Prop} {S0 : zS} {ad : Nat → Nat} {W : zO} (hH : zH t0 X S0 ad W S) {bc k a : Nat} {L : List Int32} (hB : bL W bc L k) (ea : ad bc = a) {M : List Int32} {se b : Nat} (eb : ad se = b) (hec : se ≠ bc) (hec2 : se ≠ bc + 1) (hea : oa W se) (hek : kd se = 13) (hen : onn W se < 2 ^ 31) (hel : M.length ≤ onn W se) (her : ∀ i, i < M.length → bv (ori W se i) = M.getD i 0) (hlim : L.length + M.length ≤ 40000) : zMv l yX0_putAll (zws yX0_putAll cX0_putAll 4 none) { frames := 3, cells := (gk k L.length M.length - k), slots := (2 * (gk k L.length M.length - k)), locals := 67 } N0 t0 D cy S [.ref a, .ref b, .int (nI M.length)] (fun S' => bO t0 X S0 ad W bc (L ++ M) (gk k L.length M.length) S') (gk k L.length M.length - k) (2 * (gk k L.length M.length - k)) := by
  refine zMv.of (cc := cX0_putAll) (maxL := 4) (ret := none) (by decide) rfl (Nat.le_of_ble_eq_true rfl) ?_
  intro p e s m args below meth c F G hr hlk hnm
  refine r_iconst (v := 0) F dX0_putAll_0 (by decide) ?_
  refine r_istore_n F dX0_putAll_1 (by decide) ?_
  refine zsub (lv' := [(3, .int (nI 0)), (0, .ref a), (1, .ref b), (2, .int (nI M.length))]) (by simp [zs1, lv_args, Value.category, show ((1 : Fin 4) : Nat) = 1 from rfl, show ((2 : Fin 4) : Nat) = 2 from rfl, show ((3 : Fin 4) : Nat) = 3 from rfl, show nI 0 = (0 : Int32) from rfl]) ?_
  refine z_loop2 (fun n cl sl S9 lv => ∃ (L1 : List Int32) (kk j : Nat) (i : Nat), bO t0 X S0 ad W bc L1 kk S9 ∧ L1.length = L.length + j ∧ kk = gk k L.length j ∧ cl ≤ kk - k ∧ sl ≤ 2 * (kk - k) ∧ (i + n = M.length ∧ L1 = L ++ M.take i ∧ j = i) ∧ lv = [(3, .int (nI i)), (0, .ref a), (1, .ref b), (2, .int (nI M.length))]) M.length ?_ ⟨L, k, 0, 0, ⟨ad, W, hH, fun _ _ => rfl, fun _ _ _ => rfl, hB⟩, rfl, rfl, by omega, by omega, ⟨Nat.zero_add _, (List.append_nil L).symm, rfl⟩, rfl⟩
  clear hH
  rintro n cl sl S lv ⟨L1, kk, j, i, hb1, hL1, hkk, hcl, hsl, ⟨hin, he, hji⟩, rfl⟩ ih
  have hb9 := hb1
  obtain ⟨ad1, W1, hH, ka, kw, hB1⟩ := hb1
  have hk1 := hB1.k
  have ea1 : ad1 bc = a := (ka bc (by omega)).trans ea
  have A0 : zA S a 1 := hH.al hB1.2.1 ea1 hk1.1
  have hkl := gk_le k L.length j
  have hW1 := kw se hec hec2
  have hea1 : oa W1 se := by show (W1 se).1; rw [hW1]; exact hea
  have hen1 : onn W1 se = onn W se := by show (W1 se).2.2.2.2.1 = _; rw [hW1]
  have her1 : ori W1 se = ori W se := by show (W1 se).2.2.2.2.2.1 = _; rw [hW1]
  have eb1 : ad1 se = b := (ka se hec2).trans eb
  refine r_iload_n F dX0_putAll_2 rfl ?_
  refine r_iload_n F dX0_putAll_3 rfl ?_
  refine r_icmp_ge (tgt := 20) F dX0_putAll_4 (by decide) (fun c4 => ?_) (fun c4 => ?_)
  · have hi4 : i = M.length := by have c9 := c4; rw [nI_leI (by omega) (by omega)] at c9; omega
    subst hi4
    rw [List.take_length] at he
    have hkk2 : kk = gk k L.length M.length := by rw [hkk, hji]
    exact e_vret F hr hlk (by rw [he, hkk2] at hb9; exact hb9) (by rw [← hkk2]; exact hcl) (by rw [← hkk2]; exact hsl) dX0_putAll_20
  · have hi4 : i < M.length := by have c9 := c4; rw [nI_leI (by omega) (by omega)] at c9; omega
    refine r_aload_n F dX0_putAll_7 rfl ?_
    refine r_aload_n F dX0_putAll_8 rfl ?_
    refine r_iload_n F dX0_putAll_9 rfl ?_
    refine v_bald F G hH hea1 eb1 hek (by rw [hen1]; omega) (by rw [hen1]; exact hen) dX0_putAll_10 ?_
    rw [her1]
    have hpl := pkk_le kk L1.length
    have hgk : pk kk L1.length = gk k L.length (j + 1) := by rw [hL1, hkk]; rfl
    have hgm : gk k L.length (j + 1) ≤ gk k L.length M.length := gk_mono _ (by omega)
    refine c_Vv (ci := 1) F G (c_bput hH hB1 ea1 (x := ori W se i) (by omega)) (cwV 1 F.2.2.2.2 (zgV km_X0_23 ki_X0_put ke_X0_X0_put kn_X0 ko_X0_put) rfl rfl rfl ⟨rfl, hd_yX0_put⟩ ⟨Nat.le_of_ble_eq_true rfl, Nat.le_of_ble_eq_true rfl⟩) rfl (by decide) A0 rfl rfl (Nat.le_of_ble_eq_true rfl) dX0_putAll_11 ⟨show cl + (pk kk L1.length - kk) ≤ gk k L.length M.length - k by omega, show sl + 2 * (pk kk L1.length - kk) ≤ 2 * (gk k L.length M.length - k) by omega⟩ (fun S11 h11 => ?_)
    have h11 := bO.tr ka kw h11
    rw [hgk] at h11
    rw [her i hi4] at h11
    refine r_iinc F dX0_putAll_14 rfl (by decide) ?_
    refine r_goto (tgt := 2) F dX0_putAll_17 (by decide) ?_
    refine zsub (lv' := [(3, .int (nI (i + 1))), (0, .ref a), (1, .ref b), (2, .int (nI M.length))]) (by rw [show nI (i + 1) = nI i + Int32.ofInt 1 from (nI_add i 1).symm]; simp [zs1, lv_args, Value.category, show ((1 : Fin 4) : Nat) = 1 from rfl, show ((2 : Fin 4) : Nat) = 2 from rfl, show ((3 : Fin 4) : Nat) = 3 from rfl, show nI 0 = (0 : Int32) from rfl]) ?_
    exact ih (n - 1) _ _ _ _ (by omega) ⟨_, gk k L.length (j + 1), j + 1, i + 1, h11, by rw [List.length_append, hL1]; rfl, rfl, by omega, by omega, ⟨by omega, by rw [he, List.append_assoc]; exact congrArg (fun z => L ++ z) (by rw [List.getD_eq_getElem?_getD, List.getElem?_eq_getElem hi4]; exact (List.take_succ_eq_append_getElem hi4).symm), by omega⟩, rfl⟩
