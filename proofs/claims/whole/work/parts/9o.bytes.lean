/-- what a byte's place holds behind a put of x -/
def bv (x : Int32) : Int32 := vp_nar .byte x.toInt8.toInt32
/-- the reference's module is L; behind it lies T -/
def mB (v : zV) (T : Nat → Int32) (L : List Int32) : Prop := v.1 1223 0 = nI L.length ∧ (∀ k, k < L.length → v.1 1222 k = L.getD k 0) ∧ ∀ k, L.length ≤ k → v.1 1222 k = T k
def vM (v v1 : zV) : Prop := (∀ id k, id ≠ 1222 → id ≠ 1223 → v1.1 id k = v.1 id k) ∧ v1.2 = v.2
theorem vM.rf {v : zV} : vM v v := ⟨fun _ _ _ _ => rfl, rfl⟩
theorem vM.u {v v1 : zV} (h : vM v v1) {id k : Nat} {x : Int32} (hid : id = 1222 ∨ id = 1223) : vM v (u1 v1 id k x) := ⟨fun j m h1 h2 => (z2_n _ _ (Or.inl (fun e => by rcases hid with q | q <;> omega))).trans (h.1 j m h1 h2), h.2⟩
theorem vM.c {v v1 : zV} (h : vM v v1) {id k : Nat} (h1 : id ≠ 1222) (h2 : id ≠ 1223) : cn v1 id k = cn v id k := by
  unfold cn
  rw [h.1 id k h1 h2]
/-- the state holds the tables v with the module L -/
def mT (S0 : zS) (g : Nat) (qa : Nat → Nat) (v : zV) (T : Nat → Int32) (L : List Int32) (S : zS) : Prop := ∃ v1, zmR S0 g qa v1 S ∧ vM v v1 ∧ mB v1 T L
def mZ (S0 : zS) (g : Nat) (qa : Nat → Nat) (v : zV) (L : List Int32) (S : zS) : Prop := ∃ T, mT S0 g qa v T L S
theorem mB.put {v : zV} {T : Nat → Int32} {L : List Int32} {x : Int32} (h : mB v T L) : mB (u1 (u1 v 1223 0 (nI (L.length + 1))) 1222 L.length x) T (L ++ [x]) := by
  refine ⟨?_, fun k hk => ?_, fun k hk => ?_⟩
  · rw [List.length_append]
    show z2 (z2 v.1 1223 0 (nI (L.length + 1))) 1222 L.length x 1223 0 = nI (L.length + 1)
    rw [z2_n _ _ (Or.inl (by decide)), z2_s]
  · rw [List.length_append] at hk
    have hk2 : k < L.length + 1 := hk
    by_cases e : k = L.length
    · rw [e, List.getD_eq_getElem?_getD, List.getElem?_append_right (Nat.le_refl _), Nat.sub_self]
      exact z2_s _ _ _ _
    · rw [List.getD_eq_getElem?_getD, List.getElem?_append_left (by omega), ← List.getD_eq_getElem?_getD]
      show z2 (z2 v.1 1223 0 (nI (L.length + 1))) 1222 L.length x 1222 k = L.getD k 0
      rw [z2_n _ _ (Or.inr e), z2_n _ _ (Or.inl (by decide))]
      exact h.2.1 k (by omega)
  · rw [List.length_append] at hk
    have hk2 : L.length + 1 ≤ k := hk
    show z2 (z2 v.1 1223 0 (nI (L.length + 1))) 1222 L.length x 1222 k = T k
    rw [z2_n _ _ (Or.inr (by omega)), z2_n _ _ (Or.inl (by decide))]
    exact h.2.2 k (by omega)
/-- a number of varied length -/
def unsF : Nat → Nat → List Int32
  | 0, n => [bv (nI n)]
  | k + 1, n => if n ≤ 127 then [bv (nI n)] else bv (nI (n % 128 + 128)) :: unsF k (n / 128)
def uns (n : Nat) : List Int32 := unsF 4 n
theorem unsF_b : ∀ k n, (unsF k n).length ≤ k + 1
  | 0, n => Nat.le_refl _
  | k + 1, n => by
    unfold unsF
    split
    · exact Nat.succ_le_succ (Nat.zero_le _)
    · exact Nat.succ_le_succ (unsF_b k (n / 128))
theorem uns_b (n : Nat) : (uns n).length ≤ 5 := unsF_b 4 n
theorem unsF_e {k n : Nat} (h : n ≤ 127) : unsF k n = [bv (nI n)] := by
  cases k with
  | zero => rfl
  | succ k => exact if_pos h
/-- a number of five bytes -/
def wid (n : Nat) : List Int32 := [bv (nI (n % 128 + 128)), bv (nI (n / 128 % 128 + 128)), bv (nI (n / 16384 % 128 + 128)), bv (nI (n / 2097152 % 128 + 128)), bv (nI (n / 268435456))]
theorem nI_shr {n k : Nat} (hn : n < 2 ^ 31) (hk : k < 32) : nI n >>> (nI k &&& 31) = nI (n / 2 ^ k) := by
  apply Int32.toBitVec_inj.mp
  rw [Int32.toBitVec_shiftRight]
  have e1 : ∀ k, k < 32 → ((nI k &&& 31).toBitVec.smod 32) = BitVec.ofNat 32 k := by decide
  rw [e1 k hk]
  apply BitVec.eq_of_toNat_eq
  show ((nI n).toBitVec.sshiftRight' (BitVec.ofNat 32 k)).toNat = (nI (n / 2 ^ k)).toBitVec.toNat
  have h2 : (nI n).toBitVec = BitVec.ofNat 32 n := Int32.toBitVec_ofNat'
  have h3 : (nI (n / 2 ^ k)).toBitVec = BitVec.ofNat 32 (n / 2 ^ k) := Int32.toBitVec_ofNat'
  have h4 : n / 2 ^ k ≤ n := Nat.div_le_self _ _
  rw [h2, h3]
  show ((BitVec.ofNat 32 n).sshiftRight (BitVec.ofNat 32 k).toNat).toNat = _
  rw [BitVec.sshiftRight_eq_of_msb_false (by rw [BitVec.msb_eq_decide, BitVec.toNat_ofNat, Nat.mod_eq_of_lt (by omega)]; exact decide_eq_false (by omega)), BitVec.toNat_ushiftRight, BitVec.toNat_ofNat, BitVec.toNat_ofNat, BitVec.toNat_ofNat, Nat.mod_eq_of_lt (show n < 2 ^ 32 by omega), Nat.mod_eq_of_lt (show k < 2 ^ 32 by omega), Nat.mod_eq_of_lt (show n / 2 ^ k < 2 ^ 32 by omega), Nat.shiftRight_eq_div_pow]
theorem wid_i {n : Nat} (hn : n < 2 ^ 31) (i : Nat) (hi : i < 4) : ∃ x, (nI n >>> (7 * nI i &&& 31) - nI n >>> (7 * nI i &&& 31) / 128 * 128) + 128 = x ∧ (wid n).take (i + 1) = (wid n).take i ++ [bv x] := by
  refine ⟨nI (n / 2 ^ (7 * i) % 128 + 128), ?_, ?_⟩
  · rw [show (7 : Int32) * nI i = nI (7 * i) from nI_mul 7 i, nI_shr hn (by omega), show (128 : Int32) = nI 128 from rfl, nI_mod (Nat.lt_of_le_of_lt (Nat.div_le_self _ _) hn) (by decide)]
    exact nI_add _ 128
  · rcases (show i = 0 ∨ i = 1 ∨ i = 2 ∨ i = 3 by omega) with e | e | e | e <;> subst e
    · show [bv (nI (n % 128 + 128))] = [] ++ [bv (nI (n / 1 % 128 + 128))]
      rw [Nat.div_one]
      rfl
    · rfl
    · rfl
    · rfl
set_option maxRecDepth 100000 in
set_option maxHeartbeats 4000000 in
theorem mm_put {l : Launch} {N0 t0 : Nat} {D : va_G} {cy : Nat → ClassId} {S : zS} {S0 : zS} {g : Nat} {qa : Nat → Nat} {v : zV} {T : Nat → Int32} {L : List Int32} (hm : mT S0 g qa v T L S) {x : Int32} (hb : L.length < 40000) : zMv l yX12_put (zws yX12_put cX12_put 2 none) { frames := 0, cells := 0, slots := 0, locals := 0 } N0 t0 D cy S [.ref g, .int x] (fun S' => mT S0 g qa v T (L ++ [bv x]) S') 0 0 := by
  refine zMv.of (cc := cX12_put) (maxL := 2) (ret := none) (by decide) rfl (Nat.le_of_ble_eq_true rfl) ?_
  intro p e s m args below meth c F G hr hlk hnm
  obtain ⟨v1, hS, hX, hB⟩ := hm
  refine r_aload_n F dX12_put_0 rfl ?_
  refine gq_module F G hS dX12_put_1 ?_
  refine r_aload_n F dX12_put_4 rfl ?_
  refine r_dup F dX12_put_5 rfl ?_
  refine gi_moduleSize F G hS dX12_put_6 ?_
  refine r_dup_x1 F dX12_put_9 rfl rfl ?_
  rw [hB.1]
  refine r_iconst (v := 1) F dX12_put_10 (by decide) ?_
  refine r_iadd F dX12_put_11 ?_
  rw [show nI L.length + 1 = nI (L.length + 1) from nI_add _ 1]
  refine pi_moduleSize F G hS dX12_put_12 (fun S hS => ?_)
  refine r_iload_n F dX12_put_15 rfl ?_
  refine r_i2b F dX12_put_16 ?_
  refine as_module F G hS (L.length) rfl hb dX12_put_17 (fun S hS => ?_)
  exact e_vret F hr hlk ⟨_, hS, (hX.u (Or.inr rfl)).u (Or.inl rfl), hB.put⟩ (by decide) (by decide) dX12_put_18
set_option maxRecDepth 100000 in
set_option maxHeartbeats 4000000 in
theorem mm_begin {l : Launch} {N0 t0 : Nat} {D : va_G} {cy : Nat → ClassId} {S : zS} {S0 : zS} {g : Nat} {qa : Nat → Nat} {v : zV} {T : Nat → Int32} {L : List Int32} (hm : mT S0 g qa v T L S) {x : Int32} (hb : L.length < 40000) : zMi l yX12_begin (zws yX12_begin cX12_begin 2 (some .int)) { frames := 1, cells := 0, slots := 0, locals := 21 } N0 t0 D cy S [.ref g, .int x] (fun r S' => r = nI (L.length + 1) ∧ mT S0 g qa v T (L ++ [bv x]) S') 0 0 := by
  refine zMi.of (cc := cX12_begin) (maxL := 2) (ret := (some .int)) (by decide) rfl (Nat.le_of_ble_eq_true rfl) ?_
  intro p e s m args below meth c F G hr hlk hnm
  have hm0 := hm
  obtain ⟨v1, hS, hX, hB⟩ := hm
  refine r_aload_n F dX12_begin_0 rfl ?_
  refine r_iload_n F dX12_begin_1 rfl ?_
  refine c_Vv (ci := 12) F G (mm_put hm0 (x := x) hb) (cwV 1 F.2.2.2.2 (zgV km_X12_235 ki_X12_put ke_X12_X12_put kn_X12 ko_X12_put) rfl rfl rfl ⟨rfl, hd_yX12_put⟩ ⟨Nat.le_of_ble_eq_true rfl, Nat.le_of_ble_eq_true rfl⟩) rfl (by decide) hS.al rfl rfl (Nat.le_of_ble_eq_true rfl) dX12_begin_2 ⟨Nat.le_of_ble_eq_true rfl, Nat.le_of_ble_eq_true rfl⟩ (fun S2 hm2 => ?_)
  obtain ⟨v2, hS, hX2, hB2⟩ := hm2
  refine r_aload_n F dX12_begin_5 rfl ?_
  refine gi_moduleSize F G hS dX12_begin_6 ?_
  exact e_iret F hr hlk ⟨by rw [hB2.1, List.length_append]; rfl, v2, hS, hX2, hB2⟩ (by decide) (by decide) dX12_begin_9
set_option maxRecDepth 100000 in
set_option maxHeartbeats 4000000 in
theorem mm_unsigned {l : Launch} {N0 t0 : Nat} {D : va_G} {cy : Nat → ClassId} {S : zS} {S0 : zS} {g : Nat} {qa : Nat → Nat} {v : zV} {T : Nat → Int32} {L : List Int32} (hm : mT S0 g qa v T L S) {n : Nat} (hn : n < 2 ^ 31) (hb : L.length + 5 ≤ 40000) : zMv l yX12_unsigned (zws yX12_unsigned cX12_unsigned 3 none) { frames := 1, cells := 0, slots := 0, locals := 21 } N0 t0 D cy S [.ref g, .int (nI n)] (fun S' => mT S0 g qa v T (L ++ uns n) S') 0 0 := by
  refine zMv.of (cc := cX12_unsigned) (maxL := 3) (ret := none) (by decide) rfl (Nat.le_of_ble_eq_true rfl) ?_
  intro p e s m args below meth c F G hr hlk hnm
  refine r_iload_n F dX12_unsigned_0 rfl ?_
  refine r_istore_n F dX12_unsigned_1 (by decide) ?_
  refine z_loop (fun k S9 lv => ∃ (L1 : List Int32) (r : Nat), mT S0 g qa v T L1 S9 ∧ L1 ++ unsF k r = L ++ uns n ∧ k ≤ 4 ∧ r < 8 * 128 ^ k ∧ L1.length + k + 1 ≤ 40000 ∧ lv = [(2, .int (nI r)), (0, .ref g), (1, .int (nI n))]) 4 ?_ ⟨L, n, hm, rfl, Nat.le_refl _, by omega, by omega, rfl⟩
  clear hm
  rintro k S lv ⟨L1, r, hm, he, hk4, hr8, hb1, rfl⟩ ih
  have hm0 := hm
  obtain ⟨v1, hS, hX, hB⟩ := hm
  have hr31 : r < 2 ^ 31 := Nat.lt_of_lt_of_le hr8 (by have := Nat.pow_le_pow_right (show 0 < 128 by decide) hk4; omega)
  refine r_iload_n F dX12_unsigned_2 rfl ?_
  refine r_bipush (v := 127) F dX12_unsigned_3 (by decide) ?_
  refine r_icmp_le (tgt := 30) F dX12_unsigned_5 (by decide) (fun c5 => ?_) (fun c5 => ?_)
  · have c9 := c5
    rw [show (127 : Int32) = nI 127 from rfl, nI_leI (by omega) (by omega)] at c9
    rw [unsF_e c9] at he
    refine r_aload_n F dX12_unsigned_30 rfl ?_
    refine r_iload_n F dX12_unsigned_31 rfl ?_
    refine c_Vv (ci := 12) F G (mm_put hm0 (x := nI r) (by omega)) (cwV 1 F.2.2.2.2 (zgV km_X12_235 ki_X12_put ke_X12_X12_put kn_X12 ko_X12_put) rfl rfl rfl ⟨rfl, hd_yX12_put⟩ ⟨Nat.le_of_ble_eq_true rfl, Nat.le_of_ble_eq_true rfl⟩) rfl (by decide) hS.al rfl rfl (Nat.le_of_ble_eq_true rfl) dX12_unsigned_32 ⟨Nat.le_of_ble_eq_true rfl, Nat.le_of_ble_eq_true rfl⟩ (fun S32 hm32 => ?_)
    exact e_vret F hr hlk (by rw [← he]; exact hm32) (by decide) (by decide) dX12_unsigned_35
  · have c9 := c5
    rw [show (127 : Int32) = nI 127 from rfl, nI_leI (by omega) (by omega)] at c9
    obtain ⟨k2, ek⟩ : ∃ k2, k = k2 + 1 := by
      cases k with
      | zero => exact absurd hr8 (by omega)
      | succ k2 => exact ⟨k2, rfl⟩
    subst ek
    refine r_aload_n F dX12_unsigned_8 rfl ?_
    refine r_iload_n F dX12_unsigned_9 rfl ?_
    refine r_sipush (v := 128) F dX12_unsigned_10 (by decide) ?_
    refine r_irem F dX12_unsigned_13 (by decide) ?_
    rw [show (128 : Int32) = nI 128 from rfl, nI_mod (by omega) (by omega)]
    refine r_sipush (v := 128) F dX12_unsigned_14 (by decide) ?_
    refine r_iadd F dX12_unsigned_17 ?_
    rw [show nI (r % 128) + 128 = nI (r % 128 + 128) from nI_add _ 128]
    refine c_Vv (ci := 12) F G (mm_put hm0 (x := nI (r % 128 + 128)) (by omega)) (cwV 1 F.2.2.2.2 (zgV km_X12_235 ki_X12_put ke_X12_X12_put kn_X12 ko_X12_put) rfl rfl rfl ⟨rfl, hd_yX12_put⟩ ⟨Nat.le_of_ble_eq_true rfl, Nat.le_of_ble_eq_true rfl⟩) rfl (by decide) hS.al rfl rfl (Nat.le_of_ble_eq_true rfl) dX12_unsigned_18 ⟨Nat.le_of_ble_eq_true rfl, Nat.le_of_ble_eq_true rfl⟩ (fun S18 hm18 => ?_)
    refine r_iload_n F dX12_unsigned_21 rfl ?_
    refine r_sipush (v := 128) F dX12_unsigned_22 (by decide) ?_
    refine r_idiv F dX12_unsigned_25 (by decide) ?_
    rw [show nI r / 128 = nI (r / 128) from nI_div (b := 128) (by omega) (by decide)]
    refine r_istore_n F dX12_unsigned_26 (by decide) ?_
    refine r_goto (tgt := 2) F dX12_unsigned_27 (by decide) ?_
    exact ih k2 _ _ (by omega) ⟨L1 ++ [bv (nI (r % 128 + 128))], r / 128, hm18, by rw [List.append_assoc, ← he]; exact congrArg (fun z => L1 ++ z) (if_neg c9).symm, by omega, by rw [Nat.div_lt_iff_lt_mul (by decide), Nat.mul_assoc, ← Nat.pow_succ]; exact hr8, by rw [List.length_append]; show L1.length + 1 + k2 + 1 ≤ 40000; omega, rfl⟩
set_option maxRecDepth 100000 in
set_option maxHeartbeats 4000000 in
theorem mm_wide {l : Launch} {N0 t0 : Nat} {D : va_G} {cy : Nat → ClassId} {S : zS} {S0 : zS} {g : Nat} {qa : Nat → Nat} {v : zV} {T : Nat → Int32} {L : List Int32} (hm : mT S0 g qa v T L S) {n : Nat} (hn : n < 2 ^ 31) (hb : L.length + 5 ≤ 40000) : zMv l yX12_wide (zws yX12_wide cX12_wide 3 none) { frames := 1, cells := 0, slots := 0, locals := 21 } N0 t0 D cy S [.ref g, .int (nI n)] (fun S' => mT S0 g qa v T (L ++ wid n) S') 0 0 := by
  refine zMv.of (cc := cX12_wide) (maxL := 3) (ret := none) (by decide) rfl (Nat.le_of_ble_eq_true rfl) ?_
  intro p e s m args below meth c F G hr hlk hnm
  refine r_iconst (v := 0) F dX12_wide_0 (by decide) ?_
  refine r_istore_n F dX12_wide_1 (by decide) ?_
  refine z_loop (fun k S9 lv => ∃ i, i + k = 4 ∧ mT S0 g qa v T (L ++ (wid n).take i) S9 ∧ lv = [(2, .int (nI i)), (0, .ref g), (1, .int (nI n))]) 4 ?_ ⟨0, rfl, by rw [List.take_zero, List.append_nil]; exact hm, rfl⟩
  clear hm
  rintro k S lv ⟨i, hik, hm, rfl⟩ ih
  have hm0 := hm
  obtain ⟨v1, hS, hX, hB⟩ := hm
  have hlt : (L ++ (wid n).take i).length ≤ L.length + 4 := by rw [List.length_append, List.length_take]; omega
  refine r_iload_n F dX12_wide_2 rfl ?_
  refine r_iconst (v := 4) F dX12_wide_3 (by decide) ?_
  refine r_icmp_ge (tgt := 31) F dX12_wide_4 (by decide) (fun c4 => ?_) (fun c4 => ?_)
  · have hi4 : i = 4 := by
      have c9 := c4
      rw [show (4 : Int32) = nI 4 from rfl, nI_leI (by omega) (by omega)] at c9
      omega
    subst hi4
    refine r_aload_n F dX12_wide_31 rfl ?_
    refine r_iload_n F dX12_wide_32 rfl ?_
    refine r_bipush (v := 28) F dX12_wide_33 (by decide) ?_
    refine r_ishr F dX12_wide_35 ?_
    rw [show nI n >>> ((28 : Int32) &&& 31) = nI (n / 268435456) from nI_shr hn (k := 28) (by decide)]
    refine c_Vv (ci := 12) F G (mm_put hm0 (x := nI (n / 268435456)) (by omega)) (cwV 1 F.2.2.2.2 (zgV km_X12_235 ki_X12_put ke_X12_X12_put kn_X12 ko_X12_put) rfl rfl rfl ⟨rfl, hd_yX12_put⟩ ⟨Nat.le_of_ble_eq_true rfl, Nat.le_of_ble_eq_true rfl⟩) rfl (by decide) hS.al rfl rfl (Nat.le_of_ble_eq_true rfl) dX12_wide_36 ⟨Nat.le_of_ble_eq_true rfl, Nat.le_of_ble_eq_true rfl⟩ (fun S36 hm36 => ?_)
    exact e_vret F hr hlk (by rw [List.append_assoc] at hm36; exact hm36) (by decide) (by decide) dX12_wide_39
  · have hi4 : i < 4 := by
      have c9 := c4
      rw [show (4 : Int32) = nI 4 from rfl, nI_leI (by omega) (by omega)] at c9
      omega
    obtain ⟨x, hx, ht⟩ := wid_i hn i hi4
    refine r_aload_n F dX12_wide_7 rfl ?_
    refine r_iload_n F dX12_wide_8 rfl ?_
    refine r_bipush (v := 7) F dX12_wide_9 (by decide) ?_
    refine r_iload_n F dX12_wide_11 rfl ?_
    refine r_imul F dX12_wide_12 ?_
    refine r_ishr F dX12_wide_13 ?_
    refine r_sipush (v := 128) F dX12_wide_14 (by decide) ?_
    refine r_irem F dX12_wide_17 (by decide) ?_
    refine r_sipush (v := 128) F dX12_wide_18 (by decide) ?_
    refine r_iadd F dX12_wide_21 ?_
    rw [hx]
    refine c_Vv (ci := 12) F G (mm_put hm0 (x := x) (by omega)) (cwV 1 F.2.2.2.2 (zgV km_X12_235 ki_X12_put ke_X12_X12_put kn_X12 ko_X12_put) rfl rfl rfl ⟨rfl, hd_yX12_put⟩ ⟨Nat.le_of_ble_eq_true rfl, Nat.le_of_ble_eq_true rfl⟩) rfl (by decide) hS.al rfl rfl (Nat.le_of_ble_eq_true rfl) dX12_wide_22 ⟨Nat.le_of_ble_eq_true rfl, Nat.le_of_ble_eq_true rfl⟩ (fun S22 hm22 => ?_)
    refine r_iinc F dX12_wide_25 rfl (by decide) ?_
    refine r_goto (tgt := 2) F dX12_wide_28 (by decide) ?_
    exact ih (k - 1) _ _ (by omega) ⟨i + 1, by omega, by rw [ht, ← List.append_assoc]; exact hm22, by rw [show nI i + Int32.ofInt 1 = nI (i + 1) from nI_add i 1]; rfl⟩
