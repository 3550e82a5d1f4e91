theorem bv_bv (x : Int32) : vp_nar .byte (bv x) = bv x := by
  unfold bv
  simp [vp_nar_byte]
theorem nar_L {L : List Int32} (h : ∀ k, k < L.length → ∃ x, L.getD k 0 = bv x) {k : Nat} (hk : k < L.length) : vp_nar .byte (L.getD k 0) = L.getD k 0 := by
  obtain ⟨x, hx⟩ := h k hk
  rw [hx]
  exact bv_bv x
theorem unsF_1 (k n : Nat) : 1 ≤ (unsF k n).length := by
  cases k with
  | zero => exact Nat.le_refl _
  | succ k =>
    unfold unsF
    split
    · exact Nat.le_refl _
    · exact Nat.succ_le_succ (Nat.zero_le _)
/-- a part with its length before it -/
def szd (L : List Int32) (t : Nat) : List Int32 := L.take t ++ (uns (L.length - t) ++ L.drop t)
set_option maxRecDepth 100000 in
set_option maxHeartbeats 4000000 in
theorem mm_sized {l : Launch} {N0 t0 : Nat} {D : va_G} {cy : Nat → ClassId} {S : zS} {S0 : zS} {g : Nat} {qa : Nat → Nat} {v : zV} {T : Nat → Int32} {L : List Int32} (hm : mT S0 g qa v T L S) {t : Nat} (hbv : ∀ k, k < L.length → ∃ x, L.getD k 0 = bv x) (ht : t ≤ L.length) (hb : L.length + 5 ≤ 40000) : zMv l yX12_sized (zws yX12_sized cX12_sized 5 none) { frames := 2, cells := 0, slots := 0, locals := 43 } N0 t0 D cy S [.ref g, .int (nI t)] (fun S' => mZ S0 g qa v (szd L t) S') 0 0 := by
  refine zMv.of (cc := cX12_sized) (maxL := 5) (ret := none) (by decide) rfl (Nat.le_of_ble_eq_true rfl) ?_
  intro p e s m args below meth c F G hr hlk hnm
  have hm0 := hm
  obtain ⟨v1, hS, hX, hB⟩ := hm
  refine r_aload_n F dX12_sized_0 rfl ?_
  refine gi_moduleSize F G hS dX12_sized_1 ?_
  refine r_iload_n F dX12_sized_4 rfl ?_
  rw [hB.1]
  refine r_isub F dX12_sized_5 ?_
  rw [show nI L.length - nI t = nI (L.length - t) from nI_sub ht]
  refine r_istore_n F dX12_sized_6 (by decide) ?_
  refine r_iconst (v := 1) F dX12_sized_7 (by decide) ?_
  refine r_istore_n F dX12_sized_8 (by decide) ?_
  refine r_iload_n F dX12_sized_9 rfl ?_
  refine r_istore F dX12_sized_10 (by decide) ?_
  refine z_loop (fun k S9 lv => ∃ w r, S = S9 ∧ w + (unsF k r).length = 1 + (uns (L.length - t)).length ∧ k ≤ 4 ∧ r < 8 * 128 ^ k ∧ lv = [(4, .int (nI r)), (3, .int (nI w)), (2, .int (nI (L.length - t))), (0, .ref g), (1, .int (nI t))]) 4 ?_ ⟨1, (L.length - t), rfl, rfl, Nat.le_refl _, by omega, rfl⟩
  rintro k S9 lv ⟨w, r, rfl, hw, hk4, hr8, rfl⟩ ih
  have hr31 : r < 2 ^ 31 := Nat.lt_of_lt_of_le hr8 (by have := Nat.pow_le_pow_right (show 0 < 128 by decide) hk4; omega)
  have hu5 := uns_b (L.length - t)
  refine r_iload F dX12_sized_12 rfl ?_
  refine r_bipush (v := 127) F dX12_sized_14 (by decide) ?_
  refine r_icmp_le (tgt := 33) F dX12_sized_16 (by decide) (fun c16 => ?_) (fun c16 => ?_)
  · have hwn : w = (uns (L.length - t)).length := by
      have c9 := c16
      rw [show (127 : Int32) = nI 127 from rfl, nI_leI (by omega) (by omega)] at c9
      rw [unsF_e c9] at hw
      have hw2 : w + 1 = 1 + (uns (L.length - t)).length := hw
      omega
    subst hwn
    refine r_aload_n F dX12_sized_33 rfl ?_
    refine gi_moduleSize F G hS dX12_sized_34 ?_
    refine r_iconst (v := 1) F dX12_sized_37 (by decide) ?_
    refine r_isub F dX12_sized_38 ?_
    rw [hB.1, show nI L.length - 1 = nI (t + (L.length - t)) - 1 by rw [show t + (L.length - t) = L.length by omega]]
    refine r_istore F dX12_sized_39 (by decide) ?_
    refine z_loop (fun c S9 lv => ∃ v2, c ≤ (L.length - t) ∧ zmR S0 g qa v2 S9 ∧ vM v v2 ∧ v2.1 1223 0 = nI L.length ∧ (∀ k, k < t + c → v2.1 1222 k = L.getD k 0) ∧ (∀ k, t + c ≤ k → k < L.length → v2.1 1222 (k + (uns (L.length - t)).length) = L.getD k 0) ∧ lv = [(4, .int (nI (t + c) - 1)), (3, .int (nI (uns (L.length - t)).length)), (2, .int (nI (L.length - t))), (0, .ref g), (1, .int (nI t))]) (L.length - t) ?_ ⟨v1, Nat.le_refl _, hS, hX, hB.1, fun k hk => hB.2.1 k (by omega), fun k h1 h2 => absurd h2 (by omega), rfl⟩
    clear hm0 hS
    rintro c S lv ⟨v2, hcn, hS, hX2, hsz, h1, h2, rfl⟩ ih2
    refine r_iload F dX12_sized_41 rfl ?_
    refine r_iload_n F dX12_sized_43 rfl ?_
    refine r_icmp_lt (tgt := 69) F dX12_sized_44 (by decide) (fun c44 => ?_) (fun c44 => ?_)
    · have hc0 : c = 0 := by
        cases c with
        | zero => rfl
        | succ c2 => exact absurd c44 (Int32.not_lt.mpr (by rw [show t + (c2 + 1) = t + c2 + 1 by omega, nl1, nI_sub (by omega), Nat.add_sub_cancel, nI_leI (by omega) (by omega)]; omega))
      subst hc0
      refine r_aload_n F dX12_sized_69 rfl ?_
      refine r_iload_n F dX12_sized_70 rfl ?_
      refine pi_moduleSize F G hS dX12_sized_71 (fun S hS => ?_)
      have hm1 : mT S0 g qa v (fun k => v2.1 1222 k) (L.take t) S := ⟨_, hS, hX2.u (Or.inr rfl), by
        rw [List.length_take, Nat.min_eq_left ht]
        show z2 v2.1 1223 0 (nI t) 1223 0 = nI t
        rw [z2_s], fun k hk => by
        rw [List.length_take, Nat.min_eq_left ht] at hk
        rw [List.getD_eq_getElem?_getD, List.getElem?_take_of_lt hk, ← List.getD_eq_getElem?_getD]
        show z2 v2.1 1223 0 (nI t) 1222 k = _
        rw [z2_n _ _ (Or.inl (by decide))]
        exact h1 k (by omega), fun k hk => by
        show z2 v2.1 1223 0 (nI t) 1222 k = _
        rw [z2_n _ _ (Or.inl (by decide))]⟩
      have hl1 : (L.take t).length = t := by rw [List.length_take, Nat.min_eq_left ht]
      refine r_aload_n F dX12_sized_74 rfl ?_
      refine r_iload_n F dX12_sized_75 rfl ?_
      refine c_Vv (ci := 12) F G (mm_unsigned hm1 (n := (L.length - t)) (by omega) (by omega)) (cwV 1 F.2.2.2.2 (zgV km_X12_245 ki_X12_unsigned ke_X12_X12_unsigned kn_X12 ko_X12_unsigned) rfl rfl rfl ⟨rfl, hd_yX12_unsigned⟩ ⟨Nat.le_of_ble_eq_true rfl, Nat.le_of_ble_eq_true rfl⟩) rfl (by decide) hS.al rfl rfl (Nat.le_of_ble_eq_true rfl) dX12_sized_76 ⟨Nat.le_of_ble_eq_true rfl, Nat.le_of_ble_eq_true rfl⟩ (fun S76 hm76 => ?_)
      obtain ⟨v3, hS, hX3, hB3⟩ := hm76
      refine r_aload_n F dX12_sized_79 rfl ?_
      refine r_iload_n F dX12_sized_80 rfl ?_
      refine r_iload_n F dX12_sized_81 rfl ?_
      refine r_iadd F dX12_sized_82 ?_
      refine r_iload_n F dX12_sized_83 rfl ?_
      refine r_iadd F dX12_sized_84 ?_
      rw [show nI t + nI ((uns (L.length - t)).length) + nI (L.length - t) = nI (t + (uns (L.length - t)).length + (L.length - t)) by rw [nI_add, nI_add]]
      refine pi_moduleSize F G hS dX12_sized_85 (fun S hS => ?_)
      have hl3 : (L.take t ++ uns (L.length - t)).length = t + (uns (L.length - t)).length := by rw [List.length_append, hl1]
      have hl4 : (szd L t).length = t + (uns (L.length - t)).length + (L.length - t) := by
        unfold szd
        rw [List.length_append, List.length_append, List.length_drop, hl1]
        omega
      refine e_vret F hr hlk ⟨fun k => v3.1 1222 k, _, hS, hX3.u (Or.inr rfl), ?_, fun k hk => ?_, fun k hk => (by show z2 v3.1 1223 0 (nI (t + (uns (L.length - t)).length + (L.length - t))) 1222 k = _; rw [z2_n _ _ (Or.inl (by decide))])⟩ (by decide) (by decide) dX12_sized_88
      · rw [hl4]
        show z2 v3.1 1223 0 (nI (t + (uns (L.length - t)).length + (L.length - t))) 1223 0 = _
        rw [z2_s]
      · rw [hl4] at hk
        show z2 v3.1 1223 0 (nI (t + (uns (L.length - t)).length + (L.length - t))) 1222 k = _
        rw [z2_n _ _ (Or.inl (by decide))]
        unfold szd
        rw [← List.append_assoc]
        by_cases hk3 : k < t + (uns (L.length - t)).length
        · rw [hB3.2.1 k (by omega), List.getD_eq_getElem?_getD, List.getD_eq_getElem?_getD, List.getElem?_append_left (l₁ := L.take t ++ uns (L.length - t)) (l₂ := L.drop t) (by omega)]
        · rw [hB3.2.2 k (by omega), List.getD_eq_getElem?_getD, List.getElem?_append_right (by omega), List.getElem?_drop, hl3, ← List.getD_eq_getElem?_getD]
          have e := h2 (t + (k - (t + (uns (L.length - t)).length))) (by omega) (by omega)
          rw [show t + (k - (t + (uns (L.length - t)).length)) + (uns (L.length - t)).length = k by omega] at e
          exact e
    · obtain ⟨c2, ec⟩ : ∃ c2, c = c2 + 1 := by
        cases c with
        | zero => exact absurd (show nI (t + 0) - 1 < nI t by rw [Int32.lt_iff_toInt_lt, nI_dec (by omega), nI_toInt (by omega)]; omega) c44
        | succ c2 => exact ⟨c2, rfl⟩
      subst ec
      have ei : nI (t + (c2 + 1)) - 1 = nI (t + c2) := by rw [show t + (c2 + 1) = t + c2 + 1 by omega, nl1, nI_sub (by omega), Nat.add_sub_cancel]
      rw [ei]
      refine r_aload_n F dX12_sized_47 rfl ?_
      refine gq_module F G hS dX12_sized_48 ?_
      refine r_iload F dX12_sized_51 rfl ?_
      refine r_iload_n F dX12_sized_53 rfl ?_
      refine r_iadd F dX12_sized_54 ?_
      refine r_aload_n F dX12_sized_55 rfl ?_
      refine gq_module F G hS dX12_sized_56 ?_
      refine r_iload F dX12_sized_59 rfl ?_
      refine al_module F G hS (t + c2) rfl (by omega) dX12_sized_61 ?_
      refine as_module F G hS (t + c2 + (uns (L.length - t)).length) (nI_add _ _) (by omega) dX12_sized_62 (fun S hS => ?_)
      rw [h1 (t + c2) (by omega), nar_L hbv (by omega)] at hS
      refine r_iinc F dX12_sized_63 rfl (by decide) ?_
      refine r_goto (tgt := 41) F dX12_sized_66 (by decide) ?_
      exact ih2 c2 _ _ (by omega) ⟨_, by omega, hS, hX2.u (Or.inl rfl), hsz, fun k hk => (by show z2 v2.1 1222 _ _ 1222 k = _; rw [z2_n _ _ (Or.inr (by omega))]; exact h1 k (by omega)), fun k hk1 hk2 => by
        show z2 v2.1 1222 (t + c2 + (uns (L.length - t)).length) (L.getD (t + c2) 0) 1222 (k + (uns (L.length - t)).length) = _
        by_cases e : k = t + c2
        · rw [e, z2_s]
        · rw [z2_n _ _ (Or.inr (by omega))]
          exact h2 k (by omega) hk2, by rw [show nI (t + c2) + Int32.ofInt (-1) = nI (t + c2) - 1 from (Int32.sub_eq_add_neg _ 1).symm]; rfl⟩
  · have c9 := c16
    rw [show (127 : Int32) = nI 127 from rfl, nI_leI (by omega) (by omega)] at c9
    obtain ⟨k2, ek⟩ : ∃ k2, k = k2 + 1 := by
      cases k with
      | zero => exact absurd hr8 (by omega)
      | succ k2 => exact ⟨k2, rfl⟩
    subst ek
    have hw3 : w + ((unsF k2 (r / 128)).length + 1) = 1 + (uns (L.length - t)).length := by
      rw [show unsF (k2 + 1) r = bv (nI (r % 128 + 128)) :: unsF k2 (r / 128) from if_neg c9] at hw
      exact hw
    refine r_iinc F dX12_sized_19 rfl (by decide) ?_
    refine r_iload F dX12_sized_22 rfl ?_
    refine r_sipush (v := 128) F dX12_sized_24 (by decide) ?_
    refine r_idiv F dX12_sized_27 (by decide) ?_
    rw [show nI r / 128 = nI (r / 128) from nI_div (b := 128) (by omega) (by decide)]
    refine r_istore F dX12_sized_28 (by decide) ?_
    refine r_goto (tgt := 12) F dX12_sized_30 (by decide) ?_
    exact ih k2 _ _ (by omega) ⟨w + 1, r / 128, rfl, by omega, by omega, by rw [Nat.div_lt_iff_lt_mul (by decide), Nat.mul_assoc, ← Nat.pow_succ]; exact hr8, by rw [show nI w + Int32.ofInt 1 = nI (w + 1) from nI_add w 1]; rfl⟩
