def zcap : List Nat := [10, 15, 22, 33, 49, 73, 109]
def chC (k : Nat) : Nat := if k = 0 ∨ k ∈ zcap then 1 else 0
def chS (k : Nat) : Nat := if k = 0 then 10 else if k ∈ zcap then k + k / 2 else 0
theorem zcap_up : ∀ k ∈ zcap, k ≠ 109 → k + k / 2 ∈ zcap := by decide
theorem zcap_b : ∀ k ∈ zcap, 10 ≤ k ∧ k ≤ 109 := by decide
theorem zcap_nl : ∀ k ∈ zcap, nI k + (if nI (k + 1) - nI k < nI k >>> (1 &&& 31) then nI k >>> (1 &&& 31) else nI (k + 1) - nI k) = nI (k + k / 2) := by decide +kernel
theorem chC_c {k : Nat} (h : k ∈ zcap) : chC k = 1 := if_pos (Or.inr h)
theorem chS_c {k : Nat} (h : k ∈ zcap) : chS k = k + k / 2 := by
  have := (zcap_b k h).1
  unfold chS
  rw [if_neg (by omega), if_pos h]
set_option maxRecDepth 100000 in
set_option maxHeartbeats 4000000 in
theorem k_PCheck {l : Launch} {N0 t0 : Nat} {D : va_G} {cy : Nat → ClassId} {S : zS} {x y : Int32} (h0 : ¬ x < 0) (h1 : x < y) : zMi l yJ3_checkIndex_8e157 (zws yJ3_checkIndex_8e157 cJ3_checkIndex_8e157 3 (some .int)) { frames := 0, cells := 0, slots := 0, locals := 0 } N0 t0 D cy S [.int x, .int y, .null] (fun r S' => r = x ∧ S' = S) 0 0 := by
  refine zMi.of (cc := cJ3_checkIndex_8e157) (maxL := 3) (ret := (some .int)) (by decide) rfl (Nat.le_of_ble_eq_true rfl) ?_
  intro p e s m args below meth c F G hr hlk hnm
  refine r_iload_n F dJ3_checkIndex_8e157_0 rfl ?_
  refine r_if_lt (tgt := 9) F dJ3_checkIndex_8e157_1 (by decide) (fun h9 => absurd h9 h0) (fun _ => ?_)
  refine r_iload_n F dJ3_checkIndex_8e157_4 rfl ?_
  refine r_iload_n F dJ3_checkIndex_8e157_5 rfl ?_
  refine r_icmp_lt (tgt := 16) F dJ3_checkIndex_8e157_6 (by decide) (fun _ => ?_) (fun h9 => absurd h1 h9)
  refine r_iload_n F dJ3_checkIndex_8e157_16 rfl ?_
  exact e_iret F hr hlk ⟨rfl, rfl⟩ (by decide) (by decide) dJ3_checkIndex_8e157_17
set_option maxRecDepth 100000 in
set_option maxHeartbeats 4000000 in
theorem k_OCheck {l : Launch} {N0 t0 : Nat} {D : va_G} {cy : Nat → ClassId} {S : zS} {x y : Int32} (h0 : ¬ x < 0) (h1 : x < y) : zMi l yJ15_checkIndex_7cf53 (zws yJ15_checkIndex_7cf53 cJ15_checkIndex_7cf53 2 (some .int)) { frames := 1, cells := 0, slots := 0, locals := 22 } N0 t0 D cy S [.int x, .int y] (fun r S' => r = x ∧ S' = S) 0 0 := by
  refine zMi.of (cc := cJ15_checkIndex_7cf53) (maxL := 2) (ret := (some .int)) (by decide) rfl (Nat.le_of_ble_eq_true rfl) ?_
  intro p e s m args below meth c F G hr hlk hnm
  refine r_iload_n F dJ15_checkIndex_7cf53_0 rfl ?_
  refine r_iload_n F dJ15_checkIndex_7cf53_1 rfl ?_
  refine r_null F dJ15_checkIndex_7cf53_2 ?_
  refine c_Si F G (k_PCheck h0 h1) (va_cwS 3 F.2.2.2.2 (zgS km_J15_105 ks_J3_checkIndex_8e157 kn_J3 ko_J3_checkIndex_8e157) rfl rfl rfl hd_yJ3_checkIndex_8e157 ⟨Nat.le_of_ble_eq_true rfl, Nat.le_of_ble_eq_true rfl⟩) rfl rfl (Nat.le_of_ble_eq_true rfl) dJ15_checkIndex_7cf53_3 ⟨Nat.le_of_ble_eq_true rfl, Nat.le_of_ble_eq_true rfl⟩ (fun r3 S3 h3 => ?_)
  exact e_iret F hr hlk h3 (by decide) (by decide) dJ15_checkIndex_7cf53_6
set_option maxRecDepth 100000 in
set_option maxHeartbeats 4000000 in
theorem k_ED {l : Launch} {N0 t0 : Nat} {D : va_G} {cy : Nat → ClassId} {S : zS} {u q j : Nat} (hua : zA S u 0) (hE : zq S 1 u = some q) (hq : zA S q 19) (hj : j < zn S q) (hn : zn S q < 2 ^ 31) : zMq l yJx4a65c_elementData_915e3 (zws yJx4a65c_elementData_915e3 cJx4a65c_elementData_915e3 2 (some (.object "java/lang/Object"))) { frames := 0, cells := 0, slots := 0, locals := 0 } N0 t0 D cy S [.ref u, .int (nI j)] (fun r S' => r = zrq S q j ∧ S' = S) 0 0 := by
  refine zMq.of (cc := cJx4a65c_elementData_915e3) (maxL := 2) (ret := (some (.object "java/lang/Object"))) (by decide) rfl (Nat.le_of_ble_eq_true rfl) ?_
  intro p e s m args below meth c F G hr hlk hnm
  refine r_aload_n F dJx4a65c_elementData_915e3_0 rfl ?_
  refine r_getS (ci := 0) (k := 1) (id := 1) (C := RJx4a65c) (T := TJx4a65c) (N := 3) F G rfl (by decide) (by decide) rfl (zinL inG0) (zin kf_Jx4a65c_9) (fun _ h9 => h9) dJx4a65c_elementData_915e3_1 hua hE ?_
  refine r_iload_n F dJx4a65c_elementData_915e3_4 rfl ?_
  refine r_aldO F G hq (vp_in_nI hj hn) dJx4a65c_elementData_915e3_5 ?_
  exact e_aret F hr (Or.inl ⟨_, rfl⟩) hlk ⟨by rw [nI_clamp (by omega)], rfl⟩ (by decide) (by decide) dJx4a65c_elementData_915e3_6
set_option maxRecDepth 100000 in
set_option maxHeartbeats 4000000 in
theorem k_get {l : Launch} {N0 t0 : Nat} {D : va_G} {cy : Nat → ClassId} {S : zS} {u q j k : Nat} (hua : zA S u 0) (hE : zq S 1 u = some q) (hq : zA S q 19) (hk : zi S 2 u = nI k) (hjk : j < k) (hkn : k ≤ zn S q) (hn : zn S q < 2 ^ 31) : zMq l yJx4a65c_get_915e3 (zws yJx4a65c_get_915e3 cJx4a65c_get_915e3 2 (some (.object "java/lang/Object"))) { frames := 2, cells := 0, slots := 0, locals := 44 } N0 t0 D cy S [.ref u, .int (nI j)] (fun r S' => r = zrq S q j ∧ S' = S) 0 0 := by
  refine zMq.of (cc := cJx4a65c_get_915e3) (maxL := 2) (ret := (some (.object "java/lang/Object"))) (by decide) rfl (Nat.le_of_ble_eq_true rfl) ?_
  intro p e s m args below meth c F G hr hlk hnm
  refine r_iload_n F dJx4a65c_get_915e3_0 rfl ?_
  refine r_aload_n F dJx4a65c_get_915e3_1 rfl ?_
  refine r_geti (ci := 0) (k := 2) (id := 2) (C := RJx4a65c) (T := TJx4a65c) (N := 3) F G rfl (by decide) (by decide) rfl (zinL inG0) (zin kf_Jx4a65c_48) (fun _ h9 => h9) dJx4a65c_get_915e3_2 hua ?_
  refine c_Si F G (k_OCheck (nI_pos (by omega)) (by rw [hk]; exact (nI_ltI (by omega) (by omega)).mpr hjk)) (va_cwS 2 F.2.2.2.2 (zgS km_Jx4a65c_118 ks_J15_checkIndex_7cf53 kn_J15 ko_J15_checkIndex_7cf53) rfl rfl rfl hd_yJ15_checkIndex_7cf53 ⟨Nat.le_of_ble_eq_true rfl, Nat.le_of_ble_eq_true rfl⟩) rfl rfl (Nat.le_of_ble_eq_true rfl) dJx4a65c_get_915e3_5 ⟨Nat.le_of_ble_eq_true rfl, Nat.le_of_ble_eq_true rfl⟩ (fun r5 S5 h5 => ?_)
  obtain ⟨h5a, h5b⟩ := h5
  have h5c := h5b.symm
  subst h5c
  refine r_pop F dJx4a65c_get_915e3_8 rfl ?_
  refine r_aload_n F dJx4a65c_get_915e3_9 rfl ?_
  refine r_iload_n F dJx4a65c_get_915e3_10 rfl ?_
  refine c_Vq (ci := 0) F G (k_ED hua hE hq (by omega) hn) (cwV 1 F.2.2.2.2 (zgV km_Jx4a65c_123 ki_Jx4a65c_elementData_915e3 ke_Jx4a65c_Jx4a65c_elementData_915e3 kn_Jx4a65c ko_Jx4a65c_elementData_915e3) rfl rfl rfl ⟨rfl, hd_yJx4a65c_elementData_915e3⟩ ⟨Nat.le_of_ble_eq_true rfl, Nat.le_of_ble_eq_true rfl⟩) rfl (by decide) hua rfl rfl (Nat.le_of_ble_eq_true rfl) dJx4a65c_get_915e3_11 ⟨Nat.le_of_ble_eq_true rfl, Nat.le_of_ble_eq_true rfl⟩ (fun r11 S11 h11 => ?_)
  exact e_aret F hr (Or.inl ⟨_, rfl⟩) hlk h11 (by decide) (by decide) dJx4a65c_get_915e3_14
set_option maxRecDepth 100000 in
set_option maxHeartbeats 4000000 in
theorem k_newLength {l : Launch} {N0 t0 : Nat} {D : va_G} {cy : Nat → ClassId} {S : zS} {a x y : Int32} {n : Nat} (h : a + (if x < y then y else x) = nI n) (h1 : 0 < n) (h2 : n ≤ 1000) : zMi l yJ8_newLength_cabcc (zws yJ8_newLength_cabcc cJ8_newLength_cabcc 4 (some .int)) { frames := 1, cells := 0, slots := 0, locals := 20 } N0 t0 D cy S [.int a, .int x, .int y] (fun r S' => r = nI n ∧ S' = S) 0 0 := by
  refine zMi.of (cc := cJ8_newLength_cabcc) (maxL := 4) (ret := (some .int)) (by decide) rfl (Nat.le_of_ble_eq_true rfl) ?_
  intro p e s m args below meth c F G hr hlk hnm
  refine r_iload_n F dJ8_newLength_cabcc_0 rfl ?_
  refine r_iload_n F dJ8_newLength_cabcc_1 rfl ?_
  refine r_iload_n F dJ8_newLength_cabcc_2 rfl ?_
  refine r_mmax F (zin km_J8_194) (zin ks_J9_max_7cf53) (zin kn_J9) (zin ko_J9_max_7cf53) (by decide) (Nat.le_of_ble_eq_true rfl) (by decide) (by decide) dJ8_newLength_cabcc_3 ?_
  refine r_iadd F dJ8_newLength_cabcc_6 ?_
  rw [h]
  refine r_istore_n F dJ8_newLength_cabcc_7 (by decide) ?_
  refine r_iconst (v := 0) F dJ8_newLength_cabcc_8 (by decide) ?_
  refine r_iload_n F dJ8_newLength_cabcc_9 rfl ?_
  refine r_icmp_ge (tgt := 21) F dJ8_newLength_cabcc_10 (by decide) (fun h9 => absurd h9 (by rw [show (0 : Int32) = nI 0 from rfl, nI_leI (by omega) (by omega)]; omega)) (fun _ => ?_)
  refine r_iload_n F dJ8_newLength_cabcc_13 rfl ?_
  refine r_ldcI (v := 2147483639) F (zin kv_J8_200) dJ8_newLength_cabcc_14 ?_
  refine r_icmp_gt (tgt := 21) F dJ8_newLength_cabcc_16 (by decide) (fun h9 => absurd h9 (by rw [show (2147483639 : Int32) = nI 2147483639 from rfl, nI_ltI (by omega) (by omega)]; omega)) (fun _ => ?_)
  refine r_iload_n F dJ8_newLength_cabcc_19 rfl ?_
  exact e_iret F hr hlk ⟨rfl, rfl⟩ (by decide) (by decide) dJ8_newLength_cabcc_20
set_option maxRecDepth 100000 in
set_option maxHeartbeats 4000000 in
theorem k_copyOf3 {l : Launch} {N0 t0 : Nat} {D : va_G} {cy : Nat → ClassId} {S : zS} {q k n : Nat} (hq : zA S q 19) (hk : zn S q = k) (hkn : k ≤ n) (hn : n ≤ 200) {ci : Nat} {r : vw_C} (hlt : ci < 13) (hc : vwCl[ci]? = some r) (hca : (r.1, "java/lang/Object") ∈ zCast) (hel : ∀ i : Nat, i < k → ∀ y : Nat, zrq S q i = some y → zA S y ci) : zMq l yJ7_copyOf_6403c (zws yJ7_copyOf_6403c cJ7_copyOf_6403c 4 (some (.array (.object "java/lang/Object")))) { frames := 1, cells := 1, slots := n, locals := 24 } N0 t0 D cy S [.ref q, .int (nI n), .ref (cy 7)] (fun r S' => ∃ q1, q1 ∉ zL S ∧ r = some q1 ∧ S' = zRq (zNa S q1 19 n) q1 (fun i => if i < k then zrq S q i else none)) 1 n := by
  refine zMq.of (cc := cJ7_copyOf_6403c) (maxL := 4) (ret := (some (.array (.object "java/lang/Object")))) (by decide) rfl (Nat.le_of_ble_eq_true rfl) ?_
  intro p e s m args below meth c F G hr hlk hnm
  refine r_aload_n F dJ7_copyOf_6403c_0 rfl ?_
  refine r_ldcM F G G.2.2.2.2.2.2.2.2.2.2.2.2.2.2.1 (zin kc_J7_110) dJ7_copyOf_6403c_1 ?_
  refine r_acmp_ne (rx := some (cy 7)) (ry := some (cy 7)) (tgt := 13) F dJ7_copyOf_6403c_3 (by decide) (fun h9 => absurd rfl h9) (fun _ => ?_)
  refine r_iload_n F dJ7_copyOf_6403c_6 rfl ?_
  refine r_newO (n' := n) F G (zin kc_J7_2) (nI_pos (by omega)) (nI_clamp (by omega)) (by omega) (Nat.le_refl _) (Nat.le_of_eq (Nat.zero_add n)) dJ7_copyOf_6403c_7 (fun q1 hq1 => ?_)
  have nq : q ≠ q1 := fun e9 => hq1 (e9 ▸ hq.1)
  have e1 : zn (zNa S q1 19 n) q = k := (va_up_ne _ _ nq).trans hk
  have e2 : zrq (zNa S q1 19 n) q = zrq S q := va_up_ne _ _ nq
  have e3 : zrq (zNa S q1 19 n) q1 = fun _ => none := va_up_self _ _ _
  have a1 : zA (zNa S q1 19 n) q 19 := zA.na hq hq1
  have a2 : zA (zNa S q1 19 n) q1 19 := zA.naq
  have e4 : zn (zNa S q1 19 n) q1 = n := va_up_self _ _ _
  refine r_goto (tgt := 24) F dJ7_copyOf_6403c_10 (by decide) ?_
  refine r_astore_n F dJ7_copyOf_6403c_24 (by decide) ?_
  refine r_aload_n F dJ7_copyOf_6403c_25 rfl ?_
  refine r_iconst (v := 0) F dJ7_copyOf_6403c_26 (by decide) ?_
  refine r_aload_n F dJ7_copyOf_6403c_27 rfl ?_
  refine r_iconst (v := 0) F dJ7_copyOf_6403c_28 (by decide) ?_
  refine r_aload_n F dJ7_copyOf_6403c_29 rfl ?_
  refine r_alen (j := 6) F G a1 rfl rfl dJ7_copyOf_6403c_30 ?_
  refine r_iload_n F dJ7_copyOf_6403c_31 rfl ?_
  refine r_mmin F (zin km_J7_304) (zin ks_J9_min_7cf53) (zin kn_J9) (zin ko_J9_min_7cf53) (Nat.le_of_ble_eq_true rfl) (Nat.le_of_ble_eq_true rfl) (Nat.le_refl _) (Nat.le_of_eq (Nat.zero_add n)) dJ7_copyOf_6403c_32 ?_
  rw [e1, show (if nI n < nI k then nI n else nI k) = nI k from if_neg (by rw [nI_ltI (by omega) (by omega)]; omega)]
  refine r_copyq (ci := ci) (r := r) F G (zin km_J7_150) (zin kj_J10_arraycopy) (zin ks_J10_arraycopy) (zin kn_J10) a1 a2 hlt hc hca (by decide) (by decide) (nI_pos (by omega)) (by rw [e1, nI_clamp (by omega)]; exact Nat.le_of_eq (Nat.zero_add k)) (by rw [e4, nI_clamp (by omega)]; show 0 + k ≤ n; omega) (fun i hi y hy => ?_) (Nat.le_of_ble_eq_true rfl) (Nat.le_of_ble_eq_true rfl) dJ7_copyOf_6403c_35 ?_
  · rw [nI_clamp (by omega)] at hi
    rw [e2] at hy
    rw [show (0 : Int32).toNatClampNeg + i = i from Nat.zero_add i] at hy
    exact zA.na (hel i hi y hy) hq1
  refine r_aload_n F dJ7_copyOf_6403c_38 rfl ?_
  have e5 : va_cpy (zrq (zNa S q1 19 n) q) (zrq (zNa S q1 19 n) q1) (0 : Int32).toNatClampNeg (0 : Int32).toNatClampNeg (nI k).toNatClampNeg = (fun i => if i < k then zrq S q i else none) := by
    rw [e2, e3, nI_clamp (by omega)]
    funext i
    show (if 0 ≤ i ∧ i < 0 + k then zrq S q (0 + (i - 0)) else none) = _
    by_cases h9 : i < k
    · rw [if_pos ⟨Nat.zero_le i, by omega⟩, if_pos h9, Nat.sub_zero, Nat.zero_add]
    · rw [if_neg (by omega), if_neg h9]
  rw [e5]
  exact e_aret (v := some q1) F hr (Or.inr ⟨_, rfl⟩) hlk ⟨q1, hq1, rfl, rfl⟩ (Nat.le_refl _) (Nat.le_of_eq (Nat.zero_add n)) dJ7_copyOf_6403c_39
set_option maxRecDepth 100000 in
set_option maxHeartbeats 4000000 in
theorem k_copyOf2 {l : Launch} {N0 t0 : Nat} {D : va_G} {cy : Nat → ClassId} {S : zS} {q k n : Nat} (hq : zA S q 19) (hk : zn S q = k) (hkn : k ≤ n) (hn : n ≤ 200) {ci : Nat} {r : vw_C} (hlt : ci < 13) (hc : vwCl[ci]? = some r) (hca : (r.1, "java/lang/Object") ∈ zCast) (hel : ∀ i : Nat, i < k → ∀ y : Nat, zrq S q i = some y → zA S y ci) : zMq l yJ7_copyOf_1904c (zws yJ7_copyOf_1904c cJ7_copyOf_1904c 2 (some (.array (.object "java/lang/Object")))) { frames := 2, cells := 1, slots := n, locals := 50 } N0 t0 D cy S [.ref q, .int (nI n)] (fun r S' => ∃ q1, q1 ∉ zL S ∧ r = some q1 ∧ S' = zRq (zNa S q1 19 n) q1 (fun i => if i < k then zrq S q i else none)) 1 n := by
  refine zMq.of (cc := cJ7_copyOf_1904c) (maxL := 2) (ret := (some (.array (.object "java/lang/Object")))) (by decide) rfl (Nat.le_of_ble_eq_true rfl) ?_
  intro p e s m args below meth c F G hr hlk hnm
  refine r_aload_n F dJ7_copyOf_1904c_0 rfl ?_
  refine r_iload_n F dJ7_copyOf_1904c_1 rfl ?_
  refine r_aload_n F dJ7_copyOf_1904c_2 rfl ?_
  refine r_getC F G G.2.2.2.2.2.2.2.2.2.2.2.2.2.2.1 hq (zin km_J7_86) (zin ke_Object__Object_getClass) (zin ki_Object_getClass) (zin kj_Object_getClass) (Nat.le_of_ble_eq_true rfl) (Nat.le_of_ble_eq_true rfl) dJ7_copyOf_1904c_3 ?_
  refine c_Sq F G (k_copyOf3 hq hk hkn hn hlt hc hca hel) (va_cwS 3 F.2.2.2.2 (zgS km_J7_300 ks_J7_copyOf_6403c kn_J7 ko_J7_copyOf_6403c) rfl rfl rfl hd_yJ7_copyOf_6403c ⟨Nat.le_of_ble_eq_true rfl, Nat.le_of_ble_eq_true rfl⟩) rfl rfl (Nat.le_of_ble_eq_true rfl) dJ7_copyOf_1904c_6 ⟨Nat.le_refl _, Nat.le_of_eq (Nat.zero_add _)⟩ (fun r6 S6 h6 => ?_)
  exact e_aret F hr (Or.inr ⟨_, rfl⟩) hlk h6 (Nat.le_refl _) (Nat.le_of_eq (Nat.zero_add _)) dJ7_copyOf_1904c_9
set_option maxRecDepth 100000 in
set_option maxHeartbeats 4000000 in
theorem k_grow1 {l : Launch} {N0 t0 : Nat} {D : va_G} {cy : Nat → ClassId} {S : zS} {u q k : Nat} (hua : zA S u 0) (hE : zq S 1 u = some q) (hq : zA S q 19) (hk : zn S q = k) (hcp : k ∈ zcap) (h109 : k ≠ 109) {ci : Nat} {r : vw_C} (hlt : ci < 13) (hc : vwCl[ci]? = some r) (hca : (r.1, "java/lang/Object") ∈ zCast) (hel : ∀ i : Nat, i < k → ∀ y : Nat, zrq S q i = some y → zA S y ci) : zMq l yJx4a65c_grow_92f84 (zws yJx4a65c_grow_92f84 cJx4a65c_grow_92f84 4 (some (.array (.object "java/lang/Object")))) { frames := 3, cells := 1, slots := (k + k / 2), locals := 75 } N0 t0 D cy S [.ref u, .int (nI (k + 1))] (fun r S' => ∃ q1, q1 ∉ zL S ∧ r = some q1 ∧ S' = zPq (zRq (zNa S q1 19 (k + k / 2)) q1 (fun i => if i < k then zrq S q i else none)) 1 u (some q1)) 1 (k + k / 2) := by
  refine zMq.of (cc := cJx4a65c_grow_92f84) (maxL := 4) (ret := (some (.array (.object "java/lang/Object")))) (by decide) rfl (Nat.le_of_ble_eq_true rfl) ?_
  intro p e s m args below meth c F G hr hlk hnm
  have hb := zcap_b k hcp
  have hb2 := zcap_b _ (zcap_up k hcp h109)
  refine r_aload_n F dJx4a65c_grow_92f84_0 rfl ?_
  refine r_getS (ci := 0) (k := 1) (id := 1) (C := RJx4a65c) (T := TJx4a65c) (N := 3) F G rfl (by decide) (by decide) rfl (zinL inG0) (zin kf_Jx4a65c_9) (fun _ h9 => h9) dJx4a65c_grow_92f84_1 hua hE ?_
  refine r_alen (j := 6) F G hq rfl rfl dJx4a65c_grow_92f84_4 ?_
  refine r_istore_n F dJx4a65c_grow_92f84_5 (by decide) ?_
  refine r_iload_n F dJx4a65c_grow_92f84_6 rfl ?_
  refine r_if_gt (tgt := 20) F dJx4a65c_grow_92f84_7 (by decide) (fun _ => ?_) (fun h9 => absurd (by rw [hk, show (0 : Int32) = nI 0 from rfl, nI_ltI (by omega) (by omega)]; omega) h9)
  rw [hk]
  refine r_iload_n F dJx4a65c_grow_92f84_20 rfl ?_
  refine r_iload_n F dJx4a65c_grow_92f84_21 rfl ?_
  refine r_iload_n F dJx4a65c_grow_92f84_22 rfl ?_
  refine r_isub F dJx4a65c_grow_92f84_23 ?_
  refine r_iload_n F dJx4a65c_grow_92f84_24 rfl ?_
  refine r_iconst (v := 1) F dJx4a65c_grow_92f84_25 (by decide) ?_
  refine r_ishr F dJx4a65c_grow_92f84_26 ?_
  refine c_Si F G (k_newLength (zcap_nl k hcp) (by omega) (by omega)) (va_cwS 3 F.2.2.2.2 (zgS km_Jx4a65c_73 ks_J8_newLength_cabcc kn_J8 ko_J8_newLength_cabcc) rfl rfl rfl hd_yJ8_newLength_cabcc ⟨Nat.le_of_ble_eq_true rfl, Nat.le_of_ble_eq_true rfl⟩) rfl rfl (Nat.le_of_ble_eq_true rfl) dJx4a65c_grow_92f84_27 ⟨Nat.zero_le _, Nat.zero_le _⟩ (fun r27 S27 h27 => ?_)
  obtain ⟨h27a, h27b⟩ := h27
  have h27c := h27b.symm
  subst h27c
  subst h27a
  refine r_istore_n F dJx4a65c_grow_92f84_30 (by decide) ?_
  refine r_aload_n F dJx4a65c_grow_92f84_31 rfl ?_
  refine r_aload_n F dJx4a65c_grow_92f84_32 rfl ?_
  refine r_getS (ci := 0) (k := 1) (id := 1) (C := RJx4a65c) (T := TJx4a65c) (N := 3) F G rfl (by decide) (by decide) rfl (zinL inG0) (zin kf_Jx4a65c_9) (fun _ h9 => h9) dJx4a65c_grow_92f84_33 hua hE ?_
  refine r_iload_n F dJx4a65c_grow_92f84_36 rfl ?_
  refine c_Sq F G (k_copyOf2 hq hk (by omega) (by omega) hlt hc hca hel) (va_cwS 2 F.2.2.2.2 (zgS km_Jx4a65c_66 ks_J7_copyOf_1904c kn_J7 ko_J7_copyOf_1904c) rfl rfl rfl hd_yJ7_copyOf_1904c ⟨Nat.le_of_ble_eq_true rfl, Nat.le_of_ble_eq_true rfl⟩) rfl rfl (Nat.le_of_ble_eq_true rfl) dJx4a65c_grow_92f84_37 ⟨Nat.le_refl _, Nat.le_of_eq (Nat.zero_add _)⟩ (fun r37 S37 h37 => ?_)
  obtain ⟨q1, hq1, rfl, rfl⟩ := h37
  refine r_dup_x1 F dJx4a65c_grow_92f84_40 rfl rfl ?_
  have ap : zA (zRq (zNa S q1 19 (k + k / 2)) q1 (fun i => if i < k then zrq S q i else none)) u 0 := zA.na (S := S) (n := k + k / 2) hua hq1
  refine r_putq (v := some q1) (ci := 0) (k := 1) (id := 1) (C := RJx4a65c) (T := TJx4a65c) (N := 3) (ty := (.array (.object "java/lang/Object"))) (ty0 := tyJx4a65c) F G rfl (by decide) (by decide) rfl (zinL inG0) (zin kf_Jx4a65c_9) (fun _ h9 => h9) tyJx4a65c_ok nmJx4a65c rfl pd0_1 rfl rfl dJx4a65c_grow_92f84_41 ap ?_
  exact e_aret (v := some q1) F hr (Or.inr ⟨_, rfl⟩) hlk ⟨q1, hq1, rfl, rfl⟩ (Nat.le_refl _) (by omega) dJx4a65c_grow_92f84_44
set_option maxRecDepth 100000 in
set_option maxHeartbeats 4000000 in
theorem k_grow0 {l : Launch} {N0 t0 : Nat} {D : va_G} {cy : Nat → ClassId} {S : zS} {u q k : Nat} (hua : zA S u 0) (hE : zq S 1 u = some q) (hq : zA S q 19) (hk : zn S q = k) (hcp : k ∈ zcap) (h109 : k ≠ 109) {ci : Nat} {r : vw_C} (hlt : ci < 13) (hc : vwCl[ci]? = some r) (hca : (r.1, "java/lang/Object") ∈ zCast) (hel : ∀ i : Nat, i < k → ∀ y : Nat, zrq S q i = some y → zA S y ci) (hz : zi S 2 u = nI k) : zMq l yJx4a65c_grow_d5877 (zws yJx4a65c_grow_d5877 cJx4a65c_grow_d5877 1 (some (.array (.object "java/lang/Object")))) { frames := 4, cells := 1, slots := (k + k / 2), locals := 100 } N0 t0 D cy S [.ref u] (fun r S' => ∃ q1, q1 ∉ zL S ∧ r = some q1 ∧ S' = zPq (zRq (zNa S q1 19 (k + k / 2)) q1 (fun i => if i < k then zrq S q i else none)) 1 u (some q1)) 1 (k + k / 2) := by
  refine zMq.of (cc := cJx4a65c_grow_d5877) (maxL := 1) (ret := (some (.array (.object "java/lang/Object")))) (by decide) rfl (Nat.le_of_ble_eq_true rfl) ?_
  intro p e s m args below meth c F G hr hlk hnm
  refine r_aload_n F dJx4a65c_grow_d5877_0 rfl ?_
  refine r_aload_n F dJx4a65c_grow_d5877_1 rfl ?_
  have hb := zcap_b k hcp
  have hb2 := zcap_b _ (zcap_up k hcp h109)
  refine r_geti (ci := 0) (k := 2) (id := 2) (C := RJx4a65c) (T := TJx4a65c) (N := 3) F G rfl (by decide) (by decide) rfl (zinL inG0) (zin kf_Jx4a65c_48) (fun _ h9 => h9) dJx4a65c_grow_d5877_2 hua ?_
  refine r_iconst (v := 1) F dJx4a65c_grow_d5877_5 (by decide) ?_
  refine r_iadd F dJx4a65c_grow_d5877_6 ?_
  rw [hz, show nI k + 1 = nI (k + 1) from nI_add k 1]
  refine c_Vq (ci := 0) F G (k_grow1 hua hE hq hk hcp h109 hlt hc hca hel) (cwV 1 F.2.2.2.2 (zgV km_Jx4a65c_69 ki_Jx4a65c_grow_92f84 ke_Jx4a65c_Jx4a65c_grow_92f84 kn_Jx4a65c ko_Jx4a65c_grow_92f84) rfl rfl rfl ⟨rfl, hd_yJx4a65c_grow_92f84⟩ ⟨Nat.le_of_ble_eq_true rfl, Nat.le_of_ble_eq_true rfl⟩) rfl (by decide) hua rfl rfl (Nat.le_of_ble_eq_true rfl) dJx4a65c_grow_d5877_7 ⟨Nat.le_refl _, Nat.le_of_eq (Nat.zero_add _)⟩ (fun r7 S7 h7 => ?_)
  exact e_aret F hr (Or.inr ⟨_, rfl⟩) hlk h7 (Nat.le_refl _) (Nat.le_of_eq (Nat.zero_add _)) dJx4a65c_grow_d5877_10
/-- behind an add: the list at u, its row now at q1 (before: q), k things before, v the new one; b: there was a row -/
def zadd (b : Prop) (S S' : zS) (u q q1 k v : Nat) : Prop := (q1 ∉ zL S ∨ (b ∧ q1 = q)) ∧ zA S' q1 19 ∧ zfr S S' (fun b => b = u ∨ b = q1) ∧ zq S' 1 u = some q1 ∧ (∀ j, j ≠ 1 → zq S' j u = zq S j u) ∧ zi S' 2 u = nI (k + 1) ∧ (∀ j, j ≠ 0 → j ≠ 2 → zi S' j u = zi S j u) ∧ (∀ j, zl S' j u = zl S j u) ∧ k + 1 ≤ zn S' q1 ∧ zn S' q1 ∈ zcap ∧ zrq S' q1 k = some v ∧ (q1 ∉ zL S → ∀ i, i ≠ k → zrq S' q1 i = if i < k then zrq S q i else none) ∧ (b → q1 = q → q ∈ zL S → zn S' q1 = zn S q ∧ ∀ i, i ≠ k → zrq S' q1 i = zrq S q i)
theorem zA.kne {S : zS} {a b k j : Nat} (ha : zA S a k) (hb : zA S b j) (h : k ≠ j) : a ≠ b := fun e => h (by rw [← ha.2, ← hb.2, e])
theorem zadd_c {S : zS} {u q k v : Nat} {b : Prop} (hb : b) (hua : zA S u 0) (hE : zq S 1 u = some q) (hq : zA S q 19) (hcp : zn S q ∈ zcap) (hk : k < zn S q) : zadd b S (zPi (zRq S q (va_up (zrq S q) k (some v))) 2 u (nI (k + 1))) u q q k v := by
  have e1 : zrq (zPi (zRq S q (va_up (zrq S q) k (some v))) 2 u (nI (k + 1))) q = va_up (zrq S q) k (some v) := va_up_self _ _ _
  refine ⟨Or.inr ⟨hb, rfl⟩, hq, zfr.pi (zfr.rq zfr.rf (fun _ => Or.inr rfl)) (fun _ => Or.inl rfl), hE, fun _ _ => rfl, zi_s, fun j _ h2 => zi_n h2, fun _ => rfl, hk, hcp, ?_, fun h => absurd hq.1 h, fun _ _ _ => ⟨rfl, fun i hi => ?_⟩⟩
  · rw [e1, va_up_self]
  · rw [e1, va_up_ne _ _ hi]
theorem zadd_n {S S7 : zS} {u q q1 k v n : Nat} {b : Prop} (hq1 : q1 ∉ zL S) (hqL : b → q ∈ zL S) (hfr : zfr S S7 (fun b => b = u)) (h1 : zA S7 q1 19) (h2 : zq S7 1 u = some q1) (h3 : ∀ j, j ≠ 1 → zq S7 j u = zq S j u) (h4 : ∀ j, zi S7 j u = zi S j u) (h5 : ∀ j, zl S7 j u = zl S j u) (h6 : zn S7 q1 = n) (h7 : k + 1 ≤ n) (h8 : n ∈ zcap) (h9 : ∀ i, zrq S7 q1 i = if i < k then zrq S q i else none) : zadd b S (zPi (zRq S7 q1 (va_up (zrq S7 q1) k (some v))) 2 u (nI (k + 1))) u q q1 k v := by
  have e1 : zrq (zPi (zRq S7 q1 (va_up (zrq S7 q1) k (some v))) 2 u (nI (k + 1))) q1 = va_up (zrq S7 q1) k (some v) := va_up_self _ _ _
  refine ⟨Or.inl hq1, h1, zfr.pi (zfr.rq (zfr.tr zfr.rf hfr (fun _ _ e => Or.inl e)) (fun _ => Or.inr rfl)) (fun _ => Or.inl rfl), h2, h3, zi_s, fun j _ h => (zi_n h).trans (h4 j), h5, ?_, ?_, ?_, fun _ i hi => ?_, fun hb e hL => absurd (e ▸ hL) hq1⟩
  · show k + 1 ≤ zn S7 q1
    rw [h6]; exact h7
  · show zn S7 q1 ∈ zcap
    rw [h6]; exact h8
  · rw [e1, va_up_self]
  · rw [e1, va_up_ne _ _ hi]; exact h9 i
theorem zadd_p {S S' : zS} {u q q1 k v : Nat} {m : Int32} {b : Prop} (h : zadd b (zPi S 0 u m) S' u q q1 k v) : zadd b S S' u q q1 k v := by
  obtain ⟨h1, h2, h3, h4, h5, h6, h7, h8, h9⟩ := h
  exact ⟨h1, h2, zfr.tr (zfr.pi zfr.rf (fun _ => Or.inl rfl)) h3 (fun _ _ e => e), h4, h5, h6, fun j e1 e2 => (h7 j e1 e2).trans (zi_n e1), h8, h9⟩
/-- the row that a list has: none yet (the empty one), or one of room enough, all its things of one kind -/
def zrow (t0 : Nat) (b : Prop) (S : zS) (q k ci : Nat) : Prop := (¬ b ∧ k = 0 ∧ q = t0) ∨ (b ∧ zA S q 19 ∧ zn S q ∈ zcap ∧ k ≤ zn S q ∧ k ≠ 109 ∧ ∀ i : Nat, i < k → ∀ y : Nat, zrq S q i = some y → zA S y ci)
set_option maxRecDepth 100000 in
set_option maxHeartbeats 4000000 in
theorem k_add3 {l : Launch} {N0 t0 : Nat} {D : va_G} {cy : Nat → ClassId} {S : zS} {u v q k : Nat} {b : Prop} (hua : zA S u 0) (hE : zq S 1 u = some q) (hz : zi S 2 u = nI k) {ci : Nat} {r : vw_C} (hlt : ci < 13) (hc : vwCl[ci]? = some r) (hca : (r.1, "java/lang/Object") ∈ zCast) (hva : zA S v ci) (hrow : zrow t0 b S q k ci) : zMv l yJx4a65c_add_72be8 (zws yJx4a65c_add_72be8 cJx4a65c_add_72be8 4 none) { frames := 5, cells := chC k, slots := chS k, locals := 124 } N0 t0 D cy S [.ref u, .ref v, .ref q, .int (nI k)] (fun S' => ∃ q1, zadd b S S' u q q1 k v) (chC k) (chS k) := by
  refine zMv.of (cc := cJx4a65c_add_72be8) (maxL := 4) (ret := none) (by decide) rfl (Nat.le_of_ble_eq_true rfl) ?_
  intro p e s m args below meth c F G hr hlk hnm
  rcases hrow with ⟨hb, h0, ht⟩ | ⟨hb, hq, hcp, hkn, hk9, hel⟩
  · subst h0
    subst ht
    refine r_iload_n F dJx4a65c_add_72be8_0 rfl ?_
    refine r_aload_n F dJx4a65c_add_72be8_1 rfl ?_
    refine r_alenT F G dJx4a65c_add_72be8_2 ?_
    refine r_icmp_ne (tgt := 11) F dJx4a65c_add_72be8_3 (by decide) (fun h9 => absurd rfl h9) (fun _ => ?_)
    refine r_aload_n F dJx4a65c_add_72be8_6 rfl ?_
    refine c_Vq (ci := 0) F G (k_grow0_first hua hE hz) (cwV 0 F.2.2.2.2 (zgV km_Jx4a65c_129 ki_Jx4a65c_grow_d5877 ke_Jx4a65c_Jx4a65c_grow_d5877 kn_Jx4a65c ko_Jx4a65c_grow_d5877) rfl rfl rfl ⟨rfl, hd_yJx4a65c_grow_d5877⟩ ⟨Nat.le_of_ble_eq_true rfl, Nat.le_of_ble_eq_true rfl⟩) rfl (by decide) hua rfl rfl (Nat.le_of_ble_eq_true rfl) dJx4a65c_add_72be8_7 ⟨by decide, by decide⟩ (fun r7 S7 h7 => ?_)
    obtain ⟨q1, hq1, rfl, rfl⟩ := h7
    refine r_astore_n (x := q1) F dJx4a65c_add_72be8_10 (by decide) ?_
    refine r_aload_n F dJx4a65c_add_72be8_11 rfl ?_
    refine r_iload_n F dJx4a65c_add_72be8_12 rfl ?_
    refine r_aload_n F dJx4a65c_add_72be8_13 rfl ?_
    refine r_ast_O (a := q1) (v := v) F G (zA.naq (S := S) (j := 19) (n := 10)) (zA.na (S := S) (j := 19) (n := 10) hva hq1) hlt hc hca (show vp_in (nI 0) (va_up (zn S) q1 10 q1) from by rw [va_up_self]; exact vp_in_nI (n := 0) (by decide) (by decide)) dJx4a65c_add_72be8_14 ?_
    rw [nI_clamp (by decide)]
    refine r_aload_n F dJx4a65c_add_72be8_15 rfl ?_
    refine r_iload_n F dJx4a65c_add_72be8_16 rfl ?_
    refine r_iconst (v := 1) F dJx4a65c_add_72be8_17 (by decide) ?_
    refine r_iadd F dJx4a65c_add_72be8_18 ?_
    rw [show nI 0 + 1 = nI (0 + 1) from nI_add 0 1]
    refine r_puti (ci := 0) (k := 2) (id := 2) (C := RJx4a65c) (T := TJx4a65c) (N := 3) (ty := .int) (ty0 := tyJx4a65c) F G rfl (by decide) (by decide) rfl (zinL inG0) (zin kf_Jx4a65c_48) (fun _ h9 => h9) tyJx4a65c_ok nmJx4a65c rfl pd0_2 rfl rfl dJx4a65c_add_72be8_19 (zA.na (S := S) (j := 19) (n := 10) hua hq1) ?_
    exact e_vret F hr hlk ⟨q1, zadd_n (S7 := (zPq (zNa S q1 19 10) 1 u (some q1))) (n := 10) (k := 0) hq1 (fun h9 => absurd h9 hb) (zfr.pq (zfr.na zfr.rf hq1) (fun _ => rfl)) (zA.naq (n := 10)) zq_s (fun j hj => zq_n hj) (fun _ => rfl) (fun _ => rfl) (va_up_self _ _ _) (by decide) (by decide) (fun i => by rw [if_neg (Nat.not_lt_zero i)]; exact congrFun (va_up_self _ _ _) i)⟩ (by decide) (by decide) dJx4a65c_add_72be8_22
  · have hbd := zcap_b _ hcp
    rcases Nat.lt_or_ge k (zn S q) with hlt2 | hge
    · refine r_iload_n F dJx4a65c_add_72be8_0 rfl ?_
      refine r_aload_n F dJx4a65c_add_72be8_1 rfl ?_
      refine r_alen (j := 6) F G hq rfl rfl dJx4a65c_add_72be8_2 ?_
      refine r_icmp_ne (tgt := 11) F dJx4a65c_add_72be8_3 (by decide) (fun _ => ?_) (fun h9 => absurd h9 (fun e9 => by rw [nI_eq (by omega) (by omega)] at e9; omega))
      refine r_aload_n F dJx4a65c_add_72be8_11 rfl ?_
      refine r_iload_n F dJx4a65c_add_72be8_12 rfl ?_
      refine r_aload_n F dJx4a65c_add_72be8_13 rfl ?_
      refine r_ast_O (a := q) (v := v) F G hq hva hlt hc hca (vp_in_nI hlt2 (by omega)) dJx4a65c_add_72be8_14 ?_
      rw [nI_clamp (by omega)]
      refine r_aload_n F dJx4a65c_add_72be8_15 rfl ?_
      refine r_iload_n F dJx4a65c_add_72be8_16 rfl ?_
      refine r_iconst (v := 1) F dJx4a65c_add_72be8_17 (by decide) ?_
      refine r_iadd F dJx4a65c_add_72be8_18 ?_
      rw [show nI k + 1 = nI (k + 1) from nI_add k 1]
      refine r_puti (ci := 0) (k := 2) (id := 2) (C := RJx4a65c) (T := TJx4a65c) (N := 3) (ty := .int) (ty0 := tyJx4a65c) F G rfl (by decide) (by decide) rfl (zinL inG0) (zin kf_Jx4a65c_48) (fun _ h9 => h9) tyJx4a65c_ok nmJx4a65c rfl pd0_2 rfl rfl dJx4a65c_add_72be8_19 hua ?_
      exact e_vret F hr hlk ⟨q, zadd_c hb hua hE hq hcp hlt2⟩ (Nat.zero_le _) (Nat.zero_le _) dJx4a65c_add_72be8_22
    · have hkc : zn S q = k := by omega
      have hcp2 : k ∈ zcap := hkc ▸ hcp
      have hu2 := zcap_b _ (zcap_up k hcp2 hk9)
      refine r_iload_n F dJx4a65c_add_72be8_0 rfl ?_
      refine r_aload_n F dJx4a65c_add_72be8_1 rfl ?_
      refine r_alen (j := 6) F G hq rfl rfl dJx4a65c_add_72be8_2 ?_
      refine r_icmp_ne (tgt := 11) F dJx4a65c_add_72be8_3 (by decide) (fun h9 => absurd (by rw [hkc]) h9) (fun _ => ?_)
      refine r_aload_n F dJx4a65c_add_72be8_6 rfl ?_
      refine c_Vq (ci := 0) F G (k_grow0 hua hE hq hkc hcp2 hk9 hlt hc hca hel hz) (cwV 0 F.2.2.2.2 (zgV km_Jx4a65c_129 ki_Jx4a65c_grow_d5877 ke_Jx4a65c_Jx4a65c_grow_d5877 kn_Jx4a65c ko_Jx4a65c_grow_d5877) rfl rfl rfl ⟨rfl, hd_yJx4a65c_grow_d5877⟩ ⟨Nat.le_of_ble_eq_true rfl, Nat.le_of_ble_eq_true rfl⟩) rfl (by decide) hua rfl rfl (Nat.le_of_ble_eq_true rfl) dJx4a65c_add_72be8_7 ⟨by rw [chC_c hcp2]; exact Nat.le_refl _, by rw [chS_c hcp2]; exact Nat.le_of_eq (Nat.zero_add _)⟩ (fun r7 S7 h7 => ?_)
      obtain ⟨q1, hq1, rfl, rfl⟩ := h7
      refine r_astore_n (x := q1) F dJx4a65c_add_72be8_10 (by decide) ?_
      refine r_aload_n F dJx4a65c_add_72be8_11 rfl ?_
      refine r_iload_n F dJx4a65c_add_72be8_12 rfl ?_
      refine r_aload_n F dJx4a65c_add_72be8_13 rfl ?_
      refine r_ast_O (a := q1) (v := v) F G (zA.naq (S := S) (j := 19) (n := k + k / 2)) (zA.na (S := S) (j := 19) (n := k + k / 2) hva hq1) hlt hc hca (show vp_in (nI k) (va_up (zn S) q1 (k + k / 2) q1) from by rw [va_up_self]; exact vp_in_nI (by omega) (by omega)) dJx4a65c_add_72be8_14 ?_
      rw [nI_clamp (by omega)]
      refine r_aload_n F dJx4a65c_add_72be8_15 rfl ?_
      refine r_iload_n F dJx4a65c_add_72be8_16 rfl ?_
      refine r_iconst (v := 1) F dJx4a65c_add_72be8_17 (by decide) ?_
      refine r_iadd F dJx4a65c_add_72be8_18 ?_
      rw [show nI k + 1 = nI (k + 1) from nI_add k 1]
      refine r_puti (ci := 0) (k := 2) (id := 2) (C := RJx4a65c) (T := TJx4a65c) (N := 3) (ty := .int) (ty0 := tyJx4a65c) F G rfl (by decide) (by decide) rfl (zinL inG0) (zin kf_Jx4a65c_48) (fun _ h9 => h9) tyJx4a65c_ok nmJx4a65c rfl pd0_2 rfl rfl dJx4a65c_add_72be8_19 (zA.na (S := S) (j := 19) (n := k + k / 2) hua hq1) ?_
      exact e_vret F hr hlk ⟨q1, zadd_n (S7 := (zPq (zRq (zNa S q1 19 (k + k / 2)) q1 (fun i => if i < k then zrq S q i else none)) 1 u (some q1))) (n := k + k / 2) hq1 (fun _ => hq.1) (zfr.pq (zfr.rq (zfr.na zfr.rf hq1) (fun e9 => absurd e9 hq1)) (fun _ => rfl)) (zA.naq (n := k + k / 2)) zq_s (fun j hj => zq_n hj) (fun _ => rfl) (fun _ => rfl) (va_up_self _ _ _) (by omega) (zcap_up k hcp2 hk9) (fun i => congrFun (va_up_self _ _ _) i)⟩ (by rw [chC_c hcp2]; exact Nat.le_refl _) (by rw [chS_c hcp2]; exact Nat.le_of_eq (Nat.zero_add _)) dJx4a65c_add_72be8_22
set_option maxRecDepth 100000 in
set_option maxHeartbeats 4000000 in
theorem k_add {l : Launch} {N0 t0 : Nat} {D : va_G} {cy : Nat → ClassId} {S : zS} {u v q k : Nat} {b : Prop} (hua : zA S u 0) (hE : zq S 1 u = some q) (hz : zi S 2 u = nI k) {ci : Nat} {r : vw_C} (hlt : ci < 13) (hc : vwCl[ci]? = some r) (hca : (r.1, "java/lang/Object") ∈ zCast) (hva : zA S v ci) (hrow : zrow t0 b S q k ci) : zMi l yJx4a65c_add_9ea2d (zws yJx4a65c_add_9ea2d cJx4a65c_add_9ea2d 2 (some .boolean)) { frames := 6, cells := chC k, slots := chS k, locals := 148 } N0 t0 D cy S [.ref u, .ref v] (fun r S' => ∃ q1, zadd b S S' u q q1 k v) (chC k) (chS k) := by
  refine zMi.of (cc := cJx4a65c_add_9ea2d) (maxL := 2) (ret := (some .boolean)) (by decide) rfl (Nat.le_of_ble_eq_true rfl) ?_
  intro p e s m args below meth c F G hr hlk hnm
  refine r_aload_n F dJx4a65c_add_9ea2d_0 rfl ?_
  refine r_dup F dJx4a65c_add_9ea2d_1 rfl ?_
  refine r_geti (ci := 0) (k := 0) (id := 0) (C := RJx4a65c) (T := TJx4a65c) (N := 3) F G rfl (by decide) (by decide) rfl (zinL inG0) (zin kf_Jx4a65c_63) (fun x9 h9 => u_same (F.2.2.2.2 (Cond.sameField "java/util/ArrayList" "java/util/AbstractList" "modCount" "I") (zin kx_sameField_java_util_ArrayList_java_util_AbstractList_modCount_I)) x9 h9) dJx4a65c_add_9ea2d_2 hua ?_
  refine r_iconst (v := 1) F dJx4a65c_add_9ea2d_5 (by decide) ?_
  refine r_iadd F dJx4a65c_add_9ea2d_6 ?_
  refine r_puti (ci := 0) (k := 0) (id := 0) (C := RJx4a65c) (T := TJx4a65c) (N := 3) (ty := .int) (ty0 := tyJx4a65c) F G rfl (by decide) (by decide) rfl (zinL inG0) (zin kf_Jx4a65c_63) (fun x9 h9 => u_same (F.2.2.2.2 (Cond.sameField "java/util/ArrayList" "java/util/AbstractList" "modCount" "I") (zin kx_sameField_java_util_ArrayList_java_util_AbstractList_modCount_I)) x9 h9) tyJx4a65c_ok nmJx4a65c rfl pd0_0 rfl rfl dJx4a65c_add_9ea2d_7 hua ?_
  have e1 : zq (zPi S 0 u (zi S 0 u + 1)) 1 u = some q := hE
  have e2 : zi (zPi S 0 u (zi S 0 u + 1)) 2 u = nI k := (zi_n (by decide)).trans hz
  have e3 : zA (zPi S 0 u (zi S 0 u + 1)) u 0 := hua
  have e4 : zA (zPi S 0 u (zi S 0 u + 1)) v ci := hva
  have e5 : zrow t0 b (zPi S 0 u (zi S 0 u + 1)) q k ci := hrow
  refine r_aload_n F dJx4a65c_add_9ea2d_10 rfl ?_
  refine r_aload_n F dJx4a65c_add_9ea2d_11 rfl ?_
  refine r_aload_n F dJx4a65c_add_9ea2d_12 rfl ?_
  refine r_getS (ci := 0) (k := 1) (id := 1) (C := RJx4a65c) (T := TJx4a65c) (N := 3) F G rfl (by decide) (by decide) rfl (zinL inG0) (zin kf_Jx4a65c_9) (fun _ h9 => h9) dJx4a65c_add_9ea2d_13 e3 e1 ?_
  refine r_aload_n F dJx4a65c_add_9ea2d_16 rfl ?_
  refine r_geti (ci := 0) (k := 2) (id := 2) (C := RJx4a65c) (T := TJx4a65c) (N := 3) F G rfl (by decide) (by decide) rfl (zinL inG0) (zin kf_Jx4a65c_48) (fun _ h9 => h9) dJx4a65c_add_9ea2d_17 e3 ?_
  rw [e2]
  refine c_Vv (ci := 0) F G (k_add3 e3 e1 e2 hlt hc hca e4 e5) (cwV 3 F.2.2.2.2 (zgV km_Jx4a65c_131 ki_Jx4a65c_add_72be8 ke_Jx4a65c_Jx4a65c_add_72be8 kn_Jx4a65c ko_Jx4a65c_add_72be8) rfl rfl rfl ⟨rfl, hd_yJx4a65c_add_72be8⟩ ⟨Nat.le_of_ble_eq_true rfl, Nat.le_of_ble_eq_true rfl⟩) rfl (by decide) e3 rfl rfl (Nat.le_of_ble_eq_true rfl) dJx4a65c_add_9ea2d_20 ⟨Nat.le_of_eq (Nat.zero_add _), Nat.le_of_eq (Nat.zero_add _)⟩ (fun S20 h20 => ?_)
  refine r_iconst (v := 1) F dJx4a65c_add_9ea2d_23 (by decide) ?_
  exact e_zret F hr rfl hlk ⟨h20.choose, zadd_p h20.choose_spec⟩ (Nat.le_of_eq (Nat.zero_add _)) (Nat.le_of_eq (Nat.zero_add _)) dJx4a65c_add_9ea2d_24
theorem zRq_two {S : zS} {q : Nat} {f g h : Nat → Option Nat} (e : ∀ i, g i = h i) : zRq (zRq S q f) q g = zRq S q h := by
  have e2 : g = h := funext e
  subst e2
  show (zL S, zK S, zi S, zq S, zl S, zn S, zri S, zrj S, va_up (va_up (zrq S) q f) q g) = (zL S, zK S, zi S, zq S, zl S, zn S, zri S, zrj S, va_up (zrq S) q g)
  rw [show va_up (va_up (zrq S) q f) q g = va_up (zrq S) q g from funext fun b => by
    by_cases hb : b = q
    · subst hb; rw [va_up_self, va_up_self]
    · rw [va_up_ne _ _ hb, va_up_ne _ _ hb, va_up_ne _ _ hb]]
theorem zRq_id {S : zS} {q : Nat} {f : Nat → Option Nat} (e : ∀ i, f i = zrq S q i) : zRq S q f = S := by
  have e2 : f = zrq S q := funext e
  subst e2
  show (zL S, zK S, zi S, zq S, zl S, zn S, zri S, zrj S, va_up (zrq S) q (zrq S q)) = S
  rw [show va_up (zrq S) q (zrq S q) = zrq S from funext fun b => by
    by_cases hb : b = q
    · subst hb; rw [va_up_self]
    · rw [va_up_ne _ _ hb]]
set_option maxRecDepth 100000 in
set_option maxHeartbeats 4000000 in
theorem k_clear {l : Launch} {N0 t0 : Nat} {D : va_G} {cy : Nat → ClassId} {S : zS} {u q k : Nat} (hua : zA S u 0) (hE : zq S 1 u = some q) (hz : zi S 2 u = nI k) (hk : k < 2 ^ 31) (hq : 0 < k → zA S q 19 ∧ k ≤ zn S q ∧ zn S q < 2 ^ 31) : zMv l yJx4a65c_clear_da8c8 (zws yJx4a65c_clear_da8c8 cJx4a65c_clear_da8c8 4 none) { frames := 0, cells := 0, slots := 0, locals := 0 } N0 t0 D cy S [.ref u] (fun S' => ∃ w, S' = zRq (zPi (zPi S 0 u w) 2 u 0) q (fun i => if i < k then none else zrq S q i)) 0 0 := by
  refine zMv.of (cc := cJx4a65c_clear_da8c8) (maxL := 4) (ret := none) (by decide) rfl (Nat.le_of_ble_eq_true rfl) ?_
  intro p e s m args below meth c F G hr hlk hnm
  refine r_aload_n F dJx4a65c_clear_da8c8_0 rfl ?_
  refine r_dup F dJx4a65c_clear_da8c8_1 rfl ?_
  refine r_geti (ci := 0) (k := 0) (id := 0) (C := RJx4a65c) (T := TJx4a65c) (N := 3) F G rfl (by decide) (by decide) rfl (zinL inG0) (zin kf_Jx4a65c_63) (fun x9 h9 => u_same (F.2.2.2.2 (Cond.sameField "java/util/ArrayList" "java/util/AbstractList" "modCount" "I") (zin kx_sameField_java_util_ArrayList_java_util_AbstractList_modCount_I)) x9 h9) dJx4a65c_clear_da8c8_2 hua ?_
  refine r_iconst (v := 1) F dJx4a65c_clear_da8c8_5 (by decide) ?_
  refine r_iadd F dJx4a65c_clear_da8c8_6 ?_
  refine r_puti (ci := 0) (k := 0) (id := 0) (C := RJx4a65c) (T := TJx4a65c) (N := 3) (ty := .int) (ty0 := tyJx4a65c) F G rfl (by decide) (by decide) rfl (zinL inG0) (zin kf_Jx4a65c_63) (fun x9 h9 => u_same (F.2.2.2.2 (Cond.sameField "java/util/ArrayList" "java/util/AbstractList" "modCount" "I") (zin kx_sameField_java_util_ArrayList_java_util_AbstractList_modCount_I)) x9 h9) tyJx4a65c_ok nmJx4a65c rfl pd0_0 rfl rfl dJx4a65c_clear_da8c8_7 hua ?_
  have e1 : zq (zPi S 0 u (zi S 0 u + 1)) 1 u = some q := hE
  have e2 : zi (zPi S 0 u (zi S 0 u + 1)) 2 u = nI k := (zi_n (by decide)).trans hz
  have e3 : zA (zPi S 0 u (zi S 0 u + 1)) u 0 := hua
  refine r_aload_n F dJx4a65c_clear_da8c8_10 rfl ?_
  refine r_getS (ci := 0) (k := 1) (id := 1) (C := RJx4a65c) (T := TJx4a65c) (N := 3) F G rfl (by decide) (by decide) rfl (zinL inG0) (zin kf_Jx4a65c_9) (fun _ h9 => h9) dJx4a65c_clear_da8c8_11 e3 e1 ?_
  refine r_astore_n F dJx4a65c_clear_da8c8_14 (by decide) ?_
  refine r_aload_n F dJx4a65c_clear_da8c8_15 rfl ?_
  refine r_geti (ci := 0) (k := 2) (id := 2) (C := RJx4a65c) (T := TJx4a65c) (N := 3) F G rfl (by decide) (by decide) rfl (zinL inG0) (zin kf_Jx4a65c_48) (fun _ h9 => h9) dJx4a65c_clear_da8c8_16 e3 ?_
  rw [e2]
  refine r_istore_n F dJx4a65c_clear_da8c8_19 (by decide) ?_
  refine r_aload_n F dJx4a65c_clear_da8c8_20 rfl ?_
  refine r_iconst (v := 0) F dJx4a65c_clear_da8c8_21 (by decide) ?_
  refine r_dup_x1 F dJx4a65c_clear_da8c8_22 rfl rfl ?_
  refine r_puti (ci := 0) (k := 2) (id := 2) (C := RJx4a65c) (T := TJx4a65c) (N := 3) (ty := .int) (ty0 := tyJx4a65c) F G rfl (by decide) (by decide) rfl (zinL inG0) (zin kf_Jx4a65c_48) (fun _ h9 => h9) tyJx4a65c_ok nmJx4a65c rfl pd0_2 rfl rfl dJx4a65c_clear_da8c8_23 e3 ?_
  refine r_istore_n F dJx4a65c_clear_da8c8_26 (by decide) ?_
  refine z_loop (fun n S9 lv => ∃ j, j + n = k ∧ S9 = zRq (zPi (zPi S 0 u (zi S 0 u + 1)) 2 u 0) q (fun i => if i < j then none else zrq S q i) ∧ lv = [(3, .int (nI j)), (2, .int (nI k)), (1, .ref q), (0, .ref u)]) k ?_ ⟨0, by omega, (zRq_id (fun i => by rw [if_neg (Nat.not_lt_zero i)])).symm, rfl⟩
  rintro n S9 lv ⟨j, hn9, rfl, rfl⟩ ih
  refine r_iload_n F dJx4a65c_clear_da8c8_27 rfl ?_
  refine r_iload_n F dJx4a65c_clear_da8c8_28 rfl ?_
  refine r_icmp_ge (tgt := 42) F dJx4a65c_clear_da8c8_29 (by decide) (fun c29 => ?_) (fun c29 => ?_)
  · have hjk : k = j := by rw [nI_leI (by omega) (by omega)] at c29; omega
    subst hjk
    exact e_vret F hr hlk ⟨_, rfl⟩ (by decide) (by decide) dJx4a65c_clear_da8c8_42
  · have hjk : j < k := by rw [nI_leI (by omega) (by omega)] at c29; omega
    obtain ⟨hqa, hkn, hqn⟩ := hq (by omega)
    refine r_aload_n F dJx4a65c_clear_da8c8_32 rfl ?_
    refine r_iload_n F dJx4a65c_clear_da8c8_33 rfl ?_
    refine r_null F dJx4a65c_clear_da8c8_34 ?_
    refine r_astN_O F G hqa (vp_in_nI (show j < zn S q by omega) hqn) dJx4a65c_clear_da8c8_35 ?_
    rw [nI_clamp (by omega)]
    rw [show zRq (zRq (zPi (zPi S 0 u (zi S 0 u + 1)) 2 u 0) q (fun i => if i < j then none else zrq S q i)) q (va_up (zrq (zRq (zPi (zPi S 0 u (zi S 0 u + 1)) 2 u 0) q (fun i => if i < j then none else zrq S q i)) q) j none) = zRq (zPi (zPi S 0 u (zi S 0 u + 1)) 2 u 0) q (fun i => if i < j + 1 then none else zrq S q i) from zRq_two (fun i => by
      by_cases e9 : i = j
      · subst e9
        rw [va_up_self, if_pos (by omega)]
      · rw [va_up_ne _ _ e9, show zrq (zRq (zPi (zPi S 0 u (zi S 0 u + 1)) 2 u 0) q (fun i => if i < j then none else zrq S q i)) q i = (if i < j then none else zrq S q i) from congrFun (va_up_self _ _ _) i]
        by_cases e8 : i < j
        · rw [if_pos e8, if_pos (by omega)]
        · rw [if_neg e8, if_neg (by omega)])]
    refine r_iinc F dJx4a65c_clear_da8c8_36 rfl (by decide) ?_
    refine r_goto (tgt := 27) F dJx4a65c_clear_da8c8_39 (by decide) ?_
    exact ih (n - 1) _ _ (by omega) ⟨j + 1, by omega, rfl, by rw [show nI j + Int32.ofInt 1 = nI (j + 1) from nI_add j 1]; rfl⟩
