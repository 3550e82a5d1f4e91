set_option maxRecDepth 100000 in
set_option maxHeartbeats 4000000 in
theorem mm_pop {l : Launch} {N0 t0 : Nat} {D : va_G} {cy : Nat → ClassId} {S : zS} {S0 : zS} {g : Nat} {qa : Nat → Nat} {v : zV} (hS : zmR S0 g qa v S) {t : Nat} (ht : v.1 1246 0 = nI (t + 1)) (hb : t < 5000) : zMl l yX12_pop (zws yX12_pop cX12_pop 1 (some .long)) { frames := 0, cells := 0, slots := 0, locals := 0 } N0 t0 D cy S [.ref g] (fun r S' => r = v.2 1245 t ∧ zmR S0 g qa (u1 v 1246 0 (nI t)) S') 0 0 := by
  refine zMl.of (cc := cX12_pop) (maxL := 1) (ret := (some .long)) (by decide) rfl (Nat.le_of_ble_eq_true rfl) ?_
  intro p e s m args below meth c F G hr hlk hnm
  refine r_aload_n F dX12_pop_0 rfl ?_
  refine r_dup F dX12_pop_1 rfl ?_
  refine gi_top F G hS dX12_pop_2 ?_
  rw [ht]
  refine r_iconst (v := 1) F dX12_pop_5 (by decide) ?_
  refine r_isub F dX12_pop_6 ?_
  rw [show nI (t + 1) - 1 = nI t from by rw [nl1, nI_sub (by omega), Nat.add_sub_cancel]]
  refine pi_top F G hS dX12_pop_7 (fun S hS => ?_)
  refine r_aload_n F dX12_pop_10 rfl ?_
  refine gq_values F G hS dX12_pop_11 ?_
  refine r_aload_n F dX12_pop_14 rfl ?_
  refine gi_top F G hS dX12_pop_15 ?_
  rw [u1_s]
  refine al_values F G hS (t) rfl hb dX12_pop_18 ?_
  exact e_lret F hr hlk ⟨rfl, hS⟩ (by decide) (by decide) dX12_pop_19
set_option maxRecDepth 100000 in
set_option maxHeartbeats 4000000 in
theorem mm_push {l : Launch} {N0 t0 : Nat} {D : va_G} {cy : Nat → ClassId} {S : zS} {S0 : zS} {g : Nat} {qa : Nat → Nat} {v : zV} (hS : zmR S0 g qa v S) {t : Nat} {x : Int64} (ht : v.1 1246 0 = nI t) (hb : t < 5000) : zMv l yX12_push (zws yX12_push cX12_push 3 none) { frames := 0, cells := 0, slots := 0, locals := 0 } N0 t0 D cy S [.ref g, .long x] (fun S' => zmR S0 g qa (u1 (u2 v 1245 t x) 1246 0 (nI (t + 1))) S') 0 0 := by
  refine zMv.of (cc := cX12_push) (maxL := 3) (ret := none) (by decide) rfl (Nat.le_of_ble_eq_true rfl) ?_
  intro p e s m args below meth c F G hr hlk hnm
  refine r_aload_n F dX12_push_0 rfl ?_
  refine gq_values F G hS dX12_push_1 ?_
  refine r_aload_n F dX12_push_4 rfl ?_
  refine gi_top F G hS dX12_push_5 ?_
  refine r_lload_n F dX12_push_8 rfl ?_
  refine as_values F G hS (t) ht hb dX12_push_9 (fun S hS => ?_)
  refine r_aload_n F dX12_push_10 rfl ?_
  refine r_dup F dX12_push_11 rfl ?_
  refine gi_top F G hS dX12_push_12 ?_
  refine r_iconst (v := 1) F dX12_push_15 (by decide) ?_
  refine r_iadd F dX12_push_16 ?_
  rw [show (u2 v 1245 t x).1 1246 0 + 1 = nI (t + 1) from by rw [show (u2 v 1245 t x).1 1246 0 = nI t from ht]; exact nI_add t 1]
  refine pi_top F G hS dX12_push_17 (fun S hS => ?_)
  exact e_vret F hr hlk hS (by decide) (by decide) dX12_push_20
set_option maxRecDepth 100000 in
set_option maxHeartbeats 4000000 in
theorem mm_openBlock {l : Launch} {N0 t0 : Nat} {D : va_G} {cy : Nat → ClassId} {S : zS} {S0 : zS} {g : Nat} {qa : Nat → Nat} {v : zV} (hS : zmR S0 g qa v S) {n : Nat} {x : Int32} (hn : v.1 1249 0 = nI n) (hb : n < 2600) : zMv l yX12_openBlock (zws yX12_openBlock cX12_openBlock 2 none) { frames := 0, cells := 0, slots := 0, locals := 0 } N0 t0 D cy S [.ref g, .int x] (fun S' => zmR S0 g qa (u1 (u1 (u1 v 1247 n x) 1248 n (v.1 1246 0)) 1249 0 (nI (n + 1))) S') 0 0 := by
  refine zMv.of (cc := cX12_openBlock) (maxL := 2) (ret := none) (by decide) rfl (Nat.le_of_ble_eq_true rfl) ?_
  intro p e s m args below meth c F G hr hlk hnm
  refine r_aload_n F dX12_openBlock_0 rfl ?_
  refine gq_runWord F G hS dX12_openBlock_1 ?_
  refine r_aload_n F dX12_openBlock_4 rfl ?_
  refine gi_runBlocks F G hS dX12_openBlock_5 ?_
  refine r_iload_n F dX12_openBlock_8 rfl ?_
  refine as_runWord F G hS (n) hn hb dX12_openBlock_9 (fun S hS => ?_)
  refine r_aload_n F dX12_openBlock_10 rfl ?_
  refine gq_runBelow F G hS dX12_openBlock_11 ?_
  refine r_aload_n F dX12_openBlock_14 rfl ?_
  refine gi_runBlocks F G hS dX12_openBlock_15 ?_
  refine r_aload_n F dX12_openBlock_18 rfl ?_
  refine gi_top F G hS dX12_openBlock_19 ?_
  refine as_runBelow F G hS (n) ((u1_n (Or.inl (by decide))).trans hn) hb dX12_openBlock_22 (fun S hS => ?_)
  rw [show (u1 v 1247 n x).1 1246 0 = v.1 1246 0 from u1_n (Or.inl (by decide))] at hS
  refine r_aload_n F dX12_openBlock_23 rfl ?_
  refine r_dup F dX12_openBlock_24 rfl ?_
  refine gi_runBlocks F G hS dX12_openBlock_25 ?_
  refine r_iconst (v := 1) F dX12_openBlock_28 (by decide) ?_
  refine r_iadd F dX12_openBlock_29 ?_
  rw [show (u1 (u1 v 1247 n x) 1248 n (v.1 1246 0)).1 1249 0 + 1 = nI (n + 1) from by rw [show (u1 (u1 v 1247 n x) 1248 n (v.1 1246 0)).1 1249 0 = nI n from (u1_n (Or.inl (by decide))).trans ((u1_n (Or.inl (by decide))).trans hn)]; exact nI_add n 1]
  refine pi_runBlocks F G hS dX12_openBlock_30 (fun S hS => ?_)
  exact e_vret F hr hlk hS (by decide) (by decide) dX12_openBlock_33
/-- the upper many (one at most) stand on below -/
def vKp (v : zV) (b t : Nat) (many : Nat) : zV := u1 (if many = 0 then v else u2 v 1245 b (v.2 1245 (t - 1))) 1246 0 (nI (b + many))
set_option maxRecDepth 100000 in
set_option maxHeartbeats 4000000 in
theorem mm_keep {l : Launch} {N0 t0 : Nat} {D : va_G} {cy : Nat → ClassId} {S : zS} {S0 : zS} {g : Nat} {qa : Nat → Nat} {v : zV} (hS : zmR S0 g qa v S) {b t k : Nat} (ht : v.1 1246 0 = nI t) (hk1 : k ≤ 1) (hkt : k ≤ t) (hb : b < 5000) (ht5 : t ≤ 5000) : zMv l yX12_keep (zws yX12_keep cX12_keep 4 none) { frames := 0, cells := 0, slots := 0, locals := 0 } N0 t0 D cy S [.ref g, .int (nI b), .int (nI k)] (fun S' => zmR S0 g qa (vKp v b t k) S') 0 0 := by
  refine zMv.of (cc := cX12_keep) (maxL := 4) (ret := none) (by decide) rfl (Nat.le_of_ble_eq_true rfl) ?_
  intro p e s m args below meth c F G hr hlk hnm
  refine r_iconst (v := 0) F dX12_keep_0 (by decide) ?_
  refine r_istore_n F dX12_keep_1 (by decide) ?_
  refine zsub (lv' := [(3, .int (nI 0)), (0, .ref g), (1, .int (nI b)), (2, .int (nI k))]) (by simp [zs1, lv_args, Value.category, show ((1 : Fin 4) : Nat) = 1 from rfl, show ((2 : Fin 4) : Nat) = 2 from rfl, show ((3 : Fin 4) : Nat) = 3 from rfl, show nI 0 = (0 : Int32) from rfl]) ?_
  refine z_loop (fun n S9 lv => ∃ j, j + n = k ∧ zmR S0 g qa (if j = 0 then v else u2 v 1245 b (v.2 1245 (t - 1))) S9 ∧ lv = [(3, .int (nI j)), (0, .ref g), (1, .int (nI b)), (2, .int (nI k))]) k ?_ ⟨0, Nat.zero_add _, hS, rfl⟩
  clear hS
  rintro n S lv ⟨j, hjn, hS, rfl⟩ ih
  have ht2 : (if j = 0 then v else u2 v 1245 b (v.2 1245 (t - 1))).1 1246 0 = nI t := by split <;> exact ht
  refine r_iload_n F dX12_keep_2 rfl ?_
  refine r_iload_n F dX12_keep_3 rfl ?_
  refine r_icmp_ge (tgt := 34) F dX12_keep_4 (by decide) (fun c4 => ?_) (fun c4 => ?_)
  · have hj : j = k := by have c9 := c4; rw [nI_leI (by omega) (by omega)] at c9; omega
    subst hj
    refine r_aload_n F dX12_keep_34 rfl ?_
    refine r_iload_n F dX12_keep_35 rfl ?_
    refine r_iload_n F dX12_keep_36 rfl ?_
    refine r_iadd F dX12_keep_37 ?_
    rw [nI_add b j]
    refine pi_top F G hS dX12_keep_38 (fun S hS => ?_)
    exact e_vret F hr hlk hS (by decide) (by decide) dX12_keep_41
  · have hj : j = 0 ∧ k = 1 := by have c9 := c4; rw [nI_leI (by omega) (by omega)] at c9; omega
    obtain ⟨hj0, hk⟩ := hj
    subst hj0
    rw [if_pos rfl] at hS
    refine r_aload_n F dX12_keep_7 rfl ?_
    refine gq_values F G hS dX12_keep_8 ?_
    refine r_iload_n F dX12_keep_11 rfl ?_
    refine r_iload_n F dX12_keep_12 rfl ?_
    refine r_iadd F dX12_keep_13 ?_
    refine r_aload_n F dX12_keep_14 rfl ?_
    refine gq_values F G hS dX12_keep_15 ?_
    refine r_aload_n F dX12_keep_18 rfl ?_
    refine gi_top F G hS dX12_keep_19 ?_
    refine r_iload_n F dX12_keep_22 rfl ?_
    refine r_isub F dX12_keep_23 ?_
    refine r_iload_n F dX12_keep_24 rfl ?_
    refine r_iadd F dX12_keep_25 ?_
    rw [ht, show nI t - nI k + nI 0 = nI (t - 1) from by rw [hk, nI_sub (by omega), nI_add, Nat.add_zero]]
    refine al_values F G hS (t - 1) rfl (by omega) dX12_keep_26 ?_
    refine as_values F G hS (b) (nI_add b 0) hb dX12_keep_27 (fun S hS => ?_)
    refine r_iinc F dX12_keep_28 rfl (by decide) ?_
    refine r_goto (tgt := 2) F dX12_keep_31 (by decide) ?_
    refine zsub (lv' := [(3, .int (nI 1)), (0, .ref g), (1, .int (nI b)), (2, .int (nI k))]) (by rw [show nI 1 = nI 0 + Int32.ofInt 1 from (nI_add 0 1).symm]; simp [zs1, lv_args, Value.category, show ((1 : Fin 4) : Nat) = 1 from rfl, show ((2 : Fin 4) : Nat) = 2 from rfl, show ((3 : Fin 4) : Nat) = 3 from rfl, show nI 0 = (0 : Int32) from rfl]) ?_
    exact ih (n - 1) _ _ (by omega) ⟨1, by omega, by rw [if_neg (by decide)]; exact hS, rfl⟩
theorem isO_d : ∀ a, a < 1001 → ∀ n, n < 9 → ((1024 : Int64) - (nI n).toInt64 - (nI a).toInt64).toInt = 1024 - (n : Int) - (a : Int) := by decide +kernel
abbrev outP (x : Int64) (a n : Nat) : Prop := x < 0 ∨ 1024 - (n : Int) - (a : Int) < x.toInt
set_option maxRecDepth 100000 in
set_option maxHeartbeats 4000000 in
theorem mm_isOut {l : Launch} {N0 t0 : Nat} {D : va_G} {cy : Nat → ClassId} {S : zS} {S0 : zS} {g : Nat} {qa : Nat → Nat} {v : zV} (hS : zmR S0 g qa v S) {x : Int64} {a n : Nat} (ha : a ≤ 1000) (hn : n ≤ 8) : zMi l yX12_isOut (zws yX12_isOut cX12_isOut 5 (some .boolean)) { frames := 0, cells := 0, slots := 0, locals := 0 } N0 t0 D cy S [.ref g, .long x, .int (nI a), .int (nI n)] (fun r S' => zbo r (outP x a n) ∧ S' = S) 0 0 := by
  refine zMi.of (cc := cX12_isOut) (maxL := 5) (ret := (some .boolean)) (by decide) rfl (Nat.le_of_ble_eq_true rfl) ?_
  intro p e s m args below meth c F G hr hlk hnm
  have he := isO_d a (by omega) n (by omega)
  refine r_lload_n F dX12_isOut_0 rfl ?_
  refine r_lconst (v := 0) F dX12_isOut_1 (by decide) ?_
  refine r_lcmp F dX12_isOut_2 ?_
  refine r_if_lt (tgt := 21) F dX12_isOut_3 (by decide) (fun c3 => ?_) (fun c3 => ?_)
  · refine r_iconst (v := 1) F dX12_isOut_21 (by decide) ?_
    refine r_goto (tgt := 26) F dX12_isOut_22 (by decide) ?_
    exact e_zret F hr rfl hlk ⟨zbo.y (Or.inl (by have c9 := (lg_cmp_lt _ _).mp c3; exact c9)), rfl⟩ (by decide) (by decide) dX12_isOut_26
  · refine r_lload_n F dX12_isOut_6 rfl ?_
    refine r_ldcL (v := 1024) F (zin kv_X12_318) dX12_isOut_7 ?_
    refine r_iload F dX12_isOut_10 rfl ?_
    refine r_i2l F dX12_isOut_12 ?_
    refine r_lsub F dX12_isOut_13 ?_
    refine r_iload_n F dX12_isOut_14 rfl ?_
    refine r_i2l F dX12_isOut_15 ?_
    refine r_lsub F dX12_isOut_16 ?_
    refine r_lcmp F dX12_isOut_17 ?_
    refine r_if_le (tgt := 25) F dX12_isOut_18 (by decide) (fun c18 => ?_) (fun c18 => ?_)
    · refine r_iconst (v := 0) F dX12_isOut_25 (by decide) ?_
      exact e_zret F hr rfl hlk ⟨zbo.n (fun h9 => by have c8 := c3; rw [lg_cmp_lt] at c8; have c7 := (lg_cmp_le _ _).mp c18; rw [Int64.le_iff_toInt_le, he] at c7; rcases h9 with h9 | h9; exact c8 h9; omega), rfl⟩ (by decide) (by decide) dX12_isOut_26
    · refine r_iconst (v := 1) F dX12_isOut_21 (by decide) ?_
      refine r_goto (tgt := 26) F dX12_isOut_22 (by decide) ?_
      exact e_zret F hr rfl hlk ⟨zbo.y (Or.inr (by have c7 := c18; rw [lg_cmp_le, Int64.le_iff_toInt_le, he] at c7; omega)), rfl⟩ (by decide) (by decide) dX12_isOut_26
set_option maxRecDepth 100000 in
set_option maxHeartbeats 4000000 in
theorem mm_leave {l : Launch} {N0 t0 : Nat} {D : va_G} {cy : Nat → ClassId} {S : zS} {S0 : zS} {g : Nat} {qa : Nat → Nat} {v : zV} (hS : zmR S0 g qa v S) {n b t r9 rb f : Nat} (hn : v.1 1239 0 = nI (n + 1)) (hn4 : n < 41) (hb : v.1 1242 n = nI b) (hb5 : b < 5000) (hf : v.1 1240 n = nI f) (hf4 : f < 48) (hr9 : v.1 1206 f = nI r9) (hr1 : r9 ≤ 1) (ht : v.1 1246 0 = nI t) (htr : r9 ≤ t) (ht5 : t ≤ 5000) (hrb : v.1 1243 n = nI rb) : zMv l yX12_leave (zws yX12_leave cX12_leave 1 none) { frames := 1, cells := 0, slots := 0, locals := 23 } N0 t0 D cy S [.ref g] (fun S' => zmR S0 g qa (u1 (vKp (u1 v 1239 0 (nI n)) b t r9) 1249 0 (nI rb)) S') 0 0 := by
  refine zMv.of (cc := cX12_leave) (maxL := 1) (ret := none) (by decide) rfl (Nat.le_of_ble_eq_true rfl) ?_
  intro p e s m args below meth c F G hr hlk hnm
  refine r_aload_n F dX12_leave_0 rfl ?_
  refine r_dup F dX12_leave_1 rfl ?_
  refine gi_frames F G hS dX12_leave_2 ?_
  rw [hn]
  refine r_iconst (v := 1) F dX12_leave_5 (by decide) ?_
  refine r_isub F dX12_leave_6 ?_
  rw [show nI (n + 1) - 1 = nI n from by rw [nl1, nI_sub (by omega), Nat.add_sub_cancel]]
  refine pi_frames F G hS dX12_leave_7 (fun S hS => ?_)
  refine r_aload_n F dX12_leave_10 rfl ?_
  refine r_aload_n F dX12_leave_11 rfl ?_
  refine gq_frameBase F G hS dX12_leave_12 ?_
  refine r_aload_n F dX12_leave_15 rfl ?_
  refine gi_frames F G hS dX12_leave_16 ?_
  rw [u1_s]
  refine al_frameBase F G hS (n) rfl (by omega) dX12_leave_19 ?_
  rw [show (u1 v 1239 0 (nI n)).1 1242 n = nI b from ((u1_n (Or.inl (by decide))).trans hb)]
  refine r_aload_n F dX12_leave_20 rfl ?_
  refine gq_results F G hS dX12_leave_21 ?_
  refine r_aload_n F dX12_leave_24 rfl ?_
  refine gq_frameFunction F G hS dX12_leave_25 ?_
  refine r_aload_n F dX12_leave_28 rfl ?_
  refine gi_frames F G hS dX12_leave_29 ?_
  rw [u1_s]
  refine al_frameFunction F G hS (n) rfl (by omega) dX12_leave_32 ?_
  rw [show (u1 v 1239 0 (nI n)).1 1240 n = nI f from ((u1_n (Or.inl (by decide))).trans hf)]
  refine al_results F G hS (f) rfl hf4 dX12_leave_33 ?_
  rw [show (u1 v 1239 0 (nI n)).1 1206 f = nI r9 from ((u1_n (Or.inl (by decide))).trans hr9)]
  refine c_Vv (ci := 12) F G (mm_keep hS (t := t) ((u1_n (Or.inl (by decide))).trans ht) hr1 htr hb5 ht5) (cwV 2 F.2.2.2.2 (zgV km_X12_312 ki_X12_keep ke_X12_X12_keep kn_X12 ko_X12_keep) rfl rfl rfl ⟨rfl, hd_yX12_keep⟩ ⟨Nat.le_of_ble_eq_true rfl, Nat.le_of_ble_eq_true rfl⟩) rfl (by decide) hS.al rfl rfl (Nat.le_of_ble_eq_true rfl) dX12_leave_34 ⟨Nat.le_of_ble_eq_true rfl, Nat.le_of_ble_eq_true rfl⟩ (fun S34 hS => ?_)
  have hkf : ∀ id k, id ≠ 1246 → (vKp (u1 v 1239 0 (nI n)) b t r9).1 id k = (u1 v 1239 0 (nI n)).1 id k := fun id k h1 => (u1_n (Or.inl h1)).trans (by split <;> rfl)
  refine r_aload_n F dX12_leave_37 rfl ?_
  refine r_aload_n F dX12_leave_38 rfl ?_
  refine gq_frameBlocks F G hS dX12_leave_39 ?_
  refine r_aload_n F dX12_leave_42 rfl ?_
  refine gi_frames F G hS dX12_leave_43 ?_
  rw [hkf 1239 0 (by decide), u1_s]
  refine al_frameBlocks F G hS (n) rfl (by omega) dX12_leave_46 ?_
  rw [hkf 1243 n (by decide), show (u1 v 1239 0 (nI n)).1 1243 n = nI rb from ((u1_n (Or.inl (by decide))).trans hrb)]
  refine pi_runBlocks F G hS dX12_leave_47 (fun S hS => ?_)
  exact e_vret F hr hlk hS (by decide) (by decide) dX12_leave_50
/-- a function is entered -/
def enR (v v' : zV) (n f p t rb dp : Nat) : Prop := v'.1 1239 0 = nI (n + 1) ∧ v'.1 1240 n = nI f ∧ v'.1 1241 n = nI 0 ∧ v'.1 1242 n = nI (t - p) ∧ v'.1 1243 n = nI rb ∧ v'.1 1246 0 = nI (t - p) ∧ v'.1 1231 0 = nI (max dp (n + 1)) ∧ (∀ k, k < 8 → v'.2 1244 (8 * n + k) = if k < p then v.2 1245 (t - p + k) else 0) ∧ (∀ id k, ¬ (id = 1239 ∨ id = 1246 ∨ id = 1231) → ¬ ((id = 1240 ∨ id = 1241 ∨ id = 1242 ∨ id = 1243) ∧ k = n) → v'.1 id k = v.1 id k) ∧ ∀ id k, ¬ (id = 1244 ∧ 8 * n ≤ k ∧ k < 8 * n + 8) → v'.2 id k = v.2 id k
theorem u2_s {v : zV} {i k : Nat} {x : Int64} : (u2 v i k x).2 i k = x := z2_s v.2 i k x
theorem u2_n {v : zV} {i j k b : Nat} {x : Int64} (h : j ≠ i ∨ b ≠ k) : (u2 v i k x).2 j b = v.2 j b := z2_n v.2 x h
set_option maxRecDepth 100000 in
set_option maxHeartbeats 4000000 in
theorem mm_enter {l : Launch} {N0 t0 : Nat} {D : va_G} {cy : Nat → ClassId} {S : zS} {S0 : zS} {g : Nat} {qa : Nat → Nat} {v : zV} (hS : zmR S0 g qa v S) {n f p9 t rb dp : Nat} (hn : v.1 1239 0 = nI n) (hn4 : n < 40) (hf4 : f < 48) (hp : v.1 1205 f = nI p9) (hp4 : p9 ≤ 4) (ht : v.1 1246 0 = nI t) (hpt : p9 ≤ t) (ht5 : t ≤ 5000) (hrb : v.1 1249 0 = nI rb) (hdp : v.1 1231 0 = nI dp) (hdp4 : dp ≤ 40) : zMv l yX12_enter (zws yX12_enter cX12_enter 3 none) { frames := 0, cells := 0, slots := 0, locals := 0 } N0 t0 D cy S [.ref g, .int (nI f)] (fun S' => ∃ v', zmR S0 g qa v' S' ∧ enR v v' n f p9 t rb dp) 0 0 := by
  refine zMv.of (cc := cX12_enter) (maxL := 3) (ret := none) (by decide) rfl (Nat.le_of_ble_eq_true rfl) ?_
  intro p e s m args below meth c F G hr hlk hnm
  refine r_aload_n F dX12_enter_0 rfl ?_
  refine gq_frameFunction F G hS dX12_enter_1 ?_
  refine r_aload_n F dX12_enter_4 rfl ?_
  refine gi_frames F G hS dX12_enter_5 ?_
  refine r_iload_n F dX12_enter_8 rfl ?_
  refine as_frameFunction F G hS (n) hn (by omega) dX12_enter_9 (fun S hS => ?_)
  refine r_aload_n F dX12_enter_10 rfl ?_
  refine gq_frameAt F G hS dX12_enter_11 ?_
  refine r_aload_n F dX12_enter_14 rfl ?_
  refine gi_frames F G hS dX12_enter_15 ?_
  refine r_iconst (v := 0) F dX12_enter_18 (by decide) ?_
  refine as_frameAt F G hS (n) ((u1_n (Or.inl (by decide))).trans hn) (by omega) dX12_enter_19 (fun S hS => ?_)
  refine r_aload_n F dX12_enter_20 rfl ?_
  refine r_dup F dX12_enter_21 rfl ?_
  refine gi_top F G hS dX12_enter_22 ?_
  refine r_aload_n F dX12_enter_25 rfl ?_
  refine gq_parameters F G hS dX12_enter_26 ?_
  refine r_iload_n F dX12_enter_29 rfl ?_
  refine al_parameters F G hS (f) rfl hf4 dX12_enter_30 ?_
  refine r_isub F dX12_enter_31 ?_
  rw [show (u1 (u1 v 1240 n (nI f)) 1241 n 0).1 1246 0 - (u1 (u1 v 1240 n (nI f)) 1241 n 0).1 1205 f = nI (t - p9) from by rw [show (u1 (u1 v 1240 n (nI f)) 1241 n 0).1 1246 0 = nI t from (u1_n (Or.inl (by decide))).trans ((u1_n (Or.inl (by decide))).trans ht), show (u1 (u1 v 1240 n (nI f)) 1241 n 0).1 1205 f = nI p9 from (u1_n (Or.inl (by decide))).trans ((u1_n (Or.inl (by decide))).trans hp)]; exact nI_sub hpt]
  refine pi_top F G hS dX12_enter_32 (fun S hS => ?_)
  refine r_iconst (v := 0) F dX12_enter_35 (by decide) ?_
  refine r_istore_n F dX12_enter_36 (by decide) ?_
  refine zsub (lv' := [(2, .int (nI 0)), (0, .ref g), (1, .int (nI f))]) (by simp [zs1, lv_args, Value.category, show ((1 : Fin 4) : Nat) = 1 from rfl, show ((2 : Fin 4) : Nat) = 2 from rfl, show ((3 : Fin 4) : Nat) = 3 from rfl, show nI 0 = (0 : Int32) from rfl]) ?_
  refine z_loop (fun m9 S9 lv => ∃ (j : Nat) (v3 : zV), j + m9 = 8 ∧ zmR S0 g qa v3 S9 ∧ (∀ k, k < j → v3.2 1244 (8 * n + k) = if k < p9 then v.2 1245 (t - p9 + k) else 0) ∧ (∀ id k, ¬ (id = 1244 ∧ 8 * n ≤ k ∧ k < 8 * n + 8) → v3.2 id k = v.2 id k) ∧ v3.1 = (u1 (u1 (u1 v 1240 n (nI f)) 1241 n 0) 1246 0 (nI (t - p9))).1 ∧ lv = [(2, .int (nI j)), (0, .ref g), (1, .int (nI f))]) 8 ?_ ⟨0, _, rfl, hS, fun k hk => absurd hk (Nat.not_lt_zero k), fun _ _ _ => rfl, rfl, rfl⟩
  clear hS
  rintro m9 S lv ⟨j, v3, hjm, hS, hl3, ho3, e3, rfl⟩ ih
  have g1 : ∀ id k, id ≠ 1240 → id ≠ 1241 → id ≠ 1246 → v3.1 id k = v.1 id k := fun id k h1 h2 h3 => by rw [e3]; exact (u1_n (Or.inl h3)).trans ((u1_n (Or.inl h2)).trans (u1_n (Or.inl h1)))
  have g6 : v3.1 1246 0 = nI (t - p9) := by rw [e3]; exact u1_s
  have gn : v3.1 1239 0 = nI n := (g1 1239 0 (by decide) (by decide) (by decide)).trans hn
  have gp : v3.1 1205 f = nI p9 := (g1 1205 f (by decide) (by decide) (by decide)).trans hp
  refine r_iload_n F dX12_enter_37 rfl ?_
  refine r_bipush (v := 8) F dX12_enter_38 (by decide) ?_
  rw [nl8]
  refine r_icmp_ge (tgt := 88) F dX12_enter_40 (by decide) (fun c40 => ?_) (fun c40 => ?_)
  · have hj : j = 8 := by have c9 := c40; rw [nI_leI (by omega) (by omega)] at c9; omega
    subst hj
    clear ih
    refine r_aload_n F dX12_enter_88 rfl ?_
    refine gq_frameBase F G hS dX12_enter_89 ?_
    refine r_aload_n F dX12_enter_92 rfl ?_
    refine gi_frames F G hS dX12_enter_93 ?_
    refine r_aload_n F dX12_enter_96 rfl ?_
    refine gi_top F G hS dX12_enter_97 ?_
    refine as_frameBase F G hS (n) gn (by omega) dX12_enter_100 (fun S hS => ?_)
    rw [g6] at hS
    refine r_aload_n F dX12_enter_101 rfl ?_
    refine gq_frameBlocks F G hS dX12_enter_102 ?_
    refine r_aload_n F dX12_enter_105 rfl ?_
    refine gi_frames F G hS dX12_enter_106 ?_
    refine r_aload_n F dX12_enter_109 rfl ?_
    refine gi_runBlocks F G hS dX12_enter_110 ?_
    refine as_frameBlocks F G hS (n) ((u1_n (Or.inl (by decide))).trans gn) (by omega) dX12_enter_113 (fun S hS => ?_)
    rw [show (u1 v3 1242 n (nI (t - p9))).1 1249 0 = nI rb from (u1_n (Or.inl (by decide))).trans ((g1 1249 0 (by decide) (by decide) (by decide)).trans hrb)] at hS
    have e5n : (u1 (u1 v3 1242 n (nI (t - p9))) 1243 n (nI rb)).1 1239 0 = nI n := (u1_n (Or.inl (by decide))).trans ((u1_n (Or.inl (by decide))).trans gn)
    have e5d : (u1 (u1 v3 1242 n (nI (t - p9))) 1243 n (nI rb)).1 1231 0 = nI dp := (u1_n (Or.inl (by decide))).trans ((u1_n (Or.inl (by decide))).trans ((g1 1231 0 (by decide) (by decide) (by decide)).trans hdp))
    refine r_aload_n F dX12_enter_114 rfl ?_
    refine r_dup F dX12_enter_115 rfl ?_
    refine gi_frames F G hS dX12_enter_116 ?_
    refine r_iconst (v := 1) F dX12_enter_119 (by decide) ?_
    refine r_iadd F dX12_enter_120 ?_
    rw [e5n, show nI n + 1 = nI (n + 1) from nI_add n 1]
    refine pi_frames F G hS dX12_enter_121 (fun S hS => ?_)
    refine r_aload_n F dX12_enter_124 rfl ?_
    refine r_aload_n F dX12_enter_125 rfl ?_
    refine gi_deepest F G hS dX12_enter_126 ?_
    refine r_aload_n F dX12_enter_129 rfl ?_
    refine gi_frames F G hS dX12_enter_130 ?_
    refine r_icmp_ge (tgt := 143) F dX12_enter_133 (by decide) (fun c133 => ?_) (fun c133 => ?_)
    · refine r_aload_n F dX12_enter_143 rfl ?_
      refine gi_deepest F G hS dX12_enter_144 ?_
      refine pi_deepest F G hS dX12_enter_147 (fun S hS => ?_)
      have hd9 : (u1 (u1 (u1 v3 1242 n (nI (t - p9))) 1243 n (nI rb)) 1239 0 (nI (n + 1))).1 1231 0 = nI (max dp (n + 1)) := by have c9 := c133; rw [show (u1 (u1 (u1 v3 1242 n (nI (t - p9))) 1243 n (nI rb)) 1239 0 (nI (n + 1))).1 1231 0 = nI dp from (u1_n (Or.inl (by decide))).trans e5d, u1_s, nI_leI (by omega) (by omega)] at c9; rw [Nat.max_eq_left c9]; exact (u1_n (Or.inl (by decide))).trans e5d
      rw [hd9] at hS
      refine e_vret F hr hlk ⟨_, hS, (u1_n (Or.inl (by decide))).trans u1_s, ?_, ?_, ?_, ?_, ?_, u1_s, fun k hk => hl3 k hk, fun id k h1 h2 => ?_, fun id k h9 => ho3 id k h9⟩ (by decide) (by decide) dX12_enter_150
      · refine (u1_n (Or.inl (by decide))).trans ((u1_n (Or.inl (by decide))).trans ((u1_n (Or.inl (by decide))).trans ((u1_n (Or.inl (by decide))).trans ?_)))
        rw [e3]
        exact (u1_n (Or.inl (by decide))).trans ((u1_n (Or.inl (by decide))).trans u1_s)
      · refine (u1_n (Or.inl (by decide))).trans ((u1_n (Or.inl (by decide))).trans ((u1_n (Or.inl (by decide))).trans ((u1_n (Or.inl (by decide))).trans ?_)))
        rw [e3]
        exact (u1_n (Or.inl (by decide))).trans u1_s
      · exact (u1_n (Or.inl (by decide))).trans ((u1_n (Or.inl (by decide))).trans ((u1_n (Or.inl (by decide))).trans u1_s))
      · exact (u1_n (Or.inl (by decide))).trans ((u1_n (Or.inl (by decide))).trans u1_s)
      · exact (u1_n (Or.inl (by decide))).trans ((u1_n (Or.inl (by decide))).trans ((u1_n (Or.inl (by decide))).trans ((u1_n (Or.inl (by decide))).trans g6)))
      · refine (u1_n (Or.inl (by omega))).trans ((u1_n (Or.inl (by omega))).trans ((u1_n (by by_cases e : id = 1243; exact Or.inr (fun e2 => h2 ⟨by omega, e2⟩); exact Or.inl e)).trans ((u1_n (by by_cases e : id = 1242; exact Or.inr (fun e2 => h2 ⟨by omega, e2⟩); exact Or.inl e)).trans ?_)))
        rw [e3]
        exact (u1_n (Or.inl (by omega))).trans ((u1_n (by by_cases e : id = 1241; exact Or.inr (fun e2 => h2 ⟨by omega, e2⟩); exact Or.inl e)).trans (u1_n (by by_cases e : id = 1240; exact Or.inr (fun e2 => h2 ⟨by omega, e2⟩); exact Or.inl e)))
    · refine r_aload_n F dX12_enter_136 rfl ?_
      refine gi_frames F G hS dX12_enter_137 ?_
      refine r_goto (tgt := 147) F dX12_enter_140 (by decide) ?_
      refine pi_deepest F G hS dX12_enter_147 (fun S hS => ?_)
      have hd9 : (u1 (u1 (u1 v3 1242 n (nI (t - p9))) 1243 n (nI rb)) 1239 0 (nI (n + 1))).1 1239 0 = nI (max dp (n + 1)) := by have c9 := c133; rw [show (u1 (u1 (u1 v3 1242 n (nI (t - p9))) 1243 n (nI rb)) 1239 0 (nI (n + 1))).1 1231 0 = nI dp from (u1_n (Or.inl (by decide))).trans e5d, u1_s, nI_leI (by omega) (by omega)] at c9; rw [Nat.max_eq_right (by omega)]; exact u1_s
      rw [hd9] at hS
      refine e_vret F hr hlk ⟨_, hS, (u1_n (Or.inl (by decide))).trans u1_s, ?_, ?_, ?_, ?_, ?_, u1_s, fun k hk => hl3 k hk, fun id k h1 h2 => ?_, fun id k h9 => ho3 id k h9⟩ (by decide) (by decide) dX12_enter_150
      · refine (u1_n (Or.inl (by decide))).trans ((u1_n (Or.inl (by decide))).trans ((u1_n (Or.inl (by decide))).trans ((u1_n (Or.inl (by decide))).trans ?_)))
        rw [e3]
        exact (u1_n (Or.inl (by decide))).trans ((u1_n (Or.inl (by decide))).trans u1_s)
      · refine (u1_n (Or.inl (by decide))).trans ((u1_n (Or.inl (by decide))).trans ((u1_n (Or.inl (by decide))).trans ((u1_n (Or.inl (by decide))).trans ?_)))
        rw [e3]
        exact (u1_n (Or.inl (by decide))).trans u1_s
      · exact (u1_n (Or.inl (by decide))).trans ((u1_n (Or.inl (by decide))).trans ((u1_n (Or.inl (by decide))).trans u1_s))
      · exact (u1_n (Or.inl (by decide))).trans ((u1_n (Or.inl (by decide))).trans u1_s)
      · exact (u1_n (Or.inl (by decide))).trans ((u1_n (Or.inl (by decide))).trans ((u1_n (Or.inl (by decide))).trans ((u1_n (Or.inl (by decide))).trans g6)))
      · refine (u1_n (Or.inl (by omega))).trans ((u1_n (Or.inl (by omega))).trans ((u1_n (by by_cases e : id = 1243; exact Or.inr (fun e2 => h2 ⟨by omega, e2⟩); exact Or.inl e)).trans ((u1_n (by by_cases e : id = 1242; exact Or.inr (fun e2 => h2 ⟨by omega, e2⟩); exact Or.inl e)).trans ?_)))
        rw [e3]
        exact (u1_n (Or.inl (by omega))).trans ((u1_n (by by_cases e : id = 1241; exact Or.inr (fun e2 => h2 ⟨by omega, e2⟩); exact Or.inl e)).trans (u1_n (by by_cases e : id = 1240; exact Or.inr (fun e2 => h2 ⟨by omega, e2⟩); exact Or.inl e)))
  · have hj8 : j < 8 := by have c9 := c40; rw [nI_leI (by omega) (by omega)] at c9; omega
    refine r_aload_n F dX12_enter_43 rfl ?_
    refine gq_local F G hS dX12_enter_44 ?_
    refine r_bipush (v := 8) F dX12_enter_47 (by decide) ?_
    refine r_aload_n F dX12_enter_49 rfl ?_
    refine gi_frames F G hS dX12_enter_50 ?_
    refine r_imul F dX12_enter_53 ?_
    refine r_iload_n F dX12_enter_54 rfl ?_
    refine r_iadd F dX12_enter_55 ?_
    refine r_iload_n F dX12_enter_56 rfl ?_
    refine r_aload_n F dX12_enter_57 rfl ?_
    refine gq_parameters F G hS dX12_enter_58 ?_
    refine r_iload_n F dX12_enter_61 rfl ?_
    refine al_parameters F G hS (f) rfl hf4 dX12_enter_62 ?_
    rw [gp]
    refine r_icmp_ge (tgt := 80) F dX12_enter_63 (by decide) (fun c63 => ?_) (fun c63 => ?_)
    · have hjp : ¬ j < p9 := by have c9 := c63; rw [nI_leI (by omega) (by omega)] at c9; omega
      refine r_lconst (v := 0) F dX12_enter_80 (by decide) ?_
      rw [show (8 : Int32) * v3.1 1239 0 + nI j = nI (8 * n + j) from by rw [gn, nl8, nI_mul, nI_add]]
      refine as_local F G hS (8 * n + j) rfl (by omega) dX12_enter_81 (fun S hS => ?_)
      refine r_iinc F dX12_enter_82 rfl (by decide) ?_
      refine r_goto (tgt := 37) F dX12_enter_85 (by decide) ?_
      refine zsub (lv' := [(2, .int (nI (j + 1))), (0, .ref g), (1, .int (nI f))]) (by rw [show nI (j + 1) = nI j + Int32.ofInt 1 from (nI_add j 1).symm]; simp [zs1, lv_args, Value.category, show ((1 : Fin 4) : Nat) = 1 from rfl, show ((2 : Fin 4) : Nat) = 2 from rfl, show ((3 : Fin 4) : Nat) = 3 from rfl, show nI 0 = (0 : Int32) from rfl]) ?_
      refine ih (m9 - 1) _ _ (by omega) ⟨j + 1, _, by omega, hS, fun k hk => ?_, fun id k h9 => (u2_n (by by_cases e : id = 1244; exact Or.inr (fun e2 => h9 ⟨e, by omega, by omega⟩); exact Or.inl e)).trans (ho3 id k h9), e3, rfl⟩
      by_cases e : k = j
      · rw [e, if_neg hjp]
        exact u2_s
      · rw [u2_n (Or.inr (by omega))]
        exact hl3 k (by omega)
    · have hjp : j < p9 := by have c9 := c63; rw [nI_leI (by omega) (by omega)] at c9; omega
      refine r_aload_n F dX12_enter_66 rfl ?_
      refine gq_values F G hS dX12_enter_67 ?_
      refine r_aload_n F dX12_enter_70 rfl ?_
      refine gi_top F G hS dX12_enter_71 ?_
      refine r_iload_n F dX12_enter_74 rfl ?_
      refine r_iadd F dX12_enter_75 ?_
      rw [g6, nI_add]
      refine al_values F G hS (t - p9 + j) rfl (by omega) dX12_enter_76 ?_
      refine r_goto (tgt := 81) F dX12_enter_77 (by decide) ?_
      rw [ho3 1245 _ (fun h9 => absurd h9.1 (by decide))]
      rw [show (8 : Int32) * v3.1 1239 0 + nI j = nI (8 * n + j) from by rw [gn, nl8, nI_mul, nI_add]]
      refine as_local F G hS (8 * n + j) rfl (by omega) dX12_enter_81 (fun S hS => ?_)
      refine r_iinc F dX12_enter_82 rfl (by decide) ?_
      refine r_goto (tgt := 37) F dX12_enter_85 (by decide) ?_
      refine zsub (lv' := [(2, .int (nI (j + 1))), (0, .ref g), (1, .int (nI f))]) (by rw [show nI (j + 1) = nI j + Int32.ofInt 1 from (nI_add j 1).symm]; simp [zs1, lv_args, Value.category, show ((1 : Fin 4) : Nat) = 1 from rfl, show ((2 : Fin 4) : Nat) = 2 from rfl, show ((3 : Fin 4) : Nat) = 3 from rfl, show nI 0 = (0 : Int32) from rfl]) ?_
      refine ih (m9 - 1) _ _ (by omega) ⟨j + 1, _, by omega, hS, fun k hk => ?_, fun id k h9 => (u2_n (by by_cases e : id = 1244; exact Or.inr (fun e2 => h9 ⟨e, by omega, by omega⟩); exact Or.inl e)).trans (ho3 id k h9), e3, rfl⟩
      by_cases e : k = j
      · rw [e, if_pos hjp]
        exact u2_s
      · rw [u2_n (Or.inr (by omega))]
        exact hl3 k (by omega)
