/-- a load, the upper byte first -/
def ldR (g : Nat → Int32) (a n : Nat) : Nat → Int64
  | 0 => 0
  | j + 1 => (ldR g a n j <<< ((8 : Int32).toInt64 &&& 63)) ||| (g (a + (n - 1 - j)) &&& 255).toInt64
abbrev badQ (w : Nat) (x y : Int64) : Prop := ((w = 6 ∨ w = 7) ∧ y = 0) ∨ (w = 6 ∧ x = -9223372036854775808 ∧ y = -1)
/-- what the words 3 to 16 reckon -/
def wkd (w : Nat) (x y : Int64) : Int64 := if w = 3 then x + y else if w = 4 then x - y else if w = 5 then x * y else if w = 6 then x / y else if w = 7 then (if y = -1 then 0 else x - x / y * y) else if w = 8 then x &&& y else if w = 9 then x ||| y else if w = 10 then x ^^^ y else if w = 11 then x <<< ((y &&& 63).toInt32.toInt64 &&& 63) else if w = 12 then x >>> ((y &&& 63).toInt32.toInt64 &&& 63) else if w = 13 then (x.toUInt64 >>> ((y &&& 63).toInt32.toInt64.toUInt64 &&& Int64.toUInt64 63)).toInt64 else if w = 14 then (if x = y then 1 else 0) else if w = 15 then (if x < y then 1 else 0) else if x + -9223372036854775808 < y + -9223372036854775808 then 1 else 0
set_option maxRecDepth 100000 in
set_option maxHeartbeats 4000000 in
theorem mm_load {l : Launch} {N0 t0 : Nat} {D : va_G} {cy : Nat → ClassId} {S : zS} {S0 : zS} {g : Nat} {qa : Nat → Nat} {v : zV} (hS : zmR S0 g qa v S) {a n : Nat} (hn : n ≤ 8) (ha : a + n ≤ 1024) : zMl l yX12_load (zws yX12_load cX12_load 6 (some .long)) { frames := 0, cells := 0, slots := 0, locals := 0 } N0 t0 D cy S [.ref g, .int (nI a), .int (nI n)] (fun r S' => r = ldR (v.1 1228) a n n ∧ S' = S) 0 0 := by
  refine zMl.of (cc := cX12_load) (maxL := 6) (ret := (some .long)) (by decide) rfl (Nat.le_of_ble_eq_true rfl) ?_
  intro p e s m args below meth c F G hr hlk hnm
  refine r_lconst (v := 0) F dX12_load_0 (by decide) ?_
  refine r_lstore_n F dX12_load_1 (by decide) ?_
  refine r_iload_n F dX12_load_2 rfl ?_
  refine r_iconst (v := 1) F dX12_load_3 (by decide) ?_
  refine r_isub F dX12_load_4 ?_
  refine r_istore F dX12_load_5 (by decide) ?_
  refine zsub (lv' := [(3, .long 0), (5, .int (nI n - 1)), (0, .ref g), (1, .int (nI a)), (2, .int (nI n))]) (by simp [zs1, zs2, lv_args, Value.category, show ((1 : Fin 4) : Nat) = 1 from rfl, show ((2 : Fin 4) : Nat) = 2 from rfl, show ((3 : Fin 4) : Nat) = 3 from rfl, show nI 0 = (0 : Int32) from rfl]) ?_
  refine z_loop (fun c9 S9 lv => ∃ j, j + c9 = n ∧ S = S9 ∧ lv = [(3, .long (ldR (v.1 1228) a n j)), (5, .int (nI c9 - 1)), (0, .ref g), (1, .int (nI a)), (2, .int (nI n))]) n ?_ ⟨0, Nat.zero_add _, rfl, rfl⟩
  rintro c9 S9 lv ⟨j, hjc, rfl, rfl⟩ ih
  refine r_iload F dX12_load_7 rfl ?_
  refine r_if_lt (tgt := 38) F dX12_load_9 (by decide) (fun cc9 => ?_) (fun cc9 => ?_)
  · have hc0 : c9 = 0 := by
      cases c9 with
      | zero => rfl
      | succ c2 => exact absurd cc9 (by rw [show nI (c2 + 1) - 1 = nI c2 from by rw [nl1, nI_sub (by omega), Nat.add_sub_cancel]]; exact nI_pos (by omega))
    subst hc0
    have hjn : j = n := by omega
    subst hjn
    refine r_lload_n F dX12_load_38 rfl ?_
    exact e_lret F hr hlk ⟨rfl, rfl⟩ (by decide) (by decide) dX12_load_39
  · obtain ⟨c2, ec⟩ : ∃ c2, c9 = c2 + 1 := by
      cases c9 with
      | zero => exact absurd (show nI 0 - 1 < 0 by decide) cc9
      | succ c2 => exact ⟨c2, rfl⟩
    subst ec
    have ei : nI (c2 + 1) - 1 = nI c2 := by rw [nl1, nI_sub (by omega), Nat.add_sub_cancel]
    rw [ei]
    refine r_lload_n F dX12_load_12 rfl ?_
    refine r_bipush (v := 8) F dX12_load_13 (by decide) ?_
    refine r_lshl F dX12_load_15 ?_
    refine r_aload_n F dX12_load_16 rfl ?_
    refine gq_memory F G hS dX12_load_17 ?_
    refine r_iload_n F dX12_load_20 rfl ?_
    refine r_iload F dX12_load_21 rfl ?_
    refine r_iadd F dX12_load_23 ?_
    refine al_memory F G hS (a + c2) (nI_add a c2) (by omega) dX12_load_24 ?_
    refine r_sipush (v := 255) F dX12_load_25 (by decide) ?_
    refine r_iand F dX12_load_28 ?_
    refine r_i2l F dX12_load_29 ?_
    refine r_lor F dX12_load_30 ?_
    refine r_lstore_n F dX12_load_31 (by decide) ?_
    refine r_iinc F dX12_load_32 rfl (by decide) ?_
    refine r_goto (tgt := 7) F dX12_load_35 (by decide) ?_
    refine zsub (lv' := [(3, .long (ldR (v.1 1228) a n (j + 1))), (5, .int (nI c2 - 1)), (0, .ref g), (1, .int (nI a)), (2, .int (nI n))]) (by rw [show nI c2 - 1 = nI c2 + Int32.ofInt (-1) from Int32.sub_eq_add_neg _ 1, show ldR (v.1 1228) a n (j + 1) = (ldR (v.1 1228) a n j <<< ((8 : Int32).toInt64 &&& 63)) ||| (v.1 1228 (a + (n - 1 - j)) &&& 255).toInt64 from rfl, show n - 1 - j = c2 by omega]; simp [zs1, zs2, lv_args, Value.category, show ((1 : Fin 4) : Nat) = 1 from rfl, show ((2 : Fin 4) : Nat) = 2 from rfl, show ((3 : Fin 4) : Nat) = 3 from rfl, show nI 0 = (0 : Int32) from rfl]) ?_
    exact ih c2 _ _ (by omega) ⟨j + 1, by omega, rfl, rfl⟩
set_option maxRecDepth 100000 in
set_option maxHeartbeats 4000000 in
theorem mm_bad {l : Launch} {N0 t0 : Nat} {D : va_G} {cy : Nat → ClassId} {S : zS} {w : Nat} {x y : Int64} (hw : w < 36) : zMi l yX12_isBadQuotient (zws yX12_isBadQuotient cX12_isBadQuotient 5 (some .boolean)) { frames := 0, cells := 0, slots := 0, locals := 0 } N0 t0 D cy S [.int (nI w), .long x, .long y] (fun r S' => zbo r (badQ w x y) ∧ S' = S) 0 0 := by
  refine zMi.of (cc := cX12_isBadQuotient) (maxL := 5) (ret := (some .boolean)) (by decide) rfl (Nat.le_of_ble_eq_true rfl) ?_
  intro p e s m args below meth c F G hr hlk hnm
  have hwi : ∀ a, a < 100 → (nI w = nI a ↔ w = a) := fun a ha => nI_eq (by omega) (by omega)
  refine r_iload_n F dX12_isBadQuotient_0 rfl ?_
  refine r_bipush (v := 6) F dX12_isBadQuotient_1 (by decide) ?_
  refine r_icmp_eq (tgt := 12) F dX12_isBadQuotient_3 (by decide) (fun c3 => ?_) (fun c3 => ?_)
  · refine r_lload_n F dX12_isBadQuotient_12 rfl ?_
    refine r_lconst (v := 0) F dX12_isBadQuotient_13 (by decide) ?_
    refine r_lcmp F dX12_isBadQuotient_14 ?_
    refine r_if_eq (tgt := 40) F dX12_isBadQuotient_15 (by decide) (fun c15 => ?_) (fun c15 => ?_)
    · refine r_iconst (v := 1) F dX12_isBadQuotient_40 (by decide) ?_
      refine r_goto (tgt := 45) F dX12_isBadQuotient_41 (by decide) ?_
      exact e_zret F hr rfl hlk ⟨zbo.y (Or.inl ⟨Or.inl ((hwi 6 (by omega)).mp c3), (lg_cmp_eq _ _).mp c15⟩), rfl⟩ (by decide) (by decide) dX12_isBadQuotient_45
    · refine r_iload_n F dX12_isBadQuotient_18 rfl ?_
      refine r_bipush (v := 6) F dX12_isBadQuotient_19 (by decide) ?_
      refine r_icmp_ne (tgt := 44) F dX12_isBadQuotient_21 (by decide) (fun c21 => ?_) (fun c21 => ?_)
      · refine r_iconst (v := 0) F dX12_isBadQuotient_44 (by decide) ?_
        have hnb : ¬ badQ w x y := fun h9 => by
            rcases h9 with h9 | h9
            · exact c15 ((lg_cmp_eq _ _).mpr h9.2)
            · exact c21 ((hwi 6 (by omega)).mpr h9.1)
        exact e_zret F hr rfl hlk ⟨zbo.n hnb, rfl⟩ (by decide) (by decide) dX12_isBadQuotient_45
      · refine r_lload_n F dX12_isBadQuotient_24 rfl ?_
        refine r_ldcL (v := -9223372036854775808) F (zin kv_X12_329) dX12_isBadQuotient_25 ?_
        refine r_lcmp F dX12_isBadQuotient_28 ?_
        refine r_if_ne (tgt := 44) F dX12_isBadQuotient_29 (by decide) (fun c29 => ?_) (fun c29 => ?_)
        · refine r_iconst (v := 0) F dX12_isBadQuotient_44 (by decide) ?_
          have hnb : ¬ badQ w x y := fun h9 => by
              rcases h9 with h9 | h9
              · exact c15 ((lg_cmp_eq _ _).mpr h9.2)
              · exact c29 ((lg_cmp_eq _ _).mpr h9.2.1)
          exact e_zret F hr rfl hlk ⟨zbo.n hnb, rfl⟩ (by decide) (by decide) dX12_isBadQuotient_45
        · refine r_lload_n F dX12_isBadQuotient_32 rfl ?_
          refine r_ldcL (v := -1) F (zin kv_X12_327) dX12_isBadQuotient_33 ?_
          refine r_lcmp F dX12_isBadQuotient_36 ?_
          refine r_if_ne (tgt := 44) F dX12_isBadQuotient_37 (by decide) (fun c37 => ?_) (fun c37 => ?_)
          · refine r_iconst (v := 0) F dX12_isBadQuotient_44 (by decide) ?_
            have hnb : ¬ badQ w x y := fun h9 => by
                rcases h9 with h9 | h9
                · exact c15 ((lg_cmp_eq _ _).mpr h9.2)
                · exact c37 ((lg_cmp_eq _ _).mpr h9.2.2)
            exact e_zret F hr rfl hlk ⟨zbo.n hnb, rfl⟩ (by decide) (by decide) dX12_isBadQuotient_45
          · refine r_iconst (v := 1) F dX12_isBadQuotient_40 (by decide) ?_
            refine r_goto (tgt := 45) F dX12_isBadQuotient_41 (by decide) ?_
            exact e_zret F hr rfl hlk ⟨zbo.y (Or.inr ⟨(hwi 6 (by omega)).mp c21, (lg_cmp_eq _ _).mp c29, (lg_cmp_eq _ _).mp c37⟩), rfl⟩ (by decide) (by decide) dX12_isBadQuotient_45
  · refine r_iload_n F dX12_isBadQuotient_6 rfl ?_
    refine r_bipush (v := 7) F dX12_isBadQuotient_7 (by decide) ?_
    refine r_icmp_ne (tgt := 18) F dX12_isBadQuotient_9 (by decide) (fun c9 => ?_) (fun c9 => ?_)
    · refine r_iload_n F dX12_isBadQuotient_18 rfl ?_
      refine r_bipush (v := 6) F dX12_isBadQuotient_19 (by decide) ?_
      refine r_icmp_ne (tgt := 44) F dX12_isBadQuotient_21 (by decide) (fun c21 => ?_) (fun c21 => ?_)
      · refine r_iconst (v := 0) F dX12_isBadQuotient_44 (by decide) ?_
        have hnb : ¬ badQ w x y := fun h9 => by
            rcases h9 with h9 | h9
            · rcases h9.1 with h8 | h8
              · exact c3 ((hwi 6 (by omega)).mpr h8)
              · exact c9 ((hwi 7 (by omega)).mpr h8)
            · exact c21 ((hwi 6 (by omega)).mpr h9.1)
        exact e_zret F hr rfl hlk ⟨zbo.n hnb, rfl⟩ (by decide) (by decide) dX12_isBadQuotient_45
      · refine r_lload_n F dX12_isBadQuotient_24 rfl ?_
        refine r_ldcL (v := -9223372036854775808) F (zin kv_X12_329) dX12_isBadQuotient_25 ?_
        refine r_lcmp F dX12_isBadQuotient_28 ?_
        refine r_if_ne (tgt := 44) F dX12_isBadQuotient_29 (by decide) (fun c29 => ?_) (fun c29 => ?_)
        · refine r_iconst (v := 0) F dX12_isBadQuotient_44 (by decide) ?_
          have hnb : ¬ badQ w x y := fun h9 => by
              rcases h9 with h9 | h9
              · rcases h9.1 with h8 | h8
                · exact c3 ((hwi 6 (by omega)).mpr h8)
                · exact c9 ((hwi 7 (by omega)).mpr h8)
              · exact c29 ((lg_cmp_eq _ _).mpr h9.2.1)
          exact e_zret F hr rfl hlk ⟨zbo.n hnb, rfl⟩ (by decide) (by decide) dX12_isBadQuotient_45
        · refine r_lload_n F dX12_isBadQuotient_32 rfl ?_
          refine r_ldcL (v := -1) F (zin kv_X12_327) dX12_isBadQuotient_33 ?_
          refine r_lcmp F dX12_isBadQuotient_36 ?_
          refine r_if_ne (tgt := 44) F dX12_isBadQuotient_37 (by decide) (fun c37 => ?_) (fun c37 => ?_)
          · refine r_iconst (v := 0) F dX12_isBadQuotient_44 (by decide) ?_
            have hnb : ¬ badQ w x y := fun h9 => by
                rcases h9 with h9 | h9
                · rcases h9.1 with h8 | h8
                  · exact c3 ((hwi 6 (by omega)).mpr h8)
                  · exact c9 ((hwi 7 (by omega)).mpr h8)
                · exact c37 ((lg_cmp_eq _ _).mpr h9.2.2)
            exact e_zret F hr rfl hlk ⟨zbo.n hnb, rfl⟩ (by decide) (by decide) dX12_isBadQuotient_45
          · refine r_iconst (v := 1) F dX12_isBadQuotient_40 (by decide) ?_
            refine r_goto (tgt := 45) F dX12_isBadQuotient_41 (by decide) ?_
            exact e_zret F hr rfl hlk ⟨zbo.y (Or.inr ⟨(hwi 6 (by omega)).mp c21, (lg_cmp_eq _ _).mp c29, (lg_cmp_eq _ _).mp c37⟩), rfl⟩ (by decide) (by decide) dX12_isBadQuotient_45
    · refine r_lload_n F dX12_isBadQuotient_12 rfl ?_
      refine r_lconst (v := 0) F dX12_isBadQuotient_13 (by decide) ?_
      refine r_lcmp F dX12_isBadQuotient_14 ?_
      refine r_if_eq (tgt := 40) F dX12_isBadQuotient_15 (by decide) (fun c15 => ?_) (fun c15 => ?_)
      · refine r_iconst (v := 1) F dX12_isBadQuotient_40 (by decide) ?_
        refine r_goto (tgt := 45) F dX12_isBadQuotient_41 (by decide) ?_
        exact e_zret F hr rfl hlk ⟨zbo.y (Or.inl ⟨Or.inr ((hwi 7 (by omega)).mp c9), (lg_cmp_eq _ _).mp c15⟩), rfl⟩ (by decide) (by decide) dX12_isBadQuotient_45
      · refine r_iload_n F dX12_isBadQuotient_18 rfl ?_
        refine r_bipush (v := 6) F dX12_isBadQuotient_19 (by decide) ?_
        refine r_icmp_ne (tgt := 44) F dX12_isBadQuotient_21 (by decide) (fun c21 => ?_) (fun c21 => ?_)
        · refine r_iconst (v := 0) F dX12_isBadQuotient_44 (by decide) ?_
          have hnb : ¬ badQ w x y := fun h9 => by
              rcases h9 with h9 | h9
              · exact c15 ((lg_cmp_eq _ _).mpr h9.2)
              · exact c21 ((hwi 6 (by omega)).mpr h9.1)
          exact e_zret F hr rfl hlk ⟨zbo.n hnb, rfl⟩ (by decide) (by decide) dX12_isBadQuotient_45
        · refine r_lload_n F dX12_isBadQuotient_24 rfl ?_
          refine r_ldcL (v := -9223372036854775808) F (zin kv_X12_329) dX12_isBadQuotient_25 ?_
          refine r_lcmp F dX12_isBadQuotient_28 ?_
          refine r_if_ne (tgt := 44) F dX12_isBadQuotient_29 (by decide) (fun c29 => ?_) (fun c29 => ?_)
          · refine r_iconst (v := 0) F dX12_isBadQuotient_44 (by decide) ?_
            have hnb : ¬ badQ w x y := fun h9 => by
                rcases h9 with h9 | h9
                · exact c15 ((lg_cmp_eq _ _).mpr h9.2)
                · exact c29 ((lg_cmp_eq _ _).mpr h9.2.1)
            exact e_zret F hr rfl hlk ⟨zbo.n hnb, rfl⟩ (by decide) (by decide) dX12_isBadQuotient_45
          · refine r_lload_n F dX12_isBadQuotient_32 rfl ?_
            refine r_ldcL (v := -1) F (zin kv_X12_327) dX12_isBadQuotient_33 ?_
            refine r_lcmp F dX12_isBadQuotient_36 ?_
            refine r_if_ne (tgt := 44) F dX12_isBadQuotient_37 (by decide) (fun c37 => ?_) (fun c37 => ?_)
            · refine r_iconst (v := 0) F dX12_isBadQuotient_44 (by decide) ?_
              have hnb : ¬ badQ w x y := fun h9 => by
                  rcases h9 with h9 | h9
                  · exact c15 ((lg_cmp_eq _ _).mpr h9.2)
                  · exact c37 ((lg_cmp_eq _ _).mpr h9.2.2)
              exact e_zret F hr rfl hlk ⟨zbo.n hnb, rfl⟩ (by decide) (by decide) dX12_isBadQuotient_45
            · refine r_iconst (v := 1) F dX12_isBadQuotient_40 (by decide) ?_
              refine r_goto (tgt := 45) F dX12_isBadQuotient_41 (by decide) ?_
              exact e_zret F hr rfl hlk ⟨zbo.y (Or.inr ⟨(hwi 6 (by omega)).mp c21, (lg_cmp_eq _ _).mp c29, (lg_cmp_eq _ _).mp c37⟩), rfl⟩ (by decide) (by decide) dX12_isBadQuotient_45
set_option maxRecDepth 100000 in
set_option maxHeartbeats 4000000 in
theorem mm_worked {l : Launch} {N0 t0 : Nat} {D : va_G} {cy : Nat → ClassId} {S : zS} {w : Nat} {x y : Int64} (hw3 : 3 ≤ w) (hw : w ≤ 16) (hb : ¬ badQ w x y) : zMl l yX12_worked (zws yX12_worked cX12_worked 5 (some .long)) { frames := 0, cells := 0, slots := 0, locals := 0 } N0 t0 D cy S [.int (nI w), .long x, .long y] (fun r S' => r = wkd w x y ∧ S' = S) 0 0 := by
  refine zMl.of (cc := cX12_worked) (maxL := 5) (ret := (some .long)) (by decide) rfl (Nat.le_of_ble_eq_true rfl) ?_
  intro p e s m args below meth c F G hr hlk hnm
  refine r_iload_n F dX12_worked_0 rfl ?_
  rcases (show (w = 3) ∨ (w = 4) ∨ (w = 5) ∨ (w = 6) ∨ (w = 7) ∨ (w = 8) ∨ (w = 9) ∨ (w = 10) ∨ (w = 11) ∨ (w = 12) ∨ (w = 13) ∨ (w = 14) ∨ (w = 15) ∨ (w = 16) by omega) with w1 | w1 | w1 | w1 | w1 | w1 | w1 | w1 | w1 | w1 | w1 | w1 | w1 | w1
  · refine r_table (off := 67) (tgt := 68) F dX12_worked_1 ((show ∀ w : Nat, w < 17 → (w = 3) → 3 ≤ w → (if (nI w).toInt < 3 ∨ 15 < (nI w).toInt then some (162 : Int) else (#[67, 71, 75, 79, 83, 99, 103, 107, 111, 120, 129, 138, 150] : Array Int)[((nI w).toInt - 3).toNat]?) = some (67 : Int) from by decide) w (by omega) w1 hw3) (by decide) ?_
    refine r_lload_n F dX12_worked_68 rfl ?_
    refine r_lload_n F dX12_worked_69 rfl ?_
    refine r_ladd F dX12_worked_70 ?_
    exact e_lret F hr hlk ⟨by rw [w1]; rfl, rfl⟩ (by decide) (by decide) dX12_worked_71
  · refine r_table (off := 71) (tgt := 72) F dX12_worked_1 ((show ∀ w : Nat, w < 17 → (w = 4) → 3 ≤ w → (if (nI w).toInt < 3 ∨ 15 < (nI w).toInt then some (162 : Int) else (#[67, 71, 75, 79, 83, 99, 103, 107, 111, 120, 129, 138, 150] : Array Int)[((nI w).toInt - 3).toNat]?) = some (71 : Int) from by decide) w (by omega) w1 hw3) (by decide) ?_
    refine r_lload_n F dX12_worked_72 rfl ?_
    refine r_lload_n F dX12_worked_73 rfl ?_
    refine r_lsub F dX12_worked_74 ?_
    exact e_lret F hr hlk ⟨by rw [w1]; rfl, rfl⟩ (by decide) (by decide) dX12_worked_75
  · refine r_table (off := 75) (tgt := 76) F dX12_worked_1 ((show ∀ w : Nat, w < 17 → (w = 5) → 3 ≤ w → (if (nI w).toInt < 3 ∨ 15 < (nI w).toInt then some (162 : Int) else (#[67, 71, 75, 79, 83, 99, 103, 107, 111, 120, 129, 138, 150] : Array Int)[((nI w).toInt - 3).toNat]?) = some (75 : Int) from by decide) w (by omega) w1 hw3) (by decide) ?_
    refine r_lload_n F dX12_worked_76 rfl ?_
    refine r_lload_n F dX12_worked_77 rfl ?_
    refine r_lmul F dX12_worked_78 ?_
    exact e_lret F hr hlk ⟨by rw [w1]; rfl, rfl⟩ (by decide) (by decide) dX12_worked_79
  · refine r_table (off := 79) (tgt := 80) F dX12_worked_1 ((show ∀ w : Nat, w < 17 → (w = 6) → 3 ≤ w → (if (nI w).toInt < 3 ∨ 15 < (nI w).toInt then some (162 : Int) else (#[67, 71, 75, 79, 83, 99, 103, 107, 111, 120, 129, 138, 150] : Array Int)[((nI w).toInt - 3).toNat]?) = some (79 : Int) from by decide) w (by omega) w1 hw3) (by decide) ?_
    refine r_lload_n F dX12_worked_80 rfl ?_
    refine r_lload_n F dX12_worked_81 rfl ?_
    refine r_ldiv F dX12_worked_82 (fun h9 => hb (Or.inl ⟨by omega, h9⟩)) ?_
    exact e_lret F hr hlk ⟨by rw [w1]; rfl, rfl⟩ (by decide) (by decide) dX12_worked_83
  · refine r_table (off := 83) (tgt := 84) F dX12_worked_1 ((show ∀ w : Nat, w < 17 → (w = 7) → 3 ≤ w → (if (nI w).toInt < 3 ∨ 15 < (nI w).toInt then some (162 : Int) else (#[67, 71, 75, 79, 83, 99, 103, 107, 111, 120, 129, 138, 150] : Array Int)[((nI w).toInt - 3).toNat]?) = some (83 : Int) from by decide) w (by omega) w1 hw3) (by decide) ?_
    refine r_lload_n F dX12_worked_84 rfl ?_
    refine r_ldcL (v := -1) F (zin kv_X12_327) dX12_worked_85 ?_
    refine r_lcmp F dX12_worked_88 ?_
    refine r_if_ne (tgt := 96) F dX12_worked_89 (by decide) (fun c89 => ?_) (fun c89 => ?_)
    · refine r_lload_n F dX12_worked_96 rfl ?_
      refine r_lload_n F dX12_worked_97 rfl ?_
      refine r_lrem F dX12_worked_98 (fun h9 => hb (Or.inl ⟨by omega, h9⟩)) ?_
      exact e_lret F hr hlk ⟨by rw [w1]; exact (show wkd 7 x y = _ from if_neg (fun h9 => c89 ((lg_cmp_eq _ _).mpr h9))).symm, rfl⟩ (by decide) (by decide) dX12_worked_99
    · refine r_lconst (v := 0) F dX12_worked_92 (by decide) ?_
      refine r_goto (tgt := 99) F dX12_worked_93 (by decide) ?_
      exact e_lret F hr hlk ⟨by rw [w1]; exact (show wkd 7 x y = _ from if_pos ((lg_cmp_eq _ _).mp c89)).symm, rfl⟩ (by decide) (by decide) dX12_worked_99
  · refine r_table (off := 99) (tgt := 100) F dX12_worked_1 ((show ∀ w : Nat, w < 17 → (w = 8) → 3 ≤ w → (if (nI w).toInt < 3 ∨ 15 < (nI w).toInt then some (162 : Int) else (#[67, 71, 75, 79, 83, 99, 103, 107, 111, 120, 129, 138, 150] : Array Int)[((nI w).toInt - 3).toNat]?) = some (99 : Int) from by decide) w (by omega) w1 hw3) (by decide) ?_
    refine r_lload_n F dX12_worked_100 rfl ?_
    refine r_lload_n F dX12_worked_101 rfl ?_
    refine r_land F dX12_worked_102 ?_
    exact e_lret F hr hlk ⟨by rw [w1]; rfl, rfl⟩ (by decide) (by decide) dX12_worked_103
  · refine r_table (off := 103) (tgt := 104) F dX12_worked_1 ((show ∀ w : Nat, w < 17 → (w = 9) → 3 ≤ w → (if (nI w).toInt < 3 ∨ 15 < (nI w).toInt then some (162 : Int) else (#[67, 71, 75, 79, 83, 99, 103, 107, 111, 120, 129, 138, 150] : Array Int)[((nI w).toInt - 3).toNat]?) = some (103 : Int) from by decide) w (by omega) w1 hw3) (by decide) ?_
    refine r_lload_n F dX12_worked_104 rfl ?_
    refine r_lload_n F dX12_worked_105 rfl ?_
    refine r_lor F dX12_worked_106 ?_
    exact e_lret F hr hlk ⟨by rw [w1]; rfl, rfl⟩ (by decide) (by decide) dX12_worked_107
  · refine r_table (off := 107) (tgt := 108) F dX12_worked_1 ((show ∀ w : Nat, w < 17 → (w = 10) → 3 ≤ w → (if (nI w).toInt < 3 ∨ 15 < (nI w).toInt then some (162 : Int) else (#[67, 71, 75, 79, 83, 99, 103, 107, 111, 120, 129, 138, 150] : Array Int)[((nI w).toInt - 3).toNat]?) = some (107 : Int) from by decide) w (by omega) w1 hw3) (by decide) ?_
    refine r_lload_n F dX12_worked_108 rfl ?_
    refine r_lload_n F dX12_worked_109 rfl ?_
    refine r_lxor F dX12_worked_110 ?_
    exact e_lret F hr hlk ⟨by rw [w1]; rfl, rfl⟩ (by decide) (by decide) dX12_worked_111
  · refine r_table (off := 111) (tgt := 112) F dX12_worked_1 ((show ∀ w : Nat, w < 17 → (w = 11) → 3 ≤ w → (if (nI w).toInt < 3 ∨ 15 < (nI w).toInt then some (162 : Int) else (#[67, 71, 75, 79, 83, 99, 103, 107, 111, 120, 129, 138, 150] : Array Int)[((nI w).toInt - 3).toNat]?) = some (111 : Int) from by decide) w (by omega) w1 hw3) (by decide) ?_
    refine r_lload_n F dX12_worked_112 rfl ?_
    refine r_lload_n F dX12_worked_113 rfl ?_
    refine r_ldcL (v := 63) F (zin kv_X12_241) dX12_worked_114 ?_
    refine r_land F dX12_worked_117 ?_
    refine r_l2i F dX12_worked_118 ?_
    refine r_lshl F dX12_worked_119 ?_
    exact e_lret F hr hlk ⟨by rw [w1]; rfl, rfl⟩ (by decide) (by decide) dX12_worked_120
  · refine r_table (off := 120) (tgt := 121) F dX12_worked_1 ((show ∀ w : Nat, w < 17 → (w = 12) → 3 ≤ w → (if (nI w).toInt < 3 ∨ 15 < (nI w).toInt then some (162 : Int) else (#[67, 71, 75, 79, 83, 99, 103, 107, 111, 120, 129, 138, 150] : Array Int)[((nI w).toInt - 3).toNat]?) = some (120 : Int) from by decide) w (by omega) w1 hw3) (by decide) ?_
    refine r_lload_n F dX12_worked_121 rfl ?_
    refine r_lload_n F dX12_worked_122 rfl ?_
    refine r_ldcL (v := 63) F (zin kv_X12_241) dX12_worked_123 ?_
    refine r_land F dX12_worked_126 ?_
    refine r_l2i F dX12_worked_127 ?_
    refine r_lshr F dX12_worked_128 ?_
    exact e_lret F hr hlk ⟨by rw [w1]; rfl, rfl⟩ (by decide) (by decide) dX12_worked_129
  · refine r_table (off := 129) (tgt := 130) F dX12_worked_1 ((show ∀ w : Nat, w < 17 → (w = 13) → 3 ≤ w → (if (nI w).toInt < 3 ∨ 15 < (nI w).toInt then some (162 : Int) else (#[67, 71, 75, 79, 83, 99, 103, 107, 111, 120, 129, 138, 150] : Array Int)[((nI w).toInt - 3).toNat]?) = some (129 : Int) from by decide) w (by omega) w1 hw3) (by decide) ?_
    refine r_lload_n F dX12_worked_130 rfl ?_
    refine r_lload_n F dX12_worked_131 rfl ?_
    refine r_ldcL (v := 63) F (zin kv_X12_241) dX12_worked_132 ?_
    refine r_land F dX12_worked_135 ?_
    refine r_l2i F dX12_worked_136 ?_
    refine r_lushr F dX12_worked_137 ?_
    exact e_lret F hr hlk ⟨by rw [w1]; rfl, rfl⟩ (by decide) (by decide) dX12_worked_138
  · refine r_table (off := 138) (tgt := 139) F dX12_worked_1 ((show ∀ w : Nat, w < 17 → (w = 14) → 3 ≤ w → (if (nI w).toInt < 3 ∨ 15 < (nI w).toInt then some (162 : Int) else (#[67, 71, 75, 79, 83, 99, 103, 107, 111, 120, 129, 138, 150] : Array Int)[((nI w).toInt - 3).toNat]?) = some (138 : Int) from by decide) w (by omega) w1 hw3) (by decide) ?_
    refine r_lload_n F dX12_worked_139 rfl ?_
    refine r_lload_n F dX12_worked_140 rfl ?_
    refine r_lcmp F dX12_worked_141 ?_
    refine r_if_ne (tgt := 149) F dX12_worked_142 (by decide) (fun c142 => ?_) (fun c142 => ?_)
    · refine r_lconst (v := 0) F dX12_worked_149 (by decide) ?_
      exact e_lret F hr hlk ⟨by rw [w1]; exact (show wkd 14 x y = _ from if_neg (fun h9 => c142 ((lg_cmp_eq _ _).mpr h9))).symm, rfl⟩ (by decide) (by decide) dX12_worked_150
    · refine r_lconst (v := 1) F dX12_worked_145 (by decide) ?_
      refine r_goto (tgt := 150) F dX12_worked_146 (by decide) ?_
      exact e_lret F hr hlk ⟨by rw [w1]; exact (show wkd 14 x y = _ from if_pos ((lg_cmp_eq _ _).mp c142)).symm, rfl⟩ (by decide) (by decide) dX12_worked_150
  · refine r_table (off := 150) (tgt := 151) F dX12_worked_1 ((show ∀ w : Nat, w < 17 → (w = 15) → 3 ≤ w → (if (nI w).toInt < 3 ∨ 15 < (nI w).toInt then some (162 : Int) else (#[67, 71, 75, 79, 83, 99, 103, 107, 111, 120, 129, 138, 150] : Array Int)[((nI w).toInt - 3).toNat]?) = some (150 : Int) from by decide) w (by omega) w1 hw3) (by decide) ?_
    refine r_lload_n F dX12_worked_151 rfl ?_
    refine r_lload_n F dX12_worked_152 rfl ?_
    refine r_lcmp F dX12_worked_153 ?_
    refine r_if_ge (tgt := 161) F dX12_worked_154 (by decide) (fun c154 => ?_) (fun c154 => ?_)
    · refine r_lconst (v := 0) F dX12_worked_161 (by decide) ?_
      exact e_lret F hr hlk ⟨by rw [w1]; exact (show wkd 15 x y = _ from if_neg (fun h9 => (Int64.not_lt.mpr ((lg_cmp_ge _ _).mp c154)) h9)).symm, rfl⟩ (by decide) (by decide) dX12_worked_162
    · refine r_lconst (v := 1) F dX12_worked_157 (by decide) ?_
      refine r_goto (tgt := 162) F dX12_worked_158 (by decide) ?_
      exact e_lret F hr hlk ⟨by rw [w1]; exact (show wkd 15 x y = _ from if_pos (Decidable.byContradiction (fun h9 => c154 ((lg_cmp_ge _ _).mpr (Int64.not_lt.mp h9))))).symm, rfl⟩ (by decide) (by decide) dX12_worked_162
  · refine r_table (off := 162) (tgt := 163) F dX12_worked_1 ((show ∀ w : Nat, w < 17 → (w = 16) → 3 ≤ w → (if (nI w).toInt < 3 ∨ 15 < (nI w).toInt then some (162 : Int) else (#[67, 71, 75, 79, 83, 99, 103, 107, 111, 120, 129, 138, 150] : Array Int)[((nI w).toInt - 3).toNat]?) = some (162 : Int) from by decide) w (by omega) w1 hw3) (by decide) ?_
    refine r_lload_n F dX12_worked_163 rfl ?_
    refine r_ldcL (v := -9223372036854775808) F (zin kv_X12_329) dX12_worked_164 ?_
    refine r_ladd F dX12_worked_167 ?_
    refine r_lload_n F dX12_worked_168 rfl ?_
    refine r_ldcL (v := -9223372036854775808) F (zin kv_X12_329) dX12_worked_169 ?_
    refine r_ladd F dX12_worked_172 ?_
    refine r_lcmp F dX12_worked_173 ?_
    refine r_if_ge (tgt := 181) F dX12_worked_174 (by decide) (fun c174 => ?_) (fun c174 => ?_)
    · refine r_lconst (v := 0) F dX12_worked_181 (by decide) ?_
      have hlt : ¬ (x + -9223372036854775808 < y + -9223372036854775808) := fun h9 => (Int64.not_lt.mpr ((lg_cmp_ge _ _).mp c174)) h9
      exact e_lret F hr hlk ⟨by rw [w1]; unfold wkd; rw [if_neg (by decide), if_neg (by decide), if_neg (by decide), if_neg (by decide), if_neg (by decide), if_neg (by decide), if_neg (by decide), if_neg (by decide), if_neg (by decide), if_neg (by decide), if_neg (by decide), if_neg (by decide), if_neg (by decide), if_neg hlt], rfl⟩ (by decide) (by decide) dX12_worked_182
    · refine r_lconst (v := 1) F dX12_worked_177 (by decide) ?_
      refine r_goto (tgt := 182) F dX12_worked_178 (by decide) ?_
      have hlt : x + -9223372036854775808 < y + -9223372036854775808 := Decidable.byContradiction (fun h9 => c174 ((lg_cmp_ge _ _).mpr (Int64.not_lt.mp h9)))
      exact e_lret F hr hlk ⟨by rw [w1]; unfold wkd; rw [if_neg (by decide), if_neg (by decide), if_neg (by decide), if_neg (by decide), if_neg (by decide), if_neg (by decide), if_neg (by decide), if_neg (by decide), if_neg (by decide), if_neg (by decide), if_neg (by decide), if_neg (by decide), if_neg (by decide), if_pos hlt], rfl⟩ (by decide) (by decide) dX12_worked_182
