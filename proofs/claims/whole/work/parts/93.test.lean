/-- what a symbol that is there may define -/
def vD (v : zV) : Prop := ∀ y, y < 96 → y % 16 < cn v 1204 (y / 16) → (v.1 1215 y = 0 → cn v 1218 y ≤ 9) ∧ (v.1 1217 y = -1 ∨ ∃ d, v.1 1217 y = nI d ∧ (v.1 1215 y = 0 → d < cn v 1202 (y / 16)) ∧ (¬ v.1 1215 y = 0 → d < cn v 1203 (y / 16)))
theorem vD.d {v : zV} (hD : vD v) (hv : vRg v) {y : Nat} (hy : y < 96) (ht : y % 16 < cn v 1204 (y / 16)) (hn : ¬ v.1 1217 y = -1) : v.1 1217 y = nI (cn v 1217 y) ∧ cn v 1217 y < 8 ∧ (v.1 1215 y = 0 → cn v 1217 y < cn v 1202 (y / 16)) ∧ (¬ v.1 1215 y = 0 → cn v 1217 y < cn v 1203 (y / 16)) := by
  rcases (hD y hy ht).2 with h | ⟨d, h1, h2, h3⟩
  · exact absurd h hn
  · have b1 := (rg_1202 hv (k := y / 16) (by omega)).2
    have b2 := (rg_1203 hv (k := y / 16) (by omega)).2
    have hd : d < 8 := by
      by_cases e : v.1 1215 y = 0
      · have := h2 e; omega
      · have := h3 e; omega
    have e := cn_z h1 (by omega)
    rw [e]
    exact ⟨h1, hd, h2, h3⟩
theorem mng_t {v : zV} {y z : Nat} (hy : y < 96) (ht : y % 16 < cn v 1204 (y / 16)) (h : mng v y = some z) : z < 96 ∧ z % 16 < cn v 1204 (z / 16) ∧ ¬ v.1 1217 z = -1 := by
  unfold mng at h
  by_cases e : v.1 1216 y = 2
  · rw [if_pos e] at h
    by_cases e2 : v.1 1217 y = -1
    · rw [if_pos e2] at h; cases h
    · rw [if_neg e2] at h; cases h; exact ⟨hy, ht, e2⟩
  · rw [if_neg e] at h
    cases hs : fnd (ySt v (v.1 1214 y)) 96 with
    | some x =>
      rw [hs] at h
      cases h
      have h9 := fnd_iff.mp hs
      have h8 := h9.2.1
      unfold ySt at h8
      simp at h8
      exact ⟨h9.1, h8.1.1.1, h8.2⟩
    | none =>
      rw [hs] at h
      have h9 := fnd_iff.mp h
      have h8 := h9.2.1
      unfold yWk at h8
      simp at h8
      exact ⟨h9.1, h8.1.1.1.1, h8.2⟩
/-- the function that a symbol means -/
def fO (v : zV) (y : Nat) : Option Nat := (mng v y).map (fun z => 8 * (z / 16) + cn v 1217 z)
/-- the address that a symbol means -/
def aO (v : zV) (y : Nat) : Nat := match mng v y with
  | none => 0
  | some z => rs (aS v (4 * (z / 16) + cn v 1217 z)) (cn v 1212 (4 * (z / 16) + cn v 1217 z)) + cn v 1218 z
/-- the signature that a symbol's definition, or its number, says -/
def sg (v : zV) (y : Nat) : Nat := if v.1 1217 y = -1 then cn v 1218 y else sh v (8 * (y / 16) + cn v 1217 y)
theorem enc_lt {x : Option Nat} (hx : ∀ z, x = some z → z < 2 ^ 31) : enc x < 0 ↔ x = none := by
  cases x with
  | none => exact ⟨fun _ => rfl, fun _ => by decide⟩
  | some z => exact ⟨fun h => absurd h (nI_pos (hx z rfl)), fun h => by cases h⟩
set_option maxRecDepth 100000 in
set_option maxHeartbeats 4000000 in
theorem mm_signature {l : Launch} {N0 t0 : Nat} {D : va_G} {cy : Nat → ClassId} {S : zS} {S0 : zS} {g : Nat} {qa : Nat → Nat} {v : zV} (hS : zmR S0 g qa v S) {y : Nat} (hv : vRg v) (hA : vA v) (hD : vD v) (hy : y < 96) (ht : y % 16 < cn v 1204 (y / 16)) : zMi l yX12_signature (zws yX12_signature cX12_signature 2 (some .int)) { frames := 1, cells := 0, slots := 0, locals := 22 } N0 t0 D cy S [.ref g, .int (nI y)] (fun r S' => r = nI (sg v y) ∧ S' = S) 0 0 := by
  refine zMi.of (cc := cX12_signature) (maxL := 2) (ret := (some .int)) (by decide) rfl (Nat.le_of_ble_eq_true rfl) ?_
  intro p e s m args below meth c F G hr hlk hnm
  refine r_aload_n F dX12_signature_0 rfl ?_
  refine gq_defines F G hS dX12_signature_1 ?_
  refine r_iload_n F dX12_signature_4 rfl ?_
  refine al_defines F G hS (y) rfl hy dX12_signature_5 ?_
  refine r_iconst (v := -1) F dX12_signature_6 (by decide) ?_
  refine r_icmp_ne (tgt := 19) F dX12_signature_7 (by decide) (fun c7 => ?_) (fun c7 => ?_)
  · refine r_aload_n F dX12_signature_19 rfl ?_
    refine r_bipush (v := 8) F dX12_signature_20 (by decide) ?_
    refine r_iload_n F dX12_signature_22 rfl ?_
    refine r_bipush (v := 16) F dX12_signature_23 (by decide) ?_
    refine r_idiv F dX12_signature_25 (by decide) ?_
    refine r_imul F dX12_signature_26 ?_
    refine r_aload_n F dX12_signature_27 rfl ?_
    refine gq_defines F G hS dX12_signature_28 ?_
    refine r_iload_n F dX12_signature_31 rfl ?_
    refine al_defines F G hS (y) rfl hy dX12_signature_32 ?_
    refine r_iadd F dX12_signature_33 ?_
    obtain ⟨hd1, hd2, -⟩ := hD.d hv hy ht c7
    rw [show nI y / 16 = nI (y / 16) by rw [nl16]; exact nI_div (by omega) (by omega), hd1, nl8, nI_mul, nI_add]
    refine c_Vi (ci := 12) F G (mm_shape hS hv (f := 8 * (y / 16) + cn v 1217 y) (by omega)) (cwV 1 F.2.2.2.2 (zgV km_X12_156 ki_X12_shape ke_X12_X12_shape kn_X12 ko_X12_shape) rfl rfl rfl ⟨rfl, hd_yX12_shape⟩ ⟨Nat.le_of_ble_eq_true rfl, Nat.le_of_ble_eq_true rfl⟩) rfl (by decide) hS.al rfl rfl (Nat.le_of_ble_eq_true rfl) dX12_signature_34 ⟨Nat.le_of_ble_eq_true rfl, Nat.le_of_ble_eq_true rfl⟩ (fun r34 S34 h34 => ?_)
    obtain ⟨a34, e34⟩ := h34
    have hs34 := e34.symm
    subst hs34
    exact e_iret F hr hlk ⟨by unfold sg; rw [if_neg c7]; exact a34, rfl⟩ (by decide) (by decide) dX12_signature_37
  · refine r_aload_n F dX12_signature_10 rfl ?_
    refine gq_offset F G hS dX12_signature_11 ?_
    refine r_iload_n F dX12_signature_14 rfl ?_
    refine al_offset F G hS (y) rfl hy dX12_signature_15 ?_
    refine r_goto (tgt := 37) F dX12_signature_16 (by decide) ?_
    exact e_iret F hr hlk ⟨by unfold sg; rw [if_pos c7]; exact (rg_1218 hv hy).1, rfl⟩ (by decide) (by decide) dX12_signature_37
set_option maxRecDepth 100000 in
set_option maxHeartbeats 4000000 in
theorem mm_functionOf {l : Launch} {N0 t0 : Nat} {D : va_G} {cy : Nat → ClassId} {S : zS} {S0 : zS} {g : Nat} {qa : Nat → Nat} {v : zV} (hS : zmR S0 g qa v S) {y : Nat} (hv : vRg v) (hA : vA v) (hD : vD v) (hy : y < 96) (ht : y % 16 < cn v 1204 (y / 16)) : zMi l yX12_functionOf (zws yX12_functionOf cX12_functionOf 3 (some .int)) { frames := 1, cells := 0, slots := 0, locals := 24 } N0 t0 D cy S [.ref g, .int (nI y)] (fun r S' => r = enc (fO v y) ∧ S' = S) 0 0 := by
  refine zMi.of (cc := cX12_functionOf) (maxL := 3) (ret := (some .int)) (by decide) rfl (Nat.le_of_ble_eq_true rfl) ?_
  intro p e s m args below meth c F G hr hlk hnm
  refine r_aload_n F dX12_functionOf_0 rfl ?_
  refine r_iload_n F dX12_functionOf_1 rfl ?_
  refine c_Vi (ci := 12) F G (mm_meaning hS hv hA hy) (cwV 1 F.2.2.2.2 (zgV km_X12_145 ki_X12_meaning ke_X12_X12_meaning kn_X12 ko_X12_meaning) rfl rfl rfl ⟨rfl, hd_yX12_meaning⟩ ⟨Nat.le_of_ble_eq_true rfl, Nat.le_of_ble_eq_true rfl⟩) rfl (by decide) hS.al rfl rfl (Nat.le_of_ble_eq_true rfl) dX12_functionOf_2 ⟨Nat.le_of_ble_eq_true rfl, Nat.le_of_ble_eq_true rfl⟩ (fun r2 S2 h2 => ?_)
  obtain ⟨a2, e2⟩ := h2
  have hs2 := e2.symm
  subst hs2
  subst a2
  refine r_istore_n F dX12_functionOf_5 (by decide) ?_
  refine r_iload_n F dX12_functionOf_6 rfl ?_
  have hlt := enc_lt (x := mng v y) (fun z hz => by have := (mng_t hy ht hz).1; omega)
  refine r_if_ge (tgt := 14) F dX12_functionOf_7 (by decide) (fun c7 => ?_) (fun c7 => ?_)
  · obtain ⟨z, hz⟩ : ∃ z, mng v y = some z := by
      cases hz : mng v y with
      | some z => exact ⟨z, rfl⟩
      | none => rw [hz] at c7; exact absurd c7 (by decide)
    obtain ⟨hz1, hz2, hz3⟩ := mng_t hy ht hz
    obtain ⟨hd1, hd2, hd3, hd4⟩ := hD.d hv hz1 hz2 hz3
    rw [hz]
    show zW p l e _ s m args below meth c _ N0 D cy _ _ _ S (zs1 _ _ (.int (nI z))) _ _
    refine r_bipush (v := 8) F dX12_functionOf_14 (by decide) ?_
    refine r_iload_n F dX12_functionOf_16 rfl ?_
    refine r_bipush (v := 16) F dX12_functionOf_17 (by decide) ?_
    refine r_idiv F dX12_functionOf_19 (by decide) ?_
    refine r_imul F dX12_functionOf_20 ?_
    refine r_aload_n F dX12_functionOf_21 rfl ?_
    refine gq_defines F G hS dX12_functionOf_22 ?_
    refine r_iload_n F dX12_functionOf_25 rfl ?_
    refine al_defines F G hS (z) rfl hz1 dX12_functionOf_26 ?_
    refine r_iadd F dX12_functionOf_27 ?_
    exact e_iret F hr hlk ⟨by unfold fO; rw [hz]; show (8 : Int32) * (nI z / 16) + v.1 1217 z = nI (8 * (z / 16) + cn v 1217 z); rw [hd1, show nI z / 16 = nI (z / 16) by rw [nl16]; exact nI_div (by omega) (by omega), nl8, nI_mul, nI_add], rfl⟩ (by decide) (by decide) dX12_functionOf_28
  · have hz : mng v y = none := hlt.mp (Int32.not_le.mp c7)
    refine r_iconst (v := -1) F dX12_functionOf_10 (by decide) ?_
    refine r_goto (tgt := 28) F dX12_functionOf_11 (by decide) ?_
    exact e_iret F hr hlk ⟨by unfold fO; rw [hz]; rfl, rfl⟩ (by decide) (by decide) dX12_functionOf_28
set_option maxRecDepth 100000 in
set_option maxHeartbeats 4000000 in
theorem mm_addressOf {l : Launch} {N0 t0 : Nat} {D : va_G} {cy : Nat → ClassId} {S : zS} {S0 : zS} {g : Nat} {qa : Nat → Nat} {v : zV} (hS : zmR S0 g qa v S) {y : Nat} (hv : vRg v) (hA : vA v) (hD : vD v) (hy : y < 96) (ht : y % 16 < cn v 1204 (y / 16)) (hkd : ∀ z, mng v y = some z → ¬ v.1 1215 z = 0) : zMi l yX12_addressOf (zws yX12_addressOf cX12_addressOf 3 (some .int)) { frames := 2, cells := 0, slots := 0, locals := 45 } N0 t0 D cy S [.ref g, .int (nI y)] (fun r S' => r = nI (aO v y) ∧ S' = S) 0 0 := by
  refine zMi.of (cc := cX12_addressOf) (maxL := 3) (ret := (some .int)) (by decide) rfl (Nat.le_of_ble_eq_true rfl) ?_
  intro p e s m args below meth c F G hr hlk hnm
  refine r_aload_n F dX12_addressOf_0 rfl ?_
  refine r_iload_n F dX12_addressOf_1 rfl ?_
  refine c_Vi (ci := 12) F G (mm_meaning hS hv hA hy) (cwV 1 F.2.2.2.2 (zgV km_X12_145 ki_X12_meaning ke_X12_X12_meaning kn_X12 ko_X12_meaning) rfl rfl rfl ⟨rfl, hd_yX12_meaning⟩ ⟨Nat.le_of_ble_eq_true rfl, Nat.le_of_ble_eq_true rfl⟩) rfl (by decide) hS.al rfl rfl (Nat.le_of_ble_eq_true rfl) dX12_addressOf_2 ⟨Nat.le_of_ble_eq_true rfl, Nat.le_of_ble_eq_true rfl⟩ (fun r2 S2 h2 => ?_)
  obtain ⟨a2, e2⟩ := h2
  have hs2 := e2.symm
  subst hs2
  subst a2
  refine r_istore_n F dX12_addressOf_5 (by decide) ?_
  refine r_iload_n F dX12_addressOf_6 rfl ?_
  have hlt := enc_lt (x := mng v y) (fun z hz => by have := (mng_t hy ht hz).1; omega)
  refine r_if_ge (tgt := 14) F dX12_addressOf_7 (by decide) (fun c7 => ?_) (fun c7 => ?_)
  · obtain ⟨z, hz⟩ : ∃ z, mng v y = some z := by
      cases hz : mng v y with
      | some z => exact ⟨z, rfl⟩
      | none => rw [hz] at c7; exact absurd c7 (by decide)
    obtain ⟨hz1, hz2, hz3⟩ := mng_t hy ht hz
    obtain ⟨hd1, hd2, hd3, hd4⟩ := hD.d hv hz1 hz2 hz3
    rw [hz]
    show zW p l e _ s m args below meth c _ N0 D cy _ _ _ S (zs1 _ _ (.int (nI z))) _ _
    have hg4 : cn v 1217 z < 4 := by have := hd4 (hkd z hz); have := (rg_1203 hv (k := z / 16) (by omega)).2; omega
    refine r_aload_n F dX12_addressOf_14 rfl ?_
    refine r_iconst (v := 4) F dX12_addressOf_15 (by decide) ?_
    refine r_iload_n F dX12_addressOf_16 rfl ?_
    refine r_bipush (v := 16) F dX12_addressOf_17 (by decide) ?_
    refine r_idiv F dX12_addressOf_19 (by decide) ?_
    refine r_imul F dX12_addressOf_20 ?_
    refine r_aload_n F dX12_addressOf_21 rfl ?_
    refine gq_defines F G hS dX12_addressOf_22 ?_
    refine r_iload_n F dX12_addressOf_25 rfl ?_
    refine al_defines F G hS (z) rfl hz1 dX12_addressOf_26 ?_
    refine r_iadd F dX12_addressOf_27 ?_
    rw [show nI z / 16 = nI (z / 16) by rw [nl16]; exact nI_div (by omega) (by omega), hd1, nl4, nI_mul, nI_add]
    refine c_Vi (ci := 12) F G (mm_addressOfSegment hS (q := 4 * (z / 16) + cn v 1217 z) (by omega) hv) (cwV 1 F.2.2.2.2 (zgV km_X12_149 ki_X12_addressOfSegment ke_X12_X12_addressOfSegment kn_X12 ko_X12_addressOfSegment) rfl rfl rfl ⟨rfl, hd_yX12_addressOfSegment⟩ ⟨Nat.le_of_ble_eq_true rfl, Nat.le_of_ble_eq_true rfl⟩) rfl (by decide) hS.al rfl rfl (Nat.le_of_ble_eq_true rfl) dX12_addressOf_28 ⟨Nat.le_of_ble_eq_true rfl, Nat.le_of_ble_eq_true rfl⟩ (fun r28 S28 h28 => ?_)
    obtain ⟨a28, e28⟩ := h28
    have hs28 := e28.symm
    subst hs28
    subst a28
    refine r_aload_n F dX12_addressOf_31 rfl ?_
    refine gq_offset F G hS dX12_addressOf_32 ?_
    refine r_iload_n F dX12_addressOf_35 rfl ?_
    refine al_offset F G hS (z) rfl hz1 dX12_addressOf_36 ?_
    refine r_iadd F dX12_addressOf_37 ?_
    exact e_iret F hr hlk ⟨by unfold aO; rw [hz]; rw [(rg_1218 hv hz1).1, nI_add], rfl⟩ (by decide) (by decide) dX12_addressOf_38
  · have hz : mng v y = none := hlt.mp (Int32.not_le.mp c7)
    refine r_iconst (v := 0) F dX12_addressOf_10 (by decide) ?_
    refine r_goto (tgt := 38) F dX12_addressOf_11 (by decide) ?_
    exact e_iret F hr hlk ⟨by unfold aO; rw [hz]; rfl, rfl⟩ (by decide) (by decide) dX12_addressOf_38
/-- a strong definition of a name that has one before -/
def sD (v : zV) (y : Nat) : Prop := v.1 1216 y = 0 ∧ ¬ v.1 1217 y = -1 ∧ ¬ fnd (ySt v (v.1 1214 y)) y = none
/-- there, not local, of that name -/
def yFi (v : zV) (nm : Int32) (z : Nat) : Bool := decide (z % 16 < cn v 1204 (z / 16)) && !decide (v.1 1216 z = 2) && decide (v.1 1214 z = nm)
theorem yFi_t {v : zV} {nm : Int32} {z : Nat} (h1 : z % 16 < cn v 1204 (z / 16)) (h2 : ¬ v.1 1216 z = 2) (h3 : v.1 1214 z = nm) : yFi v nm z = true := by
  unfold yFi
  rw [decide_eq_true h1, decide_eq_false h2, decide_eq_true h3]
  rfl
theorem yFi_0 {v : zV} {nm : Int32} {z : Nat} (h : ¬ z % 16 < cn v 1204 (z / 16) ∨ v.1 1216 z = 2 ∨ ¬ v.1 1214 z = nm) : yFi v nm z = false := by
  unfold yFi
  rcases h with h | h | h
  · rw [decide_eq_false h]; simp
  · rw [decide_eq_true h]; simp
  · rw [decide_eq_false h]; simp
/-- a symbol whose name's first one is of another kind -/
def oK (v : zV) (y : Nat) : Prop := ¬ v.1 1216 y = 2 ∧ ∃ z, fnd (yFi v (v.1 1214 y)) y = some z ∧ ¬ v.1 1215 z = v.1 1215 y
/-- a symbol that needs a definition and has none -/
def mS (v : zV) (y : Nat) : Prop := v.1 1217 y = -1 ∧ (v.1 1216 y = 2 ∨ (v.1 1216 y = 0 ∧ mng v y = none))
set_option maxRecDepth 100000 in
set_option maxHeartbeats 4000000 in
theorem mm_isStrongDouble {l : Launch} {N0 t0 : Nat} {D : va_G} {cy : Nat → ClassId} {S : zS} {S0 : zS} {g : Nat} {qa : Nat → Nat} {v : zV} (hS : zmR S0 g qa v S) {y : Nat} (hv : vRg v) (hy : y < 96) : zMi l yX12_isStrongDouble (zws yX12_isStrongDouble cX12_isStrongDouble 3 (some .boolean)) { frames := 0, cells := 0, slots := 0, locals := 0 } N0 t0 D cy S [.ref g, .int (nI y)] (fun r S' => zbo r (sD v y) ∧ S' = S) 0 0 := by
  refine zMi.of (cc := cX12_isStrongDouble) (maxL := 3) (ret := (some .boolean)) (by decide) rfl (Nat.le_of_ble_eq_true rfl) ?_
  intro p e s m args below meth c F G hr hlk hnm
  refine r_aload_n F dX12_isStrongDouble_0 rfl ?_
  refine gq_binding F G hS dX12_isStrongDouble_1 ?_
  refine r_iload_n F dX12_isStrongDouble_4 rfl ?_
  refine al_binding F G hS (y) rfl hy dX12_isStrongDouble_5 ?_
  refine r_if_ne (tgt := 19) F dX12_isStrongDouble_6 (by decide) (fun c6 => ?_) (fun c6 => ?_)
  · refine r_iconst (v := 0) F dX12_isStrongDouble_19 (by decide) ?_
    exact e_zret F hr rfl hlk ⟨zbo.n (fun h => c6 h.1), rfl⟩ (by decide) (by decide) dX12_isStrongDouble_20
  · refine r_aload_n F dX12_isStrongDouble_9 rfl ?_
    refine gq_defines F G hS dX12_isStrongDouble_10 ?_
    refine r_iload_n F dX12_isStrongDouble_13 rfl ?_
    refine al_defines F G hS (y) rfl hy dX12_isStrongDouble_14 ?_
    refine r_iconst (v := -1) F dX12_isStrongDouble_15 (by decide) ?_
    refine r_icmp_ne (tgt := 21) F dX12_isStrongDouble_16 (by decide) (fun c16 => ?_) (fun c16 => ?_)
    · refine r_iconst (v := 0) F dX12_isStrongDouble_21 (by decide) ?_
      refine r_istore_n F dX12_isStrongDouble_22 (by decide) ?_
      refine z_loop (fun n S9 lv => ∃ z, z + n = y ∧ S = S9 ∧ fnd (ySt v (v.1 1214 y)) z = none ∧ lv = [(2, .int (nI z)), (0, .ref g), (1, .int (nI y))]) y ?_ ⟨0, by omega, rfl, rfl, rfl⟩
      rintro n S9 lv ⟨z, hn9, rfl, hst, rfl⟩ ih
      refine r_iload_n F dX12_isStrongDouble_23 rfl ?_
      refine r_iload_n F dX12_isStrongDouble_24 rfl ?_
      refine r_icmp_ge (tgt := 86) F dX12_isStrongDouble_25 (by decide) (fun c25 => ?_) (fun c25 => ?_)
      · refine r_iconst (v := 0) F dX12_isStrongDouble_86 (by decide) ?_
        have hzy : z = y := by rw [nI_leI (by omega) (by omega)] at c25; omega
        subst hzy
        exact e_zret F hr rfl hlk ⟨zbo.n (fun h => h.2.2 hst), rfl⟩ (by decide) (by decide) dX12_isStrongDouble_87
      · have hzy : z < y := by rw [nI_leI (by omega) (by omega)] at c25; omega
        refine r_iload_n F dX12_isStrongDouble_28 rfl ?_
        refine r_bipush (v := 16) F dX12_isStrongDouble_29 (by decide) ?_
        refine r_irem F dX12_isStrongDouble_31 (by decide) ?_
        refine r_aload_n F dX12_isStrongDouble_32 rfl ?_
        refine gq_symbols F G hS dX12_isStrongDouble_33 ?_
        refine r_iload_n F dX12_isStrongDouble_36 rfl ?_
        refine r_bipush (v := 16) F dX12_isStrongDouble_37 (by decide) ?_
        refine r_idiv F dX12_isStrongDouble_39 (by decide) ?_
        refine al_symbols F G hS (z / 16) (show nI z / 16 = _ by rw [nl16]; exact nI_div (by omega) (by omega)) (by omega) dX12_isStrongDouble_40 ?_
        have hb4 := (rg_1204 hv (k := z / 16) (by omega)).2
        rw [show nI z - nI z / 16 * 16 = nI (z % 16) by rw [nl16]; exact nI_mod (by omega) (by omega), (rg_1204 hv (k := z / 16) (by omega)).1]
        refine r_icmp_ge (tgt := 80) F dX12_isStrongDouble_41 (by decide) (fun c41 => ?_) (fun c41 => ?_)
        · refine r_iinc F dX12_isStrongDouble_80 rfl (by decide) ?_
          refine r_goto (tgt := 23) F dX12_isStrongDouble_83 (by decide) ?_
          exact ih (n - 1) _ _ (by omega) ⟨z + 1, by omega, rfl, fnd_n hst (ySt_0 (Or.inl (fun h8 => by rw [nI_leI (by omega) (by omega)] at c41; omega))), by rw [show nI z + Int32.ofInt 1 = nI (z + 1) from nI_add z 1]; rfl⟩
        · refine r_aload_n F dX12_isStrongDouble_44 rfl ?_
          refine gq_binding F G hS dX12_isStrongDouble_45 ?_
          refine r_iload_n F dX12_isStrongDouble_48 rfl ?_
          refine al_binding F G hS (z) rfl (by omega) dX12_isStrongDouble_49 ?_
          refine r_if_ne (tgt := 80) F dX12_isStrongDouble_50 (by decide) (fun c50 => ?_) (fun c50 => ?_)
          · refine r_iinc F dX12_isStrongDouble_80 rfl (by decide) ?_
            refine r_goto (tgt := 23) F dX12_isStrongDouble_83 (by decide) ?_
            exact ih (n - 1) _ _ (by omega) ⟨z + 1, by omega, rfl, fnd_n hst (ySt_0 (Or.inr (Or.inl c50))), by rw [show nI z + Int32.ofInt 1 = nI (z + 1) from nI_add z 1]; rfl⟩
          · refine r_aload_n F dX12_isStrongDouble_53 rfl ?_
            refine gq_defines F G hS dX12_isStrongDouble_54 ?_
            refine r_iload_n F dX12_isStrongDouble_57 rfl ?_
            refine al_defines F G hS (z) rfl (by omega) dX12_isStrongDouble_58 ?_
            refine r_iconst (v := -1) F dX12_isStrongDouble_59 (by decide) ?_
            refine r_icmp_eq (tgt := 80) F dX12_isStrongDouble_60 (by decide) (fun c60 => ?_) (fun c60 => ?_)
            · refine r_iinc F dX12_isStrongDouble_80 rfl (by decide) ?_
              refine r_goto (tgt := 23) F dX12_isStrongDouble_83 (by decide) ?_
              exact ih (n - 1) _ _ (by omega) ⟨z + 1, by omega, rfl, fnd_n hst (ySt_0 (Or.inr (Or.inr (Or.inr c60)))), by rw [show nI z + Int32.ofInt 1 = nI (z + 1) from nI_add z 1]; rfl⟩
            · refine r_aload_n F dX12_isStrongDouble_63 rfl ?_
              refine gq_name F G hS dX12_isStrongDouble_64 ?_
              refine r_iload_n F dX12_isStrongDouble_67 rfl ?_
              refine al_name F G hS (z) rfl (by omega) dX12_isStrongDouble_68 ?_
              refine r_aload_n F dX12_isStrongDouble_69 rfl ?_
              refine gq_name F G hS dX12_isStrongDouble_70 ?_
              refine r_iload_n F dX12_isStrongDouble_73 rfl ?_
              refine al_name F G hS (y) rfl hy dX12_isStrongDouble_74 ?_
              refine r_icmp_ne (tgt := 80) F dX12_isStrongDouble_75 (by decide) (fun c75 => ?_) (fun c75 => ?_)
              · refine r_iinc F dX12_isStrongDouble_80 rfl (by decide) ?_
                refine r_goto (tgt := 23) F dX12_isStrongDouble_83 (by decide) ?_
                exact ih (n - 1) _ _ (by omega) ⟨z + 1, by omega, rfl, fnd_n hst (ySt_0 (Or.inr (Or.inr (Or.inl c75)))), by rw [show nI z + Int32.ofInt 1 = nI (z + 1) from nI_add z 1]; rfl⟩
              · refine r_iconst (v := 1) F dX12_isStrongDouble_78 (by decide) ?_
                exact e_zret F hr rfl hlk ⟨zbo.y ⟨c6, c16, fun h9 => by have h8 := fnd_none.mp h9 z hzy; rw [ySt_t (by rw [nI_leI (by omega) (by omega)] at c41; omega) c50 c75 c60] at h8; cases h8⟩, rfl⟩ (by decide) (by decide) dX12_isStrongDouble_79
    · refine r_iconst (v := 0) F dX12_isStrongDouble_19 (by decide) ?_
      exact e_zret F hr rfl hlk ⟨zbo.n (fun h => h.2.1 c16), rfl⟩ (by decide) (by decide) dX12_isStrongDouble_20
set_option maxRecDepth 100000 in
set_option maxHeartbeats 4000000 in
theorem mm_isMissing {l : Launch} {N0 t0 : Nat} {D : va_G} {cy : Nat → ClassId} {S : zS} {S0 : zS} {g : Nat} {qa : Nat → Nat} {v : zV} (hS : zmR S0 g qa v S) {y : Nat} (hv : vRg v) (hA : vA v) (hD : vD v) (hy : y < 96) (ht : y % 16 < cn v 1204 (y / 16)) : zMi l yX12_isMissing (zws yX12_isMissing cX12_isMissing 2 (some .boolean)) { frames := 1, cells := 0, slots := 0, locals := 24 } N0 t0 D cy S [.ref g, .int (nI y)] (fun r S' => zbo r (mS v y) ∧ S' = S) 0 0 := by
  refine zMi.of (cc := cX12_isMissing) (maxL := 2) (ret := (some .boolean)) (by decide) rfl (Nat.le_of_ble_eq_true rfl) ?_
  intro p e s m args below meth c F G hr hlk hnm
  refine r_aload_n F dX12_isMissing_0 rfl ?_
  refine gq_defines F G hS dX12_isMissing_1 ?_
  refine r_iload_n F dX12_isMissing_4 rfl ?_
  refine al_defines F G hS (y) rfl hy dX12_isMissing_5 ?_
  refine r_iconst (v := -1) F dX12_isMissing_6 (by decide) ?_
  refine r_icmp_ne (tgt := 41) F dX12_isMissing_7 (by decide) (fun c7 => ?_) (fun c7 => ?_)
  · refine r_iconst (v := 0) F dX12_isMissing_41 (by decide) ?_
    exact e_zret F hr rfl hlk ⟨zbo.n (fun h => c7 h.1), rfl⟩ (by decide) (by decide) dX12_isMissing_42
  · refine r_aload_n F dX12_isMissing_10 rfl ?_
    refine gq_binding F G hS dX12_isMissing_11 ?_
    refine r_iload_n F dX12_isMissing_14 rfl ?_
    refine al_binding F G hS (y) rfl hy dX12_isMissing_15 ?_
    refine r_iconst (v := 2) F dX12_isMissing_16 (by decide) ?_
    refine r_icmp_eq (tgt := 37) F dX12_isMissing_17 (by decide) (fun c17 => ?_) (fun c17 => ?_)
    · refine r_iconst (v := 1) F dX12_isMissing_37 (by decide) ?_
      refine r_goto (tgt := 42) F dX12_isMissing_38 (by decide) ?_
      exact e_zret F hr rfl hlk ⟨zbo.y ⟨c7, Or.inl c17⟩, rfl⟩ (by decide) (by decide) dX12_isMissing_42
    · refine r_aload_n F dX12_isMissing_20 rfl ?_
      refine gq_binding F G hS dX12_isMissing_21 ?_
      refine r_iload_n F dX12_isMissing_24 rfl ?_
      refine al_binding F G hS (y) rfl hy dX12_isMissing_25 ?_
      refine r_if_ne (tgt := 41) F dX12_isMissing_26 (by decide) (fun c26 => ?_) (fun c26 => ?_)
      · refine r_iconst (v := 0) F dX12_isMissing_41 (by decide) ?_
        exact e_zret F hr rfl hlk ⟨zbo.n (fun h => h.2.elim (fun q => c17 q) (fun q => c26 q.1)), rfl⟩ (by decide) (by decide) dX12_isMissing_42
      · refine r_aload_n F dX12_isMissing_29 rfl ?_
        refine r_iload_n F dX12_isMissing_30 rfl ?_
        refine c_Vi (ci := 12) F G (mm_meaning hS hv hA hy) (cwV 1 F.2.2.2.2 (zgV km_X12_145 ki_X12_meaning ke_X12_X12_meaning kn_X12 ko_X12_meaning) rfl rfl rfl ⟨rfl, hd_yX12_meaning⟩ ⟨Nat.le_of_ble_eq_true rfl, Nat.le_of_ble_eq_true rfl⟩) rfl (by decide) hS.al rfl rfl (Nat.le_of_ble_eq_true rfl) dX12_isMissing_31 ⟨Nat.le_of_ble_eq_true rfl, Nat.le_of_ble_eq_true rfl⟩ (fun r31 S31 h31 => ?_)
        obtain ⟨a31, e31⟩ := h31
        have hs31 := e31.symm
        subst hs31
        subst a31
        have hlt := enc_lt (x := mng v y) (fun z hz => by have := (mng_t hy ht hz).1; omega)
        refine r_if_ge (tgt := 41) F dX12_isMissing_34 (by decide) (fun c34 => ?_) (fun c34 => ?_)
        · refine r_iconst (v := 0) F dX12_isMissing_41 (by decide) ?_
          exact e_zret F hr rfl hlk ⟨zbo.n (fun h => h.2.elim (fun q => c17 q) (fun q => absurd (hlt.mpr q.2) (Int32.not_lt.mpr c34))), rfl⟩ (by decide) (by decide) dX12_isMissing_42
        · refine r_iconst (v := 1) F dX12_isMissing_37 (by decide) ?_
          refine r_goto (tgt := 42) F dX12_isMissing_38 (by decide) ?_
          exact e_zret F hr rfl hlk ⟨zbo.y ⟨c7, Or.inr ⟨c26, hlt.mp (Int32.not_le.mp c34)⟩⟩, rfl⟩ (by decide) (by decide) dX12_isMissing_42
set_option maxRecDepth 100000 in
set_option maxHeartbeats 4000000 in
theorem mm_isOtherKind {l : Launch} {N0 t0 : Nat} {D : va_G} {cy : Nat → ClassId} {S : zS} {S0 : zS} {g : Nat} {qa : Nat → Nat} {v : zV} (hS : zmR S0 g qa v S) {y : Nat} (hv : vRg v) (hy : y < 96) : zMi l yX12_isOtherKind (zws yX12_isOtherKind cX12_isOtherKind 3 (some .boolean)) { frames := 0, cells := 0, slots := 0, locals := 0 } N0 t0 D cy S [.ref g, .int (nI y)] (fun r S' => zbo r (oK v y) ∧ S' = S) 0 0 := by
  refine zMi.of (cc := cX12_isOtherKind) (maxL := 3) (ret := (some .boolean)) (by decide) rfl (Nat.le_of_ble_eq_true rfl) ?_
  intro p e s m args below meth c F G hr hlk hnm
  refine r_iconst (v := 0) F dX12_isOtherKind_0 (by decide) ?_
  refine r_istore_n F dX12_isOtherKind_1 (by decide) ?_
  refine z_loop (fun n S9 lv => ∃ z, z + n = y ∧ S = S9 ∧ fnd (yFi v (v.1 1214 y)) z = none ∧ lv = [(2, .int (nI z)), (0, .ref g), (1, .int (nI y))]) y ?_ ⟨0, by omega, rfl, rfl, rfl⟩
  rintro n S9 lv ⟨z, hn9, rfl, hst, rfl⟩ ih
  refine r_iload_n F dX12_isOtherKind_2 rfl ?_
  refine r_iload_n F dX12_isOtherKind_3 rfl ?_
  refine r_icmp_ge (tgt := 85) F dX12_isOtherKind_4 (by decide) (fun c4 => ?_) (fun c4 => ?_)
  · refine r_iconst (v := 0) F dX12_isOtherKind_85 (by decide) ?_
    have hzy : z = y := by rw [nI_leI (by omega) (by omega)] at c4; omega
    subst hzy
    exact e_zret F hr rfl hlk ⟨zbo.n (fun h => by obtain ⟨_, z2, h1, h2⟩ := h; rw [hst] at h1; cases h1), rfl⟩ (by decide) (by decide) dX12_isOtherKind_86
  · have hzy : z < y := by rw [nI_leI (by omega) (by omega)] at c4; omega
    refine r_aload_n F dX12_isOtherKind_7 rfl ?_
    refine gq_binding F G hS dX12_isOtherKind_8 ?_
    refine r_iload_n F dX12_isOtherKind_11 rfl ?_
    refine al_binding F G hS (y) rfl hy dX12_isOtherKind_12 ?_
    refine r_iconst (v := 2) F dX12_isOtherKind_13 (by decide) ?_
    refine r_icmp_eq (tgt := 85) F dX12_isOtherKind_14 (by decide) (fun c14 => ?_) (fun c14 => ?_)
    · refine r_iconst (v := 0) F dX12_isOtherKind_85 (by decide) ?_
      exact e_zret F hr rfl hlk ⟨zbo.n (fun h => h.1 c14), rfl⟩ (by decide) (by decide) dX12_isOtherKind_86
    · refine r_iload_n F dX12_isOtherKind_17 rfl ?_
      refine r_bipush (v := 16) F dX12_isOtherKind_18 (by decide) ?_
      refine r_irem F dX12_isOtherKind_20 (by decide) ?_
      refine r_aload_n F dX12_isOtherKind_21 rfl ?_
      refine gq_symbols F G hS dX12_isOtherKind_22 ?_
      refine r_iload_n F dX12_isOtherKind_25 rfl ?_
      refine r_bipush (v := 16) F dX12_isOtherKind_26 (by decide) ?_
      refine r_idiv F dX12_isOtherKind_28 (by decide) ?_
      refine al_symbols F G hS (z / 16) (show nI z / 16 = _ by rw [nl16]; exact nI_div (by omega) (by omega)) (by omega) dX12_isOtherKind_29 ?_
      have hb4 := (rg_1204 hv (k := z / 16) (by omega)).2
      rw [show nI z - nI z / 16 * 16 = nI (z % 16) by rw [nl16]; exact nI_mod (by omega) (by omega), (rg_1204 hv (k := z / 16) (by omega)).1]
      refine r_icmp_ge (tgt := 79) F dX12_isOtherKind_30 (by decide) (fun c30 => ?_) (fun c30 => ?_)
      · refine r_iinc F dX12_isOtherKind_79 rfl (by decide) ?_
        refine r_goto (tgt := 2) F dX12_isOtherKind_82 (by decide) ?_
        exact ih (n - 1) _ _ (by omega) ⟨z + 1, by omega, rfl, fnd_n hst (yFi_0 (Or.inl (fun h8 => by rw [nI_leI (by omega) (by omega)] at c30; omega))), by rw [show nI z + Int32.ofInt 1 = nI (z + 1) from nI_add z 1]; rfl⟩
      · refine r_aload_n F dX12_isOtherKind_33 rfl ?_
        refine gq_binding F G hS dX12_isOtherKind_34 ?_
        refine r_iload_n F dX12_isOtherKind_37 rfl ?_
        refine al_binding F G hS (z) rfl (by omega) dX12_isOtherKind_38 ?_
        refine r_iconst (v := 2) F dX12_isOtherKind_39 (by decide) ?_
        refine r_icmp_eq (tgt := 79) F dX12_isOtherKind_40 (by decide) (fun c40 => ?_) (fun c40 => ?_)
        · refine r_iinc F dX12_isOtherKind_79 rfl (by decide) ?_
          refine r_goto (tgt := 2) F dX12_isOtherKind_82 (by decide) ?_
          exact ih (n - 1) _ _ (by omega) ⟨z + 1, by omega, rfl, fnd_n hst (yFi_0 (Or.inr (Or.inl c40))), by rw [show nI z + Int32.ofInt 1 = nI (z + 1) from nI_add z 1]; rfl⟩
        · refine r_aload_n F dX12_isOtherKind_43 rfl ?_
          refine gq_name F G hS dX12_isOtherKind_44 ?_
          refine r_iload_n F dX12_isOtherKind_47 rfl ?_
          refine al_name F G hS (z) rfl (by omega) dX12_isOtherKind_48 ?_
          refine r_aload_n F dX12_isOtherKind_49 rfl ?_
          refine gq_name F G hS dX12_isOtherKind_50 ?_
          refine r_iload_n F dX12_isOtherKind_53 rfl ?_
          refine al_name F G hS (y) rfl hy dX12_isOtherKind_54 ?_
          refine r_icmp_ne (tgt := 79) F dX12_isOtherKind_55 (by decide) (fun c55 => ?_) (fun c55 => ?_)
          · refine r_iinc F dX12_isOtherKind_79 rfl (by decide) ?_
            refine r_goto (tgt := 2) F dX12_isOtherKind_82 (by decide) ?_
            exact ih (n - 1) _ _ (by omega) ⟨z + 1, by omega, rfl, fnd_n hst (yFi_0 (Or.inr (Or.inr c55))), by rw [show nI z + Int32.ofInt 1 = nI (z + 1) from nI_add z 1]; rfl⟩
          · refine r_aload_n F dX12_isOtherKind_58 rfl ?_
            refine gq_kind F G hS dX12_isOtherKind_59 ?_
            refine r_iload_n F dX12_isOtherKind_62 rfl ?_
            refine al_kind F G hS (z) rfl (by omega) dX12_isOtherKind_63 ?_
            refine r_aload_n F dX12_isOtherKind_64 rfl ?_
            refine gq_kind F G hS dX12_isOtherKind_65 ?_
            refine r_iload_n F dX12_isOtherKind_68 rfl ?_
            refine al_kind F G hS (y) rfl hy dX12_isOtherKind_69 ?_
            refine r_icmp_eq (tgt := 77) F dX12_isOtherKind_70 (by decide) (fun c70 => ?_) (fun c70 => ?_)
            · refine r_iconst (v := 0) F dX12_isOtherKind_77 (by decide) ?_
              have hfs : fnd (yFi v (v.1 1214 y)) y = some z := fnd_iff.mpr ⟨hzy, yFi_t (by rw [nI_leI (by omega) (by omega)] at c30; omega) c40 c55, fnd_none.mp hst⟩
              exact e_zret F hr rfl hlk ⟨zbo.n (fun h => by obtain ⟨_, z2, h1, h2⟩ := h; rw [hfs] at h1; cases h1; exact h2 c70), rfl⟩ (by decide) (by decide) dX12_isOtherKind_78
            · refine r_iconst (v := 1) F dX12_isOtherKind_73 (by decide) ?_
              refine r_goto (tgt := 78) F dX12_isOtherKind_74 (by decide) ?_
              have hfs : fnd (yFi v (v.1 1214 y)) y = some z := fnd_iff.mpr ⟨hzy, yFi_t (by rw [nI_leI (by omega) (by omega)] at c30; omega) c40 c55, fnd_none.mp hst⟩
              exact e_zret F hr rfl hlk ⟨zbo.y ⟨c14, z, hfs, c70⟩, rfl⟩ (by decide) (by decide) dX12_isOtherKind_78
