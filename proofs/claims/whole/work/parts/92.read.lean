section ZTB
variable {p : Program} {l : Launch} {e : Env} {R : Room} {s : State} {m : MethodId} {args : Array Value} {below : List Frame} {meth : Method} {c : Code} {Q : State → Prop} {N0 : Nat} {D : va_G} {cy : Nat → ClassId} {cc : ByteArray} {nL cells slots : Nat} {Ts : List Cond} {own : String} {S : zS} {lv : List (Nat × Value)} {pc : Nat} {rest : List Value}
theorem r_table (F : CallFix p m c cc nL s args Ts own) {dflt lo hi : Int} {offs : Array Int} {len : Nat} {x : Int32} {off : Int} {tgt : Nat} (hdg : decode cc pc = .ok (.tableswitch dflt lo hi offs, len)) (ho : (if x.toInt < lo ∨ hi < x.toInt then some dflt else offs[(x.toInt - lo).toNat]?) = some off) (ht : (pc : Int) + off = (tgt : Int)) (k : zW p l e R s m args below meth c Q N0 D cy nL cells slots S lv tgt rest) : zW p l e R s m args below meth c Q N0 D cy nL cells slots S lv pc (.int x :: rest) := by
  by_cases h : x.toInt < lo ∨ hi < x.toInt
  · rw [if_pos h] at ho
    cases ho
    exact r_tableOut F hdg h ht k
  · rw [if_neg h] at ho
    exact r_tableIn F hdg (fun h1 => h (Or.inl h1)) (fun h1 => h (Or.inr h1)) ho ht k
end ZTB
/-- an address raised to a multiple of 2 ^ k -/
def rs (x k : Nat) : Nat := (x + 2 ^ k - 1) / 2 ^ k * 2 ^ k
theorem rs_b : ∀ k, k < 5 → (1 : Int32) <<< (nI k &&& 31) = nI (2 ^ k) ∧ 1 ≤ 2 ^ k ∧ 2 ^ k ≤ 16 := by decide
theorem rs_eq {x k : Nat} (hk : k < 5) (hx : x < 2 ^ 20) : (nI x + (1 : Int32) <<< (nI k &&& 31) - 1) / ((1 : Int32) <<< (nI k &&& 31)) * ((1 : Int32) <<< (nI k &&& 31)) = nI (rs x k) := by
  obtain ⟨h1, h2, h3⟩ := rs_b k hk
  rw [h1, nI_add, nl1, nI_sub (by omega), nI_div (by omega) (by omega), nI_mul]
  rfl
theorem rs_le {x k : Nat} (hk : k < 5) : rs x k ≤ x + 15 := by
  obtain ⟨h1, h2, h3⟩ := rs_b k hk
  have := Nat.div_mul_le_self (x + 2 ^ k - 1) (2 ^ k)
  unfold rs
  omega
/-- where the data ends, of the first k segments -/
def aS (v : zV) : Nat → Nat
  | 0 => 16
  | k + 1 => if k % 4 < cn v 1203 (k / 4) then rs (aS v k) (cn v 1212 k) + cn v 1211 k else aS v k
theorem aS_le {v : zV} (hv : vRg v) : ∀ k, k ≤ 24 → aS v k ≤ 16 + 79 * k
  | 0, _ => Nat.le_refl _
  | k + 1, h => by
    have ih := aS_le hv k (by omega)
    have h1 := (rg_1212 hv (k := k) (by omega)).2
    have h2 := (rg_1211 hv (k := k) (by omega)).2
    have h3 := rs_le (x := aS v k) (k := cn v 1212 k) (by omega)
    show (if k % 4 < cn v 1203 (k / 4) then rs (aS v k) (cn v 1212 k) + cn v 1211 k else aS v k) ≤ _
    by_cases h9 : k % 4 < cn v 1203 (k / 4)
    · rw [if_pos h9]; omega
    · rw [if_neg h9]; omega
/-- a function's parameters and results as one number -/
def sh (v : zV) (f : Nat) : Nat := 2 * cn v 1205 f + cn v 1206 f
theorem sh_le {v : zV} (hv : vRg v) {f : Nat} (hf : f < 48) : sh v f ≤ 9 := by
  have h1 := (rg_1205 hv hf).2
  have h2 := (rg_1206 hv hf).2
  unfold sh
  omega
/-- how many things the objects before o have -/
def pS (v : zV) (t : Nat) : Nat → Nat
  | 0 => 0
  | o + 1 => pS v t o + cn v t o
set_option maxRecDepth 100000 in
set_option maxHeartbeats 4000000 in
theorem mm_raised {l : Launch} {N0 t0 : Nat} {D : va_G} {cy : Nat → ClassId} {S : zS} {x k : Nat} (hk : k < 5) (hx : x < 2 ^ 20) : zMi l yX12_raised (zws yX12_raised cX12_raised 3 (some .int)) { frames := 0, cells := 0, slots := 0, locals := 0 } N0 t0 D cy S [.int (nI x), .int (nI k)] (fun r S' => r = nI (rs x k) ∧ S' = S) 0 0 := by
  refine zMi.of (cc := cX12_raised) (maxL := 3) (ret := (some .int)) (by decide) rfl (Nat.le_of_ble_eq_true rfl) ?_
  intro p e s m args below meth c F G hr hlk hnm
  refine r_iconst (v := 1) F dX12_raised_0 (by decide) ?_
  refine r_iload_n F dX12_raised_1 rfl ?_
  refine r_ishl F dX12_raised_2 ?_
  refine r_istore_n F dX12_raised_3 (by decide) ?_
  refine r_iload_n F dX12_raised_4 rfl ?_
  refine r_iload_n F dX12_raised_5 rfl ?_
  refine r_iadd F dX12_raised_6 ?_
  refine r_iconst (v := 1) F dX12_raised_7 (by decide) ?_
  refine r_isub F dX12_raised_8 ?_
  refine r_iload_n F dX12_raised_9 rfl ?_
  refine r_idiv F dX12_raised_10 (by rw [(rs_b k hk).1]; exact fun h9 => by rw [nl0, nI_eq (by have := (rs_b k hk).2.2; omega) (by omega)] at h9; have := (rs_b k hk).2.1; omega) ?_
  refine r_iload_n F dX12_raised_11 rfl ?_
  refine r_imul F dX12_raised_12 ?_
  exact e_iret F hr hlk ⟨rs_eq hk hx, rfl⟩ (by decide) (by decide) dX12_raised_13
set_option maxRecDepth 100000 in
set_option maxHeartbeats 4000000 in
theorem mm_addressOfSegment {l : Launch} {N0 t0 : Nat} {D : va_G} {cy : Nat → ClassId} {S : zS} {S0 : zS} {g : Nat} {qa : Nat → Nat} {v : zV} (hS : zmR S0 g qa v S) {q : Nat} (hq : q < 24) (hv : vRg v) : zMi l yX12_addressOfSegment (zws yX12_addressOfSegment cX12_addressOfSegment 4 (some .int)) { frames := 1, cells := 0, slots := 0, locals := 22 } N0 t0 D cy S [.ref g, .int (nI q)] (fun r S' => r = nI (rs (aS v q) (cn v 1212 q)) ∧ S' = S) 0 0 := by
  refine zMi.of (cc := cX12_addressOfSegment) (maxL := 4) (ret := (some .int)) (by decide) rfl (Nat.le_of_ble_eq_true rfl) ?_
  intro p e s m args below meth c F G hr hlk hnm
  refine r_bipush (v := 16) F dX12_addressOfSegment_0 (by decide) ?_
  refine r_istore_n F dX12_addressOfSegment_2 (by decide) ?_
  refine r_iconst (v := 0) F dX12_addressOfSegment_3 (by decide) ?_
  refine r_istore_n F dX12_addressOfSegment_4 (by decide) ?_
  refine z_loop (fun n S9 lv => ∃ k, k + n = q ∧ S = S9 ∧ lv = [(3, .int (nI k)), (2, .int (nI (aS v k))), (0, .ref g), (1, .int (nI q))]) q ?_ ⟨0, by omega, rfl, rfl⟩
  rintro n S9 lv ⟨k, hn9, rfl, rfl⟩ ih
  refine r_iload_n F dX12_addressOfSegment_5 rfl ?_
  refine r_iload_n F dX12_addressOfSegment_6 rfl ?_
  refine r_icmp_ge (tgt := 48) F dX12_addressOfSegment_7 (by decide) (fun c7 => ?_) (fun c7 => ?_)
  · have hkq : k = q := by rw [nI_leI (by omega) (by omega)] at c7; omega
    subst hkq
    refine r_iload_n F dX12_addressOfSegment_48 rfl ?_
    refine r_aload_n F dX12_addressOfSegment_49 rfl ?_
    refine gq_power F G hS dX12_addressOfSegment_50 ?_
    refine r_iload_n F dX12_addressOfSegment_53 rfl ?_
    refine al_power F G hS (k) rfl (by omega) dX12_addressOfSegment_54 ?_
    rw [(rg_1212 hv hq).1]
    refine c_Si F G (mm_raised (by have := (rg_1212 hv hq).2; omega) (by have := aS_le hv k (by omega); omega)) (va_cwS 2 F.2.2.2.2 (zgS km_X12_152 ks_X12_raised kn_X12 ko_X12_raised) rfl rfl rfl hd_yX12_raised ⟨Nat.le_of_ble_eq_true rfl, Nat.le_of_ble_eq_true rfl⟩) rfl rfl (Nat.le_of_ble_eq_true rfl) dX12_addressOfSegment_55 ⟨Nat.le_of_ble_eq_true rfl, Nat.le_of_ble_eq_true rfl⟩ (fun r55 S55 h55 => ?_)
    exact e_iret F hr hlk h55 (by decide) (by decide) dX12_addressOfSegment_58
  · have hkb : k < q := by rw [nI_leI (by omega) (by omega)] at c7; omega
    have hb1 := (rg_1203 hv (k := k / 4) (by omega)).2
    have hb2 := rg_1212 hv (k := k) (by omega)
    have hb3 := rg_1211 hv (k := k) (by omega)
    have hb4 := aS_le hv k (by omega)
    have hb22 := hb2.2
    have hb32 := hb3.2
    have hb5 := rs_le (x := aS v k) (k := cn v 1212 k) (by omega)
    refine r_iload_n F dX12_addressOfSegment_10 rfl ?_
    refine r_iconst (v := 4) F dX12_addressOfSegment_11 (by decide) ?_
    refine r_irem F dX12_addressOfSegment_12 (by decide) ?_
    refine r_aload_n F dX12_addressOfSegment_13 rfl ?_
    refine gq_segments F G hS dX12_addressOfSegment_14 ?_
    refine r_iload_n F dX12_addressOfSegment_17 rfl ?_
    refine r_iconst (v := 4) F dX12_addressOfSegment_18 (by decide) ?_
    refine r_idiv F dX12_addressOfSegment_19 (by decide) ?_
    refine al_segments F G hS (k / 4) (show nI k / 4 = _ by rw [nl4]; exact nI_div (by omega) (by omega)) (by omega) dX12_addressOfSegment_20 ?_
    rw [show nI k - nI k / 4 * 4 = nI (k % 4) by rw [nl4]; exact nI_mod (by omega) (by omega), (rg_1203 hv (k := k / 4) (by omega)).1]
    refine r_icmp_ge (tgt := 42) F dX12_addressOfSegment_21 (by decide) (fun c21 => ?_) (fun c21 => ?_)
    · have e9 : aS v (k + 1) = aS v k := if_neg (fun h8 => by rw [nI_leI (by omega) (by omega)] at c21; omega)
      refine r_iinc F dX12_addressOfSegment_42 rfl (by decide) ?_
      refine r_goto (tgt := 5) F dX12_addressOfSegment_45 (by decide) ?_
      exact ih (n - 1) _ _ (by omega) ⟨k + 1, by omega, rfl, by rw [e9, show nI k + Int32.ofInt 1 = nI (k + 1) from nI_add k 1]; rfl⟩
    · refine r_iload_n F dX12_addressOfSegment_24 rfl ?_
      refine r_aload_n F dX12_addressOfSegment_25 rfl ?_
      refine gq_power F G hS dX12_addressOfSegment_26 ?_
      refine r_iload_n F dX12_addressOfSegment_29 rfl ?_
      refine al_power F G hS (k) rfl (by omega) dX12_addressOfSegment_30 ?_
      rw [hb2.1]
      refine c_Si F G (mm_raised (by omega) (by omega)) (va_cwS 2 F.2.2.2.2 (zgS km_X12_152 ks_X12_raised kn_X12 ko_X12_raised) rfl rfl rfl hd_yX12_raised ⟨Nat.le_of_ble_eq_true rfl, Nat.le_of_ble_eq_true rfl⟩) rfl rfl (Nat.le_of_ble_eq_true rfl) dX12_addressOfSegment_31 ⟨Nat.le_of_ble_eq_true rfl, Nat.le_of_ble_eq_true rfl⟩ (fun r31 S31 h31 => ?_)
      obtain ⟨a31, e31⟩ := h31
      have hs31 := e31.symm
      subst hs31
      subst a31
      refine r_aload_n F dX12_addressOfSegment_34 rfl ?_
      refine gq_size F G hS dX12_addressOfSegment_35 ?_
      refine r_iload_n F dX12_addressOfSegment_38 rfl ?_
      refine al_size F G hS (k) rfl (by omega) dX12_addressOfSegment_39 ?_
      refine r_iadd F dX12_addressOfSegment_40 ?_
      rw [hb3.1, nI_add]
      refine r_istore_n F dX12_addressOfSegment_41 (by decide) ?_
      have e9 : aS v (k + 1) = rs (aS v k) (cn v 1212 k) + cn v 1211 k := if_pos (by rw [nI_leI (by omega) (by omega)] at c21; omega)
      refine r_iinc F dX12_addressOfSegment_42 rfl (by decide) ?_
      refine r_goto (tgt := 5) F dX12_addressOfSegment_45 (by decide) ?_
      exact ih (n - 1) _ _ (by omega) ⟨k + 1, by omega, rfl, by rw [e9, show nI k + Int32.ofInt 1 = nI (k + 1) from nI_add k 1]; rfl⟩
set_option maxRecDepth 100000 in
set_option maxHeartbeats 4000000 in
theorem mm_end {l : Launch} {N0 t0 : Nat} {D : va_G} {cy : Nat → ClassId} {S : zS} {S0 : zS} {g : Nat} {qa : Nat → Nat} {v : zV} (hS : zmR S0 g qa v S) (hv : vRg v) : zMi l yX12_end (zws yX12_end cX12_end 3 (some .int)) { frames := 1, cells := 0, slots := 0, locals := 22 } N0 t0 D cy S [.ref g] (fun r S' => r = nI (aS v 24) ∧ S' = S) 0 0 := by
  refine zMi.of (cc := cX12_end) (maxL := 3) (ret := (some .int)) (by decide) rfl (Nat.le_of_ble_eq_true rfl) ?_
  intro p e s m args below meth c F G hr hlk hnm
  refine r_bipush (v := 16) F dX12_end_0 (by decide) ?_
  refine r_istore_n F dX12_end_2 (by decide) ?_
  refine r_iconst (v := 0) F dX12_end_3 (by decide) ?_
  refine r_istore_n F dX12_end_4 (by decide) ?_
  refine z_loop (fun n S9 lv => ∃ k, k + n = 24 ∧ S = S9 ∧ lv = [(2, .int (nI k)), (1, .int (nI (aS v k))), (0, .ref g)]) 24 ?_ ⟨0, by omega, rfl, rfl⟩
  rintro n S9 lv ⟨k, hn9, rfl, rfl⟩ ih
  refine r_iload_n F dX12_end_5 rfl ?_
  refine r_bipush (v := 24) F dX12_end_6 (by decide) ?_
  refine r_icmp_ge (tgt := 49) F dX12_end_8 (by decide) (fun c8 => ?_) (fun c8 => ?_)
  · have hkq : k = 24 := by rw [show (24 : Int32) = nI 24 from rfl, nI_leI (by omega) (by omega)] at c8; omega
    subst hkq
    refine r_iload_n F dX12_end_49 rfl ?_
    exact e_iret F hr hlk ⟨rfl, rfl⟩ (by decide) (by decide) dX12_end_50
  · have hkb : k < 24 := by rw [show (24 : Int32) = nI 24 from rfl, nI_leI (by omega) (by omega)] at c8; omega
    have hb1 := (rg_1203 hv (k := k / 4) (by omega)).2
    have hb2 := rg_1212 hv (k := k) (by omega)
    have hb3 := rg_1211 hv (k := k) (by omega)
    have hb4 := aS_le hv k (by omega)
    have hb22 := hb2.2
    have hb32 := hb3.2
    have hb5 := rs_le (x := aS v k) (k := cn v 1212 k) (by omega)
    refine r_iload_n F dX12_end_11 rfl ?_
    refine r_iconst (v := 4) F dX12_end_12 (by decide) ?_
    refine r_irem F dX12_end_13 (by decide) ?_
    refine r_aload_n F dX12_end_14 rfl ?_
    refine gq_segments F G hS dX12_end_15 ?_
    refine r_iload_n F dX12_end_18 rfl ?_
    refine r_iconst (v := 4) F dX12_end_19 (by decide) ?_
    refine r_idiv F dX12_end_20 (by decide) ?_
    refine al_segments F G hS (k / 4) (show nI k / 4 = _ by rw [nl4]; exact nI_div (by omega) (by omega)) (by omega) dX12_end_21 ?_
    rw [show nI k - nI k / 4 * 4 = nI (k % 4) by rw [nl4]; exact nI_mod (by omega) (by omega), (rg_1203 hv (k := k / 4) (by omega)).1]
    refine r_icmp_ge (tgt := 43) F dX12_end_22 (by decide) (fun c22 => ?_) (fun c22 => ?_)
    · have e9 : aS v (k + 1) = aS v k := if_neg (fun h8 => by rw [nI_leI (by omega) (by omega)] at c22; omega)
      refine r_iinc F dX12_end_43 rfl (by decide) ?_
      refine r_goto (tgt := 5) F dX12_end_46 (by decide) ?_
      exact ih (n - 1) _ _ (by omega) ⟨k + 1, by omega, rfl, by rw [e9, show nI k + Int32.ofInt 1 = nI (k + 1) from nI_add k 1]; rfl⟩
    · refine r_iload_n F dX12_end_25 rfl ?_
      refine r_aload_n F dX12_end_26 rfl ?_
      refine gq_power F G hS dX12_end_27 ?_
      refine r_iload_n F dX12_end_30 rfl ?_
      refine al_power F G hS (k) rfl (by omega) dX12_end_31 ?_
      rw [hb2.1]
      refine c_Si F G (mm_raised (by omega) (by omega)) (va_cwS 2 F.2.2.2.2 (zgS km_X12_152 ks_X12_raised kn_X12 ko_X12_raised) rfl rfl rfl hd_yX12_raised ⟨Nat.le_of_ble_eq_true rfl, Nat.le_of_ble_eq_true rfl⟩) rfl rfl (Nat.le_of_ble_eq_true rfl) dX12_end_32 ⟨Nat.le_of_ble_eq_true rfl, Nat.le_of_ble_eq_true rfl⟩ (fun r32 S32 h32 => ?_)
      obtain ⟨a32, e32⟩ := h32
      have hs32 := e32.symm
      subst hs32
      subst a32
      refine r_aload_n F dX12_end_35 rfl ?_
      refine gq_size F G hS dX12_end_36 ?_
      refine r_iload_n F dX12_end_39 rfl ?_
      refine al_size F G hS (k) rfl (by omega) dX12_end_40 ?_
      refine r_iadd F dX12_end_41 ?_
      rw [hb3.1, nI_add]
      refine r_istore_n F dX12_end_42 (by decide) ?_
      have e9 : aS v (k + 1) = rs (aS v k) (cn v 1212 k) + cn v 1211 k := if_pos (by rw [nI_leI (by omega) (by omega)] at c22; omega)
      refine r_iinc F dX12_end_43 rfl (by decide) ?_
      refine r_goto (tgt := 5) F dX12_end_46 (by decide) ?_
      exact ih (n - 1) _ _ (by omega) ⟨k + 1, by omega, rfl, by rw [e9, show nI k + Int32.ofInt 1 = nI (k + 1) from nI_add k 1]; rfl⟩
set_option maxRecDepth 100000 in
set_option maxHeartbeats 4000000 in
theorem mm_shape {l : Launch} {N0 t0 : Nat} {D : va_G} {cy : Nat → ClassId} {S : zS} {S0 : zS} {g : Nat} {qa : Nat → Nat} {v : zV} (hS : zmR S0 g qa v S) {f : Nat} (hv : vRg v) (hf : f < 48) : zMi l yX12_shape (zws yX12_shape cX12_shape 2 (some .int)) { frames := 0, cells := 0, slots := 0, locals := 0 } N0 t0 D cy S [.ref g, .int (nI f)] (fun r S' => r = nI (sh v f) ∧ S' = S) 0 0 := by
  refine zMi.of (cc := cX12_shape) (maxL := 2) (ret := (some .int)) (by decide) rfl (Nat.le_of_ble_eq_true rfl) ?_
  intro p e s m args below meth c F G hr hlk hnm
  refine r_iconst (v := 2) F dX12_shape_0 (by decide) ?_
  refine r_aload_n F dX12_shape_1 rfl ?_
  refine gq_parameters F G hS dX12_shape_2 ?_
  refine r_iload_n F dX12_shape_5 rfl ?_
  refine al_parameters F G hS (f) rfl hf dX12_shape_6 ?_
  refine r_imul F dX12_shape_7 ?_
  refine r_aload_n F dX12_shape_8 rfl ?_
  refine gq_results F G hS dX12_shape_9 ?_
  refine r_iload_n F dX12_shape_12 rfl ?_
  refine al_results F G hS (f) rfl hf dX12_shape_13 ?_
  refine r_iadd F dX12_shape_14 ?_
  exact e_iret F hr hlk ⟨by rw [(rg_1205 hv hf).1, (rg_1206 hv hf).1, nl2, nI_mul, nI_add]; rfl, rfl⟩ (by decide) (by decide) dX12_shape_15
set_option maxRecDepth 100000 in
set_option maxHeartbeats 4000000 in
theorem mm_isThere {l : Launch} {N0 t0 : Nat} {D : va_G} {cy : Nat → ClassId} {S : zS} {S0 : zS} {g : Nat} {qa : Nat → Nat} {v : zV} (hS : zmR S0 g qa v S) {f : Nat} (hv : vRg v) (hf : f < 48) : zMi l yX12_isThere (zws yX12_isThere cX12_isThere 2 (some .boolean)) { frames := 0, cells := 0, slots := 0, locals := 0 } N0 t0 D cy S [.ref g, .int (nI f)] (fun r S' => zbo r (f % 8 < cn v 1202 (f / 8)) ∧ S' = S) 0 0 := by
  refine zMi.of (cc := cX12_isThere) (maxL := 2) (ret := (some .boolean)) (by decide) rfl (Nat.le_of_ble_eq_true rfl) ?_
  intro p e s m args below meth c F G hr hlk hnm
  refine r_iload_n F dX12_isThere_0 rfl ?_
  refine r_bipush (v := 8) F dX12_isThere_1 (by decide) ?_
  refine r_irem F dX12_isThere_3 (by decide) ?_
  refine r_aload_n F dX12_isThere_4 rfl ?_
  refine gq_functions F G hS dX12_isThere_5 ?_
  refine r_iload_n F dX12_isThere_8 rfl ?_
  refine r_bipush (v := 8) F dX12_isThere_9 (by decide) ?_
  refine r_idiv F dX12_isThere_11 (by decide) ?_
  refine al_functions F G hS (f / 8) (show nI f / 8 = _ by rw [nl8]; exact nI_div (by omega) (by omega)) (by omega) dX12_isThere_12 ?_
  have hb := (rg_1202 hv (k := f / 8) (by omega)).2
  rw [show nI f - nI f / 8 * 8 = nI (f % 8) by rw [nl8]; exact nI_mod (by omega) (by omega), (rg_1202 hv (k := f / 8) (by omega)).1]
  refine r_icmp_ge (tgt := 20) F dX12_isThere_13 (by decide) (fun c13 => ?_) (fun c13 => ?_)
  · refine r_iconst (v := 0) F dX12_isThere_20 (by decide) ?_
    exact e_zret F hr rfl hlk ⟨zbo.n (fun h => by rw [nI_leI (by omega) (by omega)] at c13; omega), rfl⟩ (by decide) (by decide) dX12_isThere_21
  · refine r_iconst (v := 1) F dX12_isThere_16 (by decide) ?_
    refine r_goto (tgt := 21) F dX12_isThere_17 (by decide) ?_
    exact e_zret F hr rfl hlk ⟨zbo.y (by rw [nI_leI (by omega) (by omega)] at c13; omega), rfl⟩ (by decide) (by decide) dX12_isThere_21
theorem pS_le {v : zV} (hv : vRg v) : ∀ o, o ≤ 6 → pS v 1202 o ≤ 8 * o
  | 0, _ => Nat.le_refl _
  | o + 1, h => by
    have ih := pS_le hv o (by omega)
    have h1 := (rg_1202 hv (k := o) (by omega)).2
    show pS v 1202 o + cn v 1202 o ≤ _
    omega
set_option maxRecDepth 100000 in
set_option maxHeartbeats 4000000 in
theorem mm_numberOf {l : Launch} {N0 t0 : Nat} {D : va_G} {cy : Nat → ClassId} {S : zS} {S0 : zS} {g : Nat} {qa : Nat → Nat} {v : zV} (hS : zmR S0 g qa v S) {f : Nat} (hv : vRg v) (hf : f < 48) : zMi l yX12_numberOf (zws yX12_numberOf cX12_numberOf 4 (some .int)) { frames := 0, cells := 0, slots := 0, locals := 0 } N0 t0 D cy S [.ref g, .int (nI f)] (fun r S' => r = nI (pS v 1202 (f / 8) + f % 8) ∧ S' = S) 0 0 := by
  refine zMi.of (cc := cX12_numberOf) (maxL := 4) (ret := (some .int)) (by decide) rfl (Nat.le_of_ble_eq_true rfl) ?_
  intro p e s m args below meth c F G hr hlk hnm
  refine r_iload_n F dX12_numberOf_0 rfl ?_
  refine r_bipush (v := 8) F dX12_numberOf_1 (by decide) ?_
  refine r_irem F dX12_numberOf_3 (by decide) ?_
  refine r_istore_n F dX12_numberOf_4 (by decide) ?_
  refine r_iconst (v := 0) F dX12_numberOf_5 (by decide) ?_
  refine r_istore_n F dX12_numberOf_6 (by decide) ?_
  rw [show nI f - nI f / 8 * 8 = nI (f % 8) by rw [nl8]; exact nI_mod (by omega) (by omega)]
  refine z_loop (fun n S9 lv => ∃ o, o + n = f / 8 ∧ S = S9 ∧ lv = [(3, .int (nI o)), (2, .int (nI (pS v 1202 o + f % 8))), (0, .ref g), (1, .int (nI f))]) (f / 8) ?_ ⟨0, by omega, rfl, by rw [show pS v 1202 0 + f % 8 = f % 8 from Nat.zero_add _]; rfl⟩
  rintro n S9 lv ⟨o, hn9, rfl, rfl⟩ ih
  refine r_iload_n F dX12_numberOf_7 rfl ?_
  refine r_iload_n F dX12_numberOf_8 rfl ?_
  refine r_bipush (v := 8) F dX12_numberOf_9 (by decide) ?_
  refine r_idiv F dX12_numberOf_11 (by decide) ?_
  rw [show nI f / 8 = nI (f / 8) by rw [nl8]; exact nI_div (by omega) (by omega)]
  refine r_icmp_ge (tgt := 30) F dX12_numberOf_12 (by decide) (fun c12 => ?_) (fun c12 => ?_)
  · refine r_iload_n F dX12_numberOf_30 rfl ?_
    exact e_iret F hr hlk ⟨by rw [show o = f / 8 by rw [nI_leI (by omega) (by omega)] at c12; omega], rfl⟩ (by decide) (by decide) dX12_numberOf_31
  · have hob : o < f / 8 := by rw [nI_leI (by omega) (by omega)] at c12; omega
    have hg := rg_1202 hv (k := o) (by omega)
    refine r_iload_n F dX12_numberOf_15 rfl ?_
    refine r_aload_n F dX12_numberOf_16 rfl ?_
    refine gq_functions F G hS dX12_numberOf_17 ?_
    refine r_iload_n F dX12_numberOf_20 rfl ?_
    refine al_functions F G hS (o) rfl (by omega) dX12_numberOf_21 ?_
    refine r_iadd F dX12_numberOf_22 ?_
    rw [hg.1, nI_add, show pS v 1202 o + f % 8 + cn v 1202 o = pS v 1202 (o + 1) + f % 8 from Nat.add_right_comm _ _ _]
    refine r_istore_n F dX12_numberOf_23 (by decide) ?_
    refine r_iinc F dX12_numberOf_24 rfl (by decide) ?_
    refine r_goto (tgt := 7) F dX12_numberOf_27 (by decide) ?_
    exact ih (n - 1) _ _ (by omega) ⟨o + 1, by omega, rfl, by rw [show nI o + Int32.ofInt 1 = nI (o + 1) from nI_add o 1]; rfl⟩
set_option maxRecDepth 100000 in
set_option maxHeartbeats 4000000 in
theorem mm_functionCount {l : Launch} {N0 t0 : Nat} {D : va_G} {cy : Nat → ClassId} {S : zS} {S0 : zS} {g : Nat} {qa : Nat → Nat} {v : zV} (hS : zmR S0 g qa v S) (hv : vRg v) : zMi l yX12_functionCount (zws yX12_functionCount cX12_functionCount 3 (some .int)) { frames := 0, cells := 0, slots := 0, locals := 0 } N0 t0 D cy S [.ref g] (fun r S' => r = nI (pS v 1202 (cn v 1201 0)) ∧ S' = S) 0 0 := by
  refine zMi.of (cc := cX12_functionCount) (maxL := 3) (ret := (some .int)) (by decide) rfl (Nat.le_of_ble_eq_true rfl) ?_
  intro p e s m args below meth c F G hr hlk hnm
  refine r_iconst (v := 0) F dX12_functionCount_0 (by decide) ?_
  refine r_istore_n F dX12_functionCount_1 (by decide) ?_
  refine r_iconst (v := 0) F dX12_functionCount_2 (by decide) ?_
  refine r_istore_n F dX12_functionCount_3 (by decide) ?_
  have hn := rg_1201 hv (k := 0) (by decide)
  have hn2 := hn.2
  refine z_loop (fun n S9 lv => ∃ o, o + n = cn v 1201 0 ∧ S = S9 ∧ lv = [(2, .int (nI o)), (1, .int (nI (pS v 1202 o))), (0, .ref g)]) (cn v 1201 0) ?_ ⟨0, by omega, rfl, rfl⟩
  rintro n S9 lv ⟨o, hn9, rfl, rfl⟩ ih
  refine r_iload_n F dX12_functionCount_4 rfl ?_
  refine r_aload_n F dX12_functionCount_5 rfl ?_
  refine gi_objects F G hS dX12_functionCount_6 ?_
  rw [hn.1]
  refine r_icmp_ge (tgt := 27) F dX12_functionCount_9 (by decide) (fun c9 => ?_) (fun c9 => ?_)
  · refine r_iload_n F dX12_functionCount_27 rfl ?_
    exact e_iret F hr hlk ⟨by rw [show o = cn v 1201 0 by rw [nI_leI (by omega) (by omega)] at c9; omega], rfl⟩ (by decide) (by decide) dX12_functionCount_28
  · have hob : o < cn v 1201 0 := by rw [nI_leI (by omega) (by omega)] at c9; omega
    have hg := rg_1202 hv (k := o) (by omega)
    refine r_iload_n F dX12_functionCount_12 rfl ?_
    refine r_aload_n F dX12_functionCount_13 rfl ?_
    refine gq_functions F G hS dX12_functionCount_14 ?_
    refine r_iload_n F dX12_functionCount_17 rfl ?_
    refine al_functions F G hS (o) rfl (by omega) dX12_functionCount_18 ?_
    refine r_iadd F dX12_functionCount_19 ?_
    rw [hg.1, nI_add]
    refine r_istore_n F dX12_functionCount_20 (by decide) ?_
    refine r_iinc F dX12_functionCount_21 rfl (by decide) ?_
    refine r_goto (tgt := 4) F dX12_functionCount_24 (by decide) ?_
    exact ih (n - 1) _ _ (by omega) ⟨o + 1, by omega, rfl, by rw [show nI o + Int32.ofInt 1 = nI (o + 1) from nI_add o 1]; rfl⟩
set_option maxRecDepth 100000 in
set_option maxHeartbeats 4000000 in
theorem mm_segmentCount {l : Launch} {N0 t0 : Nat} {D : va_G} {cy : Nat → ClassId} {S : zS} {S0 : zS} {g : Nat} {qa : Nat → Nat} {v : zV} (hS : zmR S0 g qa v S) (hv : vRg v) : zMi l yX12_segmentCount (zws yX12_segmentCount cX12_segmentCount 3 (some .int)) { frames := 0, cells := 0, slots := 0, locals := 0 } N0 t0 D cy S [.ref g] (fun r S' => r = nI (pS v 1203 (cn v 1201 0)) ∧ S' = S) 0 0 := by
  refine zMi.of (cc := cX12_segmentCount) (maxL := 3) (ret := (some .int)) (by decide) rfl (Nat.le_of_ble_eq_true rfl) ?_
  intro p e s m args below meth c F G hr hlk hnm
  refine r_iconst (v := 0) F dX12_segmentCount_0 (by decide) ?_
  refine r_istore_n F dX12_segmentCount_1 (by decide) ?_
  refine r_iconst (v := 0) F dX12_segmentCount_2 (by decide) ?_
  refine r_istore_n F dX12_segmentCount_3 (by decide) ?_
  have hn := rg_1201 hv (k := 0) (by decide)
  have hn2 := hn.2
  refine z_loop (fun n S9 lv => ∃ o, o + n = cn v 1201 0 ∧ S = S9 ∧ lv = [(2, .int (nI o)), (1, .int (nI (pS v 1203 o))), (0, .ref g)]) (cn v 1201 0) ?_ ⟨0, by omega, rfl, rfl⟩
  rintro n S9 lv ⟨o, hn9, rfl, rfl⟩ ih
  refine r_iload_n F dX12_segmentCount_4 rfl ?_
  refine r_aload_n F dX12_segmentCount_5 rfl ?_
  refine gi_objects F G hS dX12_segmentCount_6 ?_
  rw [hn.1]
  refine r_icmp_ge (tgt := 27) F dX12_segmentCount_9 (by decide) (fun c9 => ?_) (fun c9 => ?_)
  · refine r_iload_n F dX12_segmentCount_27 rfl ?_
    exact e_iret F hr hlk ⟨by rw [show o = cn v 1201 0 by rw [nI_leI (by omega) (by omega)] at c9; omega], rfl⟩ (by decide) (by decide) dX12_segmentCount_28
  · have hob : o < cn v 1201 0 := by rw [nI_leI (by omega) (by omega)] at c9; omega
    have hg := rg_1203 hv (k := o) (by omega)
    refine r_iload_n F dX12_segmentCount_12 rfl ?_
    refine r_aload_n F dX12_segmentCount_13 rfl ?_
    refine gq_segments F G hS dX12_segmentCount_14 ?_
    refine r_iload_n F dX12_segmentCount_17 rfl ?_
    refine al_segments F G hS (o) rfl (by omega) dX12_segmentCount_18 ?_
    refine r_iadd F dX12_segmentCount_19 ?_
    rw [hg.1, nI_add]
    refine r_istore_n F dX12_segmentCount_20 (by decide) ?_
    refine r_iinc F dX12_segmentCount_21 rfl (by decide) ?_
    refine r_goto (tgt := 4) F dX12_segmentCount_24 (by decide) ?_
    exact ih (n - 1) _ _ (by omega) ⟨o + 1, by omega, rfl, by rw [show nI o + Int32.ofInt 1 = nI (o + 1) from nI_add o 1]; rfl⟩
