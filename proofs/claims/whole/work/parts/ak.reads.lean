theorem vL.k0 {v : zV} {x : Int32} : vL v (u1 v 1200 0 x) := fun id k hk => u1_n (Or.inl (by omega))
theorem vL.sy {v v1 : zV} (h : vL v v1) : vL v1 v := fun id k hk => (h id k hk).symm
theorem nI_of9 {x : Int32} {n : Nat} (h0 : 0 ≤ x) (h : x < nI n) (hn : n < 2 ^ 31) : ∃ k, k < n ∧ x = nI k := by
  have h1 : 0 ≤ x.toInt := by rw [Int32.le_iff_toInt_le] at h0; exact h0
  have h2 : x.toInt < (n : Int) := by rw [Int32.lt_iff_toInt_lt, nI_toInt hn] at h; exact h
  refine ⟨x.toInt.toNat, by omega, ?_⟩
  apply Int32.toInt_inj.mp
  rw [nI_toInt (by omega)]
  omega
theorem slN_r {Ss : List Nat} {x : Option Nat} {r : Int32} (h : (∃ k, plc Ss x = some k ∧ k < Ss.length ∧ r = nI (k + 1)) ∨ (plc Ss x = none ∧ r = 0)) : r = nI (slN Ss x) := by
  unfold slN
  rcases h with ⟨k, q1, -, q2⟩ | ⟨q1, q2⟩
  · rw [q1, q2]
  · rw [q1, q2]
    rfl
/-- what count tells -/
def cntR (v : zV) (x : Int32) : Int32 := if x = 0 then v.1 1223 0 else if x = 1 then nI (pS v 1202 (cn v 1201 0)) else if x = 2 then v.1 1227 0 else if x = 3 then v.1 1225 0 else nI (aS v 24)
/-- what meant tells -/
def mntR (v : zV) (Ss : List Nat) (y : Nat) (x : Int32) : Int32 := if v.1 1215 y = 1 then (if x = 0 then nI (aO v y) else 0) else if x = 0 then (match fO v y with | some f => nI (pN v 1202 8 f) | none => -1) else nI (slN Ss (fO v y))
set_option maxRecDepth 100000 in
set_option maxHeartbeats 4000000 in
theorem mm_count {l : Launch} {N0 t0 : Nat} {D : va_G} {cy : Nat → ClassId} {S : zS} {S0 : zS} {g : Nat} {qa : Nat → Nat} {v : zV} (hS : zmR S0 g qa v S) {x : Int32} (hv : vRg v) (h01 : v.1 1219 0 = 0 ∨ v.1 1219 0 = 1) : zMi l yX12_count (zws yX12_count cX12_count 2 (some .int)) { frames := 2, cells := 0, slots := 0, locals := 44 } N0 t0 D cy S [.ref g, .int x] (fun r S' => (¬ pIn x 0 4 ∧ r = 0 ∧ zmR S0 g qa (u1 v 1200 0 1) S') ∨ (pIn x 0 4 ∧ v.1 1219 0 = 0 ∧ r = 0 ∧ zmR S0 g qa (u1 v 1200 0 2) S') ∨ (pIn x 0 4 ∧ v.1 1219 0 = 1 ∧ r = cntR v x ∧ zmR S0 g qa (u1 v 1200 0 0) S')) 0 0 := by
  refine zMi.of (cc := cX12_count) (maxL := 2) (ret := (some .int)) (by decide) rfl (Nat.le_of_ble_eq_true rfl) ?_
  intro p e s m args below meth c F G hr hlk hnm
  refine r_aload_n F dX12_count_0 rfl ?_
  refine r_iload_n F dX12_count_1 rfl ?_
  refine r_iconst (v := 0) F dX12_count_2 (by decide) ?_
  refine r_iconst (v := 4) F dX12_count_3 (by decide) ?_
  refine c_Si F G (mm_isIn _ _ _) (va_cwS 3 F.2.2.2.2 (zgS km_X12_126 ks_X12_isIn kn_X12 ko_X12_isIn) rfl rfl rfl hd_yX12_isIn ⟨Nat.le_of_ble_eq_true rfl, Nat.le_of_ble_eq_true rfl⟩) rfl rfl (Nat.le_of_ble_eq_true rfl) dX12_count_4 ⟨Nat.le_of_ble_eq_true rfl, Nat.le_of_ble_eq_true rfl⟩ (fun r4 S4 h4 => ?_)
  obtain ⟨a4, e4⟩ := h4
  have hs4 := e4.symm
  subst hs4
  refine r_if_ne (tgt := 14) F dX12_count_7 (by decide) (fun c7 => ?_) (fun c7 => ?_)
  · refine r_aload_n F dX12_count_14 rfl ?_
    refine gi_linked F G hS dX12_count_15 ?_
    refine r_if_ne (tgt := 25) F dX12_count_18 (by decide) (fun c18 => ?_) (fun c18 => ?_)
    · refine r_iconst (v := 0) F dX12_count_25 (by decide) ?_
      refine pi_code F G hS dX12_count_26 (fun S hS => ?_)
      refine r_aload_n F dX12_count_29 rfl ?_
      refine gi_code F G hS dX12_count_30 ?_
      refine r_if_le (tgt := 38) F dX12_count_33 (by decide) (fun _ => ?_) (fun h9 => absurd (show (u1 v 1200 0 0).1 1200 0 ≤ 0 by rw [u1_s]; decide) h9)
      refine r_iload_n F dX12_count_38 rfl ?_
      refine r_if_ne (tgt := 47) F dX12_count_39 (by decide) (fun c39 => ?_) (fun c39 => ?_)
      · refine r_iload_n F dX12_count_47 rfl ?_
        refine r_iconst (v := 1) F dX12_count_48 (by decide) ?_
        refine r_icmp_ne (tgt := 57) F dX12_count_49 (by decide) (fun c49 => ?_) (fun c49 => ?_)
        · refine r_iload_n F dX12_count_57 rfl ?_
          refine r_iconst (v := 2) F dX12_count_58 (by decide) ?_
          refine r_icmp_ne (tgt := 69) F dX12_count_59 (by decide) (fun c59 => ?_) (fun c59 => ?_)
          · refine r_iload_n F dX12_count_69 rfl ?_
            refine r_iconst (v := 3) F dX12_count_70 (by decide) ?_
            refine r_icmp_ne (tgt := 81) F dX12_count_71 (by decide) (fun c71 => ?_) (fun c71 => ?_)
            · refine r_aload_n F dX12_count_81 rfl ?_
              refine c_Vi (ci := 12) F G (mm_end hS (vL.k0.rg hv)) (cwV 0 F.2.2.2.2 (zgV km_X12_225 ki_X12_end ke_X12_X12_end kn_X12 ko_X12_end) rfl rfl rfl ⟨rfl, hd_yX12_end⟩ ⟨Nat.le_of_ble_eq_true rfl, Nat.le_of_ble_eq_true rfl⟩) rfl (by decide) hS.al rfl rfl (Nat.le_of_ble_eq_true rfl) dX12_count_82 ⟨Nat.le_of_ble_eq_true rfl, Nat.le_of_ble_eq_true rfl⟩ (fun r82 S82 h82 => ?_)
              obtain ⟨a82, e82⟩ := h82
              have hs82 := e82.symm
              subst hs82
              rw [vL.k0.eaS] at a82
              exact e_iret F hr hlk (Or.inr (Or.inr ⟨a4.t c7, h01.resolve_left c18, by unfold cntR; rw [if_neg c39, if_neg c49, if_neg c59, if_neg c71]; exact a82, hS⟩)) (by decide) (by decide) dX12_count_85
            · refine r_aload_n F dX12_count_74 rfl ?_
              refine gi_slots F G hS dX12_count_75 ?_
              refine r_goto (tgt := 85) F dX12_count_78 (by decide) ?_
              exact e_iret F hr hlk (Or.inr (Or.inr ⟨a4.t c7, h01.resolve_left c18, by unfold cntR; rw [if_neg c39, if_neg c49, if_neg c59, if_pos c71]; exact u1_n (Or.inl (by decide)), hS⟩)) (by decide) (by decide) dX12_count_85
          · refine r_aload_n F dX12_count_62 rfl ?_
            refine gi_types F G hS dX12_count_63 ?_
            refine r_goto (tgt := 85) F dX12_count_66 (by decide) ?_
            exact e_iret F hr hlk (Or.inr (Or.inr ⟨a4.t c7, h01.resolve_left c18, by unfold cntR; rw [if_neg c39, if_neg c49, if_pos c59]; exact u1_n (Or.inl (by decide)), hS⟩)) (by decide) (by decide) dX12_count_85
        · refine r_aload_n F dX12_count_52 rfl ?_
          refine c_Vi (ci := 12) F G (mm_functionCount hS (vL.k0.rg hv)) (cwV 0 F.2.2.2.2 (zgV km_X12_269 ki_X12_functionCount ke_X12_X12_functionCount kn_X12 ko_X12_functionCount) rfl rfl rfl ⟨rfl, hd_yX12_functionCount⟩ ⟨Nat.le_of_ble_eq_true rfl, Nat.le_of_ble_eq_true rfl⟩) rfl (by decide) hS.al rfl rfl (Nat.le_of_ble_eq_true rfl) dX12_count_53 ⟨Nat.le_of_ble_eq_true rfl, Nat.le_of_ble_eq_true rfl⟩ (fun r53 S53 h53 => ?_)
          obtain ⟨a53, e53⟩ := h53
          have hs53 := e53.symm
          subst hs53
          rw [vL.k0.epS (by omega), vL.k0.c (by omega)] at a53
          exact e_iret F hr hlk (Or.inr (Or.inr ⟨a4.t c7, h01.resolve_left c18, by unfold cntR; rw [if_neg c39, if_pos c49]; exact a53, hS⟩)) (by decide) (by decide) dX12_count_56
      · refine r_aload_n F dX12_count_42 rfl ?_
        refine gi_moduleSize F G hS dX12_count_43 ?_
        exact e_iret F hr hlk (Or.inr (Or.inr ⟨a4.t c7, h01.resolve_left c18, by unfold cntR; rw [if_pos c39]; exact u1_n (Or.inl (by decide)), hS⟩)) (by decide) (by decide) dX12_count_46
    · refine r_iconst (v := 2) F dX12_count_21 (by decide) ?_
      refine r_goto (tgt := 26) F dX12_count_22 (by decide) ?_
      refine pi_code F G hS dX12_count_26 (fun S hS => ?_)
      refine r_aload_n F dX12_count_29 rfl ?_
      refine gi_code F G hS dX12_count_30 ?_
      refine r_if_le (tgt := 38) F dX12_count_33 (by decide) (fun h9 => absurd h9 (show ¬ (u1 v 1200 0 2).1 1200 0 ≤ 0 by rw [u1_s]; decide)) (fun _ => ?_)
      refine r_iconst (v := 0) F dX12_count_36 (by decide) ?_
      exact e_iret F hr hlk (Or.inr (Or.inl ⟨a4.t c7, c18, rfl, hS⟩)) (by decide) (by decide) dX12_count_37
  · refine r_iconst (v := 1) F dX12_count_10 (by decide) ?_
    refine r_goto (tgt := 26) F dX12_count_11 (by decide) ?_
    refine pi_code F G hS dX12_count_26 (fun S hS => ?_)
    refine r_aload_n F dX12_count_29 rfl ?_
    refine gi_code F G hS dX12_count_30 ?_
    refine r_if_le (tgt := 38) F dX12_count_33 (by decide) (fun h9 => absurd h9 (show ¬ (u1 v 1200 0 1).1 1200 0 ≤ 0 by rw [u1_s]; decide)) (fun _ => ?_)
    refine r_iconst (v := 0) F dX12_count_36 (by decide) ?_
    exact e_iret F hr hlk (Or.inl ⟨a4.f c7, rfl, hS⟩) (by decide) (by decide) dX12_count_37
set_option maxRecDepth 100000 in
set_option maxHeartbeats 4000000 in
theorem mm_byteAt {l : Launch} {N0 t0 : Nat} {D : va_G} {cy : Nat → ClassId} {S : zS} {S0 : zS} {g : Nat} {qa : Nat → Nat} {v : zV} (hS : zmR S0 g qa v S) {x : Int32} {T : Nat → Int32} {L : List Int32} (hL4 : L.length ≤ 40000) (hm : v.1 1219 0 = 1 → mB v T L) (h01 : v.1 1219 0 = 0 ∨ v.1 1219 0 = 1) : zMi l yX12_byteAt (zws yX12_byteAt cX12_byteAt 2 (some .int)) { frames := 0, cells := 0, slots := 0, locals := 0 } N0 t0 D cy S [.ref g, .int x] (fun r S' => (x < 0 ∧ r = 0 ∧ zmR S0 g qa (u1 v 1200 0 1) S') ∨ (¬ x < 0 ∧ v.1 1219 0 = 0 ∧ r = 0 ∧ zmR S0 g qa (u1 v 1200 0 2) S') ∨ (¬ x < 0 ∧ v.1 1219 0 = 1 ∧ (∀ k, k < L.length → ¬ x = nI k) ∧ r = 0 ∧ zmR S0 g qa (u1 v 1200 0 1) S') ∨ (v.1 1219 0 = 1 ∧ ∃ k, k < L.length ∧ x = nI k ∧ r = L.getD k 0 &&& 255 ∧ zmR S0 g qa (u1 v 1200 0 0) S')) 0 0 := by
  refine zMi.of (cc := cX12_byteAt) (maxL := 2) (ret := (some .int)) (by decide) rfl (Nat.le_of_ble_eq_true rfl) ?_
  intro p e s m args below meth c F G hr hlk hnm
  refine r_aload_n F dX12_byteAt_0 rfl ?_
  refine r_iload_n F dX12_byteAt_1 rfl ?_
  refine r_if_ge (tgt := 9) F dX12_byteAt_2 (by decide) (fun c2 => ?_) (fun c2 => ?_)
  · refine r_aload_n F dX12_byteAt_9 rfl ?_
    refine gi_linked F G hS dX12_byteAt_10 ?_
    refine r_if_ne (tgt := 20) F dX12_byteAt_13 (by decide) (fun c13 => ?_) (fun c13 => ?_)
    · have hl1 := h01.resolve_left c13
      refine r_iload_n F dX12_byteAt_20 rfl ?_
      refine r_aload_n F dX12_byteAt_21 rfl ?_
      refine gi_moduleSize F G hS dX12_byteAt_22 ?_
      refine r_icmp_lt (tgt := 32) F dX12_byteAt_25 (by decide) (fun c25 => ?_) (fun c25 => ?_)
      · refine r_iconst (v := 0) F dX12_byteAt_32 (by decide) ?_
        refine pi_code F G hS dX12_byteAt_33 (fun S hS => ?_)
        refine r_aload_n F dX12_byteAt_36 rfl ?_
        refine gi_code F G hS dX12_byteAt_37 ?_
        refine r_if_le (tgt := 47) F dX12_byteAt_40 (by decide) (fun _ => ?_) (fun h9 => absurd (show (u1 v 1200 0 0).1 1200 0 ≤ 0 by rw [u1_s]; decide) h9)
        obtain ⟨k, hk, ex⟩ : ∃ k, k < L.length ∧ x = nI k := by
          have c9 := c25
          rw [(hm hl1).1] at c9
          exact nI_of9 c2 c9 (by omega)
        refine r_aload_n F dX12_byteAt_47 rfl ?_
        refine gq_module F G hS dX12_byteAt_48 ?_
        refine r_iload_n F dX12_byteAt_51 rfl ?_
        refine al_module F G hS (k) ex (by omega) dX12_byteAt_52 ?_
        rw [show (u1 v 1200 0 0).1 1222 k = L.getD k 0 from (u1_n (Or.inl (by decide))).trans ((hm hl1).2.1 k hk)]
        refine r_sipush (v := 255) F dX12_byteAt_53 (by decide) ?_
        refine r_iand F dX12_byteAt_56 ?_
        exact e_iret F hr hlk (Or.inr (Or.inr (Or.inr ⟨hl1, k, hk, ex, rfl, hS⟩))) (by decide) (by decide) dX12_byteAt_57
      · refine r_iconst (v := 1) F dX12_byteAt_28 (by decide) ?_
        refine r_goto (tgt := 33) F dX12_byteAt_29 (by decide) ?_
        refine pi_code F G hS dX12_byteAt_33 (fun S hS => ?_)
        refine r_aload_n F dX12_byteAt_36 rfl ?_
        refine gi_code F G hS dX12_byteAt_37 ?_
        refine r_if_le (tgt := 47) F dX12_byteAt_40 (by decide) (fun h9 => absurd h9 (show ¬ (u1 v 1200 0 1).1 1200 0 ≤ 0 by rw [u1_s]; decide)) (fun _ => ?_)
        refine r_iconst (v := 0) F dX12_byteAt_43 (by decide) ?_
        refine r_goto (tgt := 57) F dX12_byteAt_44 (by decide) ?_
        exact e_iret F hr hlk (Or.inr (Or.inr (Or.inl ⟨Int32.not_lt.mpr c2, hl1, fun k hk e => c25 (by rw [e, (hm hl1).1]; exact (nI_ltI (by omega) (by omega)).mpr hk), rfl, hS⟩))) (by decide) (by decide) dX12_byteAt_57
    · refine r_iconst (v := 2) F dX12_byteAt_16 (by decide) ?_
      refine r_goto (tgt := 33) F dX12_byteAt_17 (by decide) ?_
      refine pi_code F G hS dX12_byteAt_33 (fun S hS => ?_)
      refine r_aload_n F dX12_byteAt_36 rfl ?_
      refine gi_code F G hS dX12_byteAt_37 ?_
      refine r_if_le (tgt := 47) F dX12_byteAt_40 (by decide) (fun h9 => absurd h9 (show ¬ (u1 v 1200 0 2).1 1200 0 ≤ 0 by rw [u1_s]; decide)) (fun _ => ?_)
      refine r_iconst (v := 0) F dX12_byteAt_43 (by decide) ?_
      refine r_goto (tgt := 57) F dX12_byteAt_44 (by decide) ?_
      exact e_iret F hr hlk (Or.inr (Or.inl ⟨Int32.not_lt.mpr c2, c13, rfl, hS⟩)) (by decide) (by decide) dX12_byteAt_57
  · refine r_iconst (v := 1) F dX12_byteAt_5 (by decide) ?_
    refine r_goto (tgt := 33) F dX12_byteAt_6 (by decide) ?_
    refine pi_code F G hS dX12_byteAt_33 (fun S hS => ?_)
    refine r_aload_n F dX12_byteAt_36 rfl ?_
    refine gi_code F G hS dX12_byteAt_37 ?_
    refine r_if_le (tgt := 47) F dX12_byteAt_40 (by decide) (fun h9 => absurd h9 (show ¬ (u1 v 1200 0 1).1 1200 0 ≤ 0 by rw [u1_s]; decide)) (fun _ => ?_)
    refine r_iconst (v := 0) F dX12_byteAt_43 (by decide) ?_
    refine r_goto (tgt := 57) F dX12_byteAt_44 (by decide) ?_
    exact e_iret F hr hlk (Or.inl ⟨Int32.not_le.mp c2, rfl, hS⟩) (by decide) (by decide) dX12_byteAt_57
set_option maxRecDepth 100000 in
set_option maxHeartbeats 4000000 in
theorem mm_meant {l : Launch} {N0 t0 : Nat} {D : va_G} {cy : Nat → ClassId} {S : zS} {S0 : zS} {g : Nat} {qa : Nat → Nat} {v : zV} (hS : zmR S0 g qa v S) {o y x : Int32} {Ss : List Nat} (hv : vRg v) (hA : vA v) (hD : vD v) (hK : v.1 1219 0 = 1 → kEq v ∧ tQ v 1224 1225 Ss ∧ nD Ss 48) (h01 : v.1 1219 0 = 0 ∨ v.1 1219 0 = 1) : zMi l yX12_meant (zws yX12_meant cX12_meant 6 (some .int)) { frames := 3, cells := 0, slots := 0, locals := 67 } N0 t0 D cy S [.ref g, .int o, .int y, .int x] (fun r S' => (¬ ((∃ i j, i < cn v 1201 0 ∧ o = nI i ∧ j < cn v 1204 i ∧ y = nI j) ∧ pIn x 0 1) ∧ r = 0 ∧ zmR S0 g qa (u1 v 1200 0 1) S') ∨ (((∃ i j, i < cn v 1201 0 ∧ o = nI i ∧ j < cn v 1204 i ∧ y = nI j) ∧ pIn x 0 1) ∧ v.1 1219 0 = 0 ∧ r = 0 ∧ zmR S0 g qa (u1 v 1200 0 2) S') ∨ (v.1 1219 0 = 1 ∧ pIn x 0 1 ∧ ∃ i j, i < cn v 1201 0 ∧ o = nI i ∧ j < cn v 1204 i ∧ y = nI j ∧ r = mntR v Ss (16 * i + j) x ∧ zmR S0 g qa (u1 v 1200 0 0) S')) 0 0 := by
  refine zMi.of (cc := cX12_meant) (maxL := 6) (ret := (some .int)) (by decide) rfl (Nat.le_of_ble_eq_true rfl) ?_
  intro p e s m args below meth c F G hr hlk hnm
  have hO := (rg_1201 hv (k := 0) (by omega)).2
  refine r_aload_n F dX12_meant_0 rfl ?_
  refine r_aload_n F dX12_meant_1 rfl ?_
  refine r_iload_n F dX12_meant_2 rfl ?_
  refine c_Vi (ci := 12) F G (mm_isObject hS hv) (cwV 1 F.2.2.2.2 (zgV km_X12_130 ki_X12_isObject ke_X12_X12_isObject kn_X12 ko_X12_isObject) rfl rfl rfl ⟨rfl, hd_yX12_isObject⟩ ⟨Nat.le_of_ble_eq_true rfl, Nat.le_of_ble_eq_true rfl⟩) rfl (by decide) hS.al rfl rfl (Nat.le_of_ble_eq_true rfl) dX12_meant_3 ⟨Nat.le_of_ble_eq_true rfl, Nat.le_of_ble_eq_true rfl⟩ (fun r3 S3 h3 => ?_)
  obtain ⟨a3, e3⟩ := h3
  have hs3 := e3.symm
  subst hs3
  refine r_if_eq (tgt := 22) F dX12_meant_6 (by decide) (fun c6 => ?_) (fun c6 => ?_)
  · refine r_iconst (v := 1) F dX12_meant_22 (by decide) ?_
    refine r_goto (tgt := 52) F dX12_meant_23 (by decide) ?_
    refine pi_code F G hS dX12_meant_52 (fun S hS => ?_)
    refine r_aload_n F dX12_meant_55 rfl ?_
    refine gi_code F G hS dX12_meant_56 ?_
    refine r_if_le (tgt := 64) F dX12_meant_59 (by decide) (fun h9 => absurd h9 (show ¬ (u1 v 1200 0 1).1 1200 0 ≤ 0 by rw [u1_s]; decide)) (fun _ => ?_)
    refine r_iconst (v := 0) F dX12_meant_62 (by decide) ?_
    exact e_iret F hr hlk (Or.inl ⟨fun h9 => a3.f c6 (by obtain ⟨⟨i, j, h1, h2, -⟩, -⟩ := h9; exact ⟨i, h1, h2⟩), rfl, hS⟩) (by decide) (by decide) dX12_meant_63
  · refine r_iload_n F dX12_meant_9 rfl ?_
    refine r_if_lt (tgt := 22) F dX12_meant_10 (by decide) (fun c10 => ?_) (fun c10 => ?_)
    · refine r_iconst (v := 1) F dX12_meant_22 (by decide) ?_
      refine r_goto (tgt := 52) F dX12_meant_23 (by decide) ?_
      refine pi_code F G hS dX12_meant_52 (fun S hS => ?_)
      refine r_aload_n F dX12_meant_55 rfl ?_
      refine gi_code F G hS dX12_meant_56 ?_
      refine r_if_le (tgt := 64) F dX12_meant_59 (by decide) (fun h9 => absurd h9 (show ¬ (u1 v 1200 0 1).1 1200 0 ≤ 0 by rw [u1_s]; decide)) (fun _ => ?_)
      refine r_iconst (v := 0) F dX12_meant_62 (by decide) ?_
      exact e_iret F hr hlk (Or.inl ⟨fun h9 => by obtain ⟨⟨i, j, h1, h2, h3, h4⟩, -⟩ := h9; have := (rg_1204 hv (k := i) (by omega)).2; rw [h4] at c10; exact nI_pos (by omega) c10, rfl, hS⟩) (by decide) (by decide) dX12_meant_63
    · refine r_iload_n F dX12_meant_13 rfl ?_
      refine r_iconst (v := 0) F dX12_meant_14 (by decide) ?_
      refine r_iconst (v := 1) F dX12_meant_15 (by decide) ?_
      refine c_Si F G (mm_isIn _ _ _) (va_cwS 3 F.2.2.2.2 (zgS km_X12_126 ks_X12_isIn kn_X12 ko_X12_isIn) rfl rfl rfl hd_yX12_isIn ⟨Nat.le_of_ble_eq_true rfl, Nat.le_of_ble_eq_true rfl⟩) rfl rfl (Nat.le_of_ble_eq_true rfl) dX12_meant_16 ⟨Nat.le_of_ble_eq_true rfl, Nat.le_of_ble_eq_true rfl⟩ (fun r16 S16 h16 => ?_)
      obtain ⟨a16, e16⟩ := h16
      have hs16 := e16.symm
      subst hs16
      refine r_if_ne (tgt := 26) F dX12_meant_19 (by decide) (fun c19 => ?_) (fun c19 => ?_)
      · obtain ⟨i, hi, eo⟩ := a3.t c6
        have hsy := rg_1204 hv (k := i) (by omega)
        have hsy2 := hsy.2
        refine r_iload_n F dX12_meant_26 rfl ?_
        refine r_aload_n F dX12_meant_27 rfl ?_
        refine gq_symbols F G hS dX12_meant_28 ?_
        refine r_iload_n F dX12_meant_31 rfl ?_
        refine al_symbols F G hS (i) eo (by omega) dX12_meant_32 ?_
        refine r_icmp_lt (tgt := 40) F dX12_meant_33 (by decide) (fun c33 => ?_) (fun c33 => ?_)
        · obtain ⟨j, hj, ey⟩ : ∃ j, j < cn v 1204 i ∧ y = nI j := by
            have c9 := c33
            rw [hsy.1] at c9
            exact nI_of9 (Int32.not_lt.mp c10) c9 (by omega)
          refine r_aload_n F dX12_meant_40 rfl ?_
          refine gi_linked F G hS dX12_meant_41 ?_
          refine r_if_ne (tgt := 51) F dX12_meant_44 (by decide) (fun c44 => ?_) (fun c44 => ?_)
          · refine r_iconst (v := 0) F dX12_meant_51 (by decide) ?_
            refine pi_code F G hS dX12_meant_52 (fun S hS => ?_)
            refine r_aload_n F dX12_meant_55 rfl ?_
            refine gi_code F G hS dX12_meant_56 ?_
            refine r_if_le (tgt := 64) F dX12_meant_59 (by decide) (fun _ => ?_) (fun h9 => absurd (show (u1 v 1200 0 0).1 1200 0 ≤ 0 by rw [u1_s]; decide) h9)
            have hl1 := h01.resolve_left c44
            obtain ⟨hKE, hU, hnS⟩ := hK hl1
            have hl48 := nD_len _ _ hnS
            have hY : 16 * i + j < 96 := by omega
            have hT : (16 * i + j) % 16 < cn v 1204 ((16 * i + j) / 16) := by rw [show (16 * i + j) / 16 = i by omega]; omega
            have hv0 : vRg (u1 v 1200 0 0) := vL.k0.rg hv
            have hU0 : tQ (u1 v 1200 0 0) 1224 1225 Ss := hU.o (by decide) (by decide)
            refine r_bipush (v := 16) F dX12_meant_64 (by decide) ?_
            refine r_iload_n F dX12_meant_66 rfl ?_
            refine r_imul F dX12_meant_67 ?_
            refine r_iload_n F dX12_meant_68 rfl ?_
            refine r_iadd F dX12_meant_69 ?_
            rw [show (16 : Int32) * o + y = nI (16 * i + j) by rw [eo, ey, nl16, nI_mul, nI_add]]
            refine r_istore F dX12_meant_70 (by decide) ?_
            refine r_aload_n F dX12_meant_72 rfl ?_
            refine gq_kind F G hS dX12_meant_73 ?_
            refine r_iload F dX12_meant_76 rfl ?_
            refine al_kind F G hS (16 * i + j) rfl (by omega) dX12_meant_78 ?_
            rw [show (u1 v 1200 0 0).1 1215 (16 * i + j) = v.1 1215 (16 * i + j) from u1_n (Or.inl (by decide))]
            refine r_iconst (v := 1) F dX12_meant_79 (by decide) ?_
            refine r_icmp_ne (tgt := 98) F dX12_meant_80 (by decide) (fun c80 => ?_) (fun c80 => ?_)
            · have hk1 : ¬ v.1 1215 (16 * i + j) = 1 := c80
              refine r_aload_n F dX12_meant_98 rfl ?_
              refine r_iload F dX12_meant_99 rfl ?_
              refine c_Vi (ci := 12) F G (mm_functionOf hS hv0 (vL.k0.A hA) (vL.k0.D hD) hY (by rw [vL.k0.c (by omega)]; exact hT)) (cwV 1 F.2.2.2.2 (zgV km_X12_189 ki_X12_functionOf ke_X12_X12_functionOf kn_X12 ko_X12_functionOf) rfl rfl rfl ⟨rfl, hd_yX12_functionOf⟩ ⟨Nat.le_of_ble_eq_true rfl, Nat.le_of_ble_eq_true rfl⟩) rfl (by decide) hS.al rfl rfl (Nat.le_of_ble_eq_true rfl) dX12_meant_101 ⟨Nat.le_of_ble_eq_true rfl, Nat.le_of_ble_eq_true rfl⟩ (fun r101 S101 h101 => ?_)
              obtain ⟨a101, e101⟩ := h101
              have hs101 := e101.symm
              subst hs101
              rw [vL.k0.efO] at a101
              subst a101
              refine r_istore F dX12_meant_104 (by decide) ?_
              refine r_iload_n F dX12_meant_106 rfl ?_
              refine r_if_ne (tgt := 126) F dX12_meant_107 (by decide) (fun c107 => ?_) (fun c107 => ?_)
              · refine r_iload F dX12_meant_126 rfl ?_
                refine r_if_ge (tgt := 135) F dX12_meant_128 (by decide) (fun c128 => ?_) (fun c128 => ?_)
                · refine r_aload_n F dX12_meant_135 rfl ?_
                  refine r_iload F dX12_meant_136 rfl ?_
                  refine c_Vi (ci := 12) F G (mm_slotOf hS hU0 (by omega) (fun k hk => Nat.lt_trans (hnS.2 _ (getD_mem hk)) (by decide)) (x := (fO v (16 * i + j))) (fun z hz => by have := fO_lt hv hD hY hT hz; omega)) (cwV 1 F.2.2.2.2 (zgV km_X12_257 ki_X12_slotOf ke_X12_X12_slotOf kn_X12 ko_X12_slotOf) rfl rfl rfl ⟨rfl, hd_yX12_slotOf⟩ ⟨Nat.le_of_ble_eq_true rfl, Nat.le_of_ble_eq_true rfl⟩) rfl (by decide) hS.al rfl rfl (Nat.le_of_ble_eq_true rfl) dX12_meant_138 ⟨Nat.le_of_ble_eq_true rfl, Nat.le_of_ble_eq_true rfl⟩ (fun r138 S138 h138 => ?_)
                  obtain ⟨es138, h138⟩ := h138
                  have hs138 := es138.symm
                  subst hs138
                  exact e_iret F hr hlk (Or.inr (Or.inr ⟨hl1, a16.t c19, i, j, hi, eo, hj, ey, by unfold mntR; rw [if_neg hk1, if_neg c107]; exact slN_r h138, hS⟩)) (by decide) (by decide) dX12_meant_141
                · have hno : (fO v (16 * i + j)) = none := by
                    cases he : (fO v (16 * i + j)) with
                    | none => rfl
                    | some ff => have := fO_lt hv hD hY hT he; rw [he] at c128; exact absurd (show (0 : Int32) ≤ enc (some ff) from Int32.not_lt.mp (nI_pos (by omega))) c128
                  refine r_iconst (v := 0) F dX12_meant_131 (by decide) ?_
                  refine r_goto (tgt := 141) F dX12_meant_132 (by decide) ?_
                  exact e_iret F hr hlk (Or.inr (Or.inr ⟨hl1, a16.t c19, i, j, hi, eo, hj, ey, by unfold mntR; rw [if_neg hk1, if_neg c107, hno, slN_nn]; rfl, hS⟩)) (by decide) (by decide) dX12_meant_141
              · refine r_iload F dX12_meant_110 rfl ?_
                refine r_if_ge (tgt := 119) F dX12_meant_112 (by decide) (fun c112 => ?_) (fun c112 => ?_)
                · obtain ⟨ff, hfo⟩ : ∃ ff, (fO v (16 * i + j)) = some ff := by
                    cases he : (fO v (16 * i + j)) with
                    | some ff => exact ⟨ff, rfl⟩
                    | none => rw [he] at c112; exact absurd c112 (by decide)
                  have hff := fO_lt hv hD hY hT hfo
                  rw [hfo]
                  refine r_aload_n F dX12_meant_119 rfl ?_
                  refine r_iload F dX12_meant_120 rfl ?_
                  refine c_Vi (ci := 12) F G (mm_numberOf hS hv0 hff) (cwV 1 F.2.2.2.2 (zgV km_X12_272 ki_X12_numberOf ke_X12_X12_numberOf kn_X12 ko_X12_numberOf) rfl rfl rfl ⟨rfl, hd_yX12_numberOf⟩ ⟨Nat.le_of_ble_eq_true rfl, Nat.le_of_ble_eq_true rfl⟩) rfl (by decide) hS.al rfl rfl (Nat.le_of_ble_eq_true rfl) dX12_meant_122 ⟨Nat.le_of_ble_eq_true rfl, Nat.le_of_ble_eq_true rfl⟩ (fun r122 S122 h122 => ?_)
                  obtain ⟨a122, e122⟩ := h122
                  have hs122 := e122.symm
                  subst hs122
                  rw [vL.k0.epS (by omega)] at a122
                  exact e_iret F hr hlk (Or.inr (Or.inr ⟨hl1, a16.t c19, i, j, hi, eo, hj, ey, by unfold mntR; rw [if_neg hk1, if_pos c107, hfo]; exact a122, hS⟩)) (by decide) (by decide) dX12_meant_125
                · have hno : (fO v (16 * i + j)) = none := by
                    cases he : (fO v (16 * i + j)) with
                    | none => rfl
                    | some ff => have := fO_lt hv hD hY hT he; rw [he] at c112; exact absurd (show (0 : Int32) ≤ enc (some ff) from Int32.not_lt.mp (nI_pos (by omega))) c112
                  refine r_iconst (v := -1) F dX12_meant_115 (by decide) ?_
                  refine r_goto (tgt := 125) F dX12_meant_116 (by decide) ?_
                  exact e_iret F hr hlk (Or.inr (Or.inr ⟨hl1, a16.t c19, i, j, hi, eo, hj, ey, by unfold mntR; rw [if_neg hk1, if_pos c107, hno], hS⟩)) (by decide) (by decide) dX12_meant_125
            · have hk1 : v.1 1215 (16 * i + j) = 1 := c80
              refine r_iload_n F dX12_meant_83 rfl ?_
              refine r_if_ne (tgt := 96) F dX12_meant_84 (by decide) (fun c84 => ?_) (fun c84 => ?_)
              · refine r_iconst (v := 0) F dX12_meant_96 (by decide) ?_
                exact e_iret F hr hlk (Or.inr (Or.inr ⟨hl1, a16.t c19, i, j, hi, eo, hj, ey, by unfold mntR; rw [if_pos hk1, if_neg c84], hS⟩)) (by decide) (by decide) dX12_meant_97
              · refine r_aload_n F dX12_meant_87 rfl ?_
                refine r_iload F dX12_meant_88 rfl ?_
                refine c_Vi (ci := 12) F G (mm_addressOf hS hv0 (vL.k0.A hA) (vL.k0.D hD) hY (by rw [vL.k0.c (by omega)]; exact hT) (fun z hz => by rw [vL.k0.emng] at hz; rw [show (u1 v 1200 0 0).1 1215 z = v.1 1215 z from u1_n (Or.inl (by decide)), hKE _ hY hT z hz, hk1]; decide)) (cwV 1 F.2.2.2.2 (zgV km_X12_297 ki_X12_addressOf ke_X12_X12_addressOf kn_X12 ko_X12_addressOf) rfl rfl rfl ⟨rfl, hd_yX12_addressOf⟩ ⟨Nat.le_of_ble_eq_true rfl, Nat.le_of_ble_eq_true rfl⟩) rfl (by decide) hS.al rfl rfl (Nat.le_of_ble_eq_true rfl) dX12_meant_90 ⟨Nat.le_of_ble_eq_true rfl, Nat.le_of_ble_eq_true rfl⟩ (fun r90 S90 h90 => ?_)
                obtain ⟨a90, e90⟩ := h90
                have hs90 := e90.symm
                subst hs90
                rw [vL.k0.eaO] at a90
                refine r_goto (tgt := 97) F dX12_meant_93 (by decide) ?_
                exact e_iret F hr hlk (Or.inr (Or.inr ⟨hl1, a16.t c19, i, j, hi, eo, hj, ey, by unfold mntR; rw [if_pos hk1, if_pos c84]; exact a90, hS⟩)) (by decide) (by decide) dX12_meant_97
          · refine r_iconst (v := 2) F dX12_meant_47 (by decide) ?_
            refine r_goto (tgt := 52) F dX12_meant_48 (by decide) ?_
            refine pi_code F G hS dX12_meant_52 (fun S hS => ?_)
            refine r_aload_n F dX12_meant_55 rfl ?_
            refine gi_code F G hS dX12_meant_56 ?_
            refine r_if_le (tgt := 64) F dX12_meant_59 (by decide) (fun h9 => absurd h9 (show ¬ (u1 v 1200 0 2).1 1200 0 ≤ 0 by rw [u1_s]; decide)) (fun _ => ?_)
            refine r_iconst (v := 0) F dX12_meant_62 (by decide) ?_
            exact e_iret F hr hlk (Or.inr (Or.inl ⟨⟨⟨i, j, hi, eo, hj, ey⟩, a16.t c19⟩, c44, rfl, hS⟩)) (by decide) (by decide) dX12_meant_63
        · refine r_iconst (v := 1) F dX12_meant_36 (by decide) ?_
          refine r_goto (tgt := 52) F dX12_meant_37 (by decide) ?_
          refine pi_code F G hS dX12_meant_52 (fun S hS => ?_)
          refine r_aload_n F dX12_meant_55 rfl ?_
          refine gi_code F G hS dX12_meant_56 ?_
          refine r_if_le (tgt := 64) F dX12_meant_59 (by decide) (fun h9 => absurd h9 (show ¬ (u1 v 1200 0 1).1 1200 0 ≤ 0 by rw [u1_s]; decide)) (fun _ => ?_)
          refine r_iconst (v := 0) F dX12_meant_62 (by decide) ?_
          exact e_iret F hr hlk (Or.inl ⟨fun h9 => by obtain ⟨⟨i2, j2, h1, h2, h3, h4⟩, -⟩ := h9; rw [eo] at h2; have e2 := (nI_eq (by omega) (by omega)).mp h2; subst e2; rw [h4, hsy.1] at c33; exact c33 ((nI_ltI (by omega) (by omega)).mpr h3), rfl, hS⟩) (by decide) (by decide) dX12_meant_63
      · refine r_iconst (v := 1) F dX12_meant_22 (by decide) ?_
        refine r_goto (tgt := 52) F dX12_meant_23 (by decide) ?_
        refine pi_code F G hS dX12_meant_52 (fun S hS => ?_)
        refine r_aload_n F dX12_meant_55 rfl ?_
        refine gi_code F G hS dX12_meant_56 ?_
        refine r_if_le (tgt := 64) F dX12_meant_59 (by decide) (fun h9 => absurd h9 (show ¬ (u1 v 1200 0 1).1 1200 0 ≤ 0 by rw [u1_s]; decide)) (fun _ => ?_)
        refine r_iconst (v := 0) F dX12_meant_62 (by decide) ?_
        exact e_iret F hr hlk (Or.inl ⟨fun h9 => a16.f (by first | exact c19 | exact Decidable.not_not.mp c19) h9.2, rfl, hS⟩) (by decide) (by decide) dX12_meant_63
