abbrev vObj (v : zV) : zV := u1 (u1 (u1 v 1200 0 0) 1219 0 0) 1201 0 (v.1 1201 0 + 1)
abbrev vFun (v : zV) (i : Nat) (p q w : Int32) : zV := u1 (u1 (u1 (u1 (u1 (u1 v 1200 0 0) 1219 0 0) 1205 (8 * i + cn v 1202 i) p) 1206 (8 * i + cn v 1202 i) q) 1207 (8 * i + cn v 1202 i) w) 1202 i (v.1 1202 i + 1)
abbrev vCod (v : zV) (f : Nat) (w a : Int32) : zV := u1 (u1 (u1 (u1 (u1 v 1200 0 0) 1219 0 0) 1209 (60 * f + cn v 1208 f) w) 1210 (60 * f + cn v 1208 f) a) 1208 f (v.1 1208 f + 1)
abbrev vSeg (v : zV) (i : Nat) (n p : Int32) : zV := u1 (u1 (u1 (u1 (u1 v 1200 0 0) 1219 0 0) 1211 (4 * i + cn v 1203 i) n) 1212 (4 * i + cn v 1203 i) p) 1203 i (v.1 1203 i + 1)
/-- the first k bytes of a fill at b -/
def vFil (v : zV) (b : Nat) (w : Int64) : Nat → zV
  | 0 => v
  | k + 1 => u1 (vFil v b w k) 1213 (b + k) (vp_nar .byte ((w >>> ((8 * nI k : Int32).toInt64 &&& 63)).toInt32.toInt8.toInt32))
abbrev vSym (v : zV) (i : Nat) (n k b d f : Int32) : zV := u1 (u1 (u1 (u1 (u1 (u1 (u1 (u1 v 1200 0 0) 1219 0 0) 1214 (16 * i + cn v 1204 i) n) 1215 (16 * i + cn v 1204 i) k) 1216 (16 * i + cn v 1204 i) b) 1217 (16 * i + cn v 1204 i) d) 1218 (16 * i + cn v 1204 i) f) 1204 i (v.1 1204 i + 1)
theorem nI_ps (a : Nat) : nI a + 1 - 1 = nI a := Int32.add_sub_cancel _ _
set_option maxRecDepth 100000 in
set_option maxHeartbeats 4000000 in
theorem mm_object {l : Launch} {N0 t0 : Nat} {D : va_G} {cy : Nat → ClassId} {S : zS} {S0 : zS} {g : Nat} {qa : Nat → Nat} {v : zV} (hS : zmR S0 g qa v S) : zMi l yX12_object (zws yX12_object cX12_object 1 (some .int)) { frames := 0, cells := 0, slots := 0, locals := 0 } N0 t0 D cy S [.ref g] (fun r S' => (v.1 1201 0 = 6 ∧ r = 0 ∧ zmR S0 g qa (u1 v 1200 0 1) S') ∨ (¬ v.1 1201 0 = 6 ∧ r = v.1 1201 0 ∧ zmR S0 g qa (vObj v) S')) 0 0 := by
  refine zMi.of (cc := cX12_object) (maxL := 1) (ret := (some .int)) (by decide) rfl (Nat.le_of_ble_eq_true rfl) ?_
  intro p e s m args below meth c F G hr hlk hnm
  refine r_aload_n F dX12_object_0 rfl ?_
  refine r_aload_n F dX12_object_1 rfl ?_
  refine gi_objects F G hS dX12_object_2 ?_
  refine r_bipush (v := 6) F dX12_object_5 (by decide) ?_
  refine r_icmp_ne (tgt := 14) F dX12_object_7 (by decide) (fun c7 => ?_) (fun c7 => ?_)
  · refine r_iconst (v := 0) F dX12_object_14 (by decide) ?_
    refine pi_code F G hS dX12_object_15 (fun S hS => ?_)
    refine r_aload_n F dX12_object_18 rfl ?_
    refine gi_code F G hS dX12_object_19 ?_
    refine r_if_le (tgt := 27) F dX12_object_22 (by decide) (fun _ => ?_) (fun h9 => absurd (show (0 : Int32) ≤ 0 by decide) h9)
    refine r_aload_n F dX12_object_27 rfl ?_
    refine r_iconst (v := 0) F dX12_object_28 (by decide) ?_
    refine pi_linked F G hS (by decide) dX12_object_29 (fun S hS => ?_)
    refine r_aload_n F dX12_object_32 rfl ?_
    refine r_dup F dX12_object_33 rfl ?_
    refine gi_objects F G hS dX12_object_34 ?_
    refine r_iconst (v := 1) F dX12_object_37 (by decide) ?_
    refine r_iadd F dX12_object_38 ?_
    refine pi_objects F G hS dX12_object_39 (fun S hS => ?_)
    refine r_aload_n F dX12_object_42 rfl ?_
    refine gi_objects F G hS dX12_object_43 ?_
    refine r_iconst (v := 1) F dX12_object_46 (by decide) ?_
    refine r_isub F dX12_object_47 ?_
    exact e_iret F hr hlk (Or.inr ⟨c7, (show v.1 1201 0 + 1 - 1 = v.1 1201 0 from Int32.add_sub_cancel _ _), hS⟩) (by decide) (by decide) dX12_object_48
  · refine r_iconst (v := 1) F dX12_object_10 (by decide) ?_
    refine r_goto (tgt := 15) F dX12_object_11 (by decide) ?_
    refine pi_code F G hS dX12_object_15 (fun S hS => ?_)
    refine r_aload_n F dX12_object_18 rfl ?_
    refine gi_code F G hS dX12_object_19 ?_
    refine r_if_le (tgt := 27) F dX12_object_22 (by decide) (fun h9 => absurd h9 (show ¬ (1 : Int32) ≤ 0 by decide)) (fun _ => ?_)
    refine r_iconst (v := 0) F dX12_object_25 (by decide) ?_
    exact e_iret F hr hlk (Or.inl ⟨c7, rfl, hS⟩) (by decide) (by decide) dX12_object_26
set_option maxRecDepth 100000 in
set_option maxHeartbeats 4000000 in
theorem mm_function {l : Launch} {N0 t0 : Nat} {D : va_G} {cy : Nat → ClassId} {S : zS} {S0 : zS} {g : Nat} {qa : Nat → Nat} {v : zV} (hS : zmR S0 g qa v S) {o p1 p2 p3 : Int32} (hv : vRg v) : zMi l yX12_function (zws yX12_function cX12_function 6 (some .int)) { frames := 3, cells := 0, slots := 0, locals := 80 } N0 t0 D cy S [.ref g, .int o, .int p1, .int p2, .int p3] (fun r S' => (¬ (gO v o ∧ pIn p1 0 4 ∧ pIn p2 0 1 ∧ pIn p3 0 4) ∧ r = 0 ∧ zmR S0 g qa (u1 v 1200 0 1) S') ∨ ((gO v o ∧ pIn p1 0 4 ∧ pIn p2 0 1 ∧ pIn p3 0 4) ∧ ∃ i, i < cn v 1201 0 ∧ o = nI i ∧ ((v.1 1202 i = 8 ∧ r = 0 ∧ zmR S0 g qa (u1 v 1200 0 2) S') ∨ (¬ v.1 1202 i = 8 ∧ r = v.1 1202 i ∧ zmR S0 g qa (vFun v i p1 p2 p3) S')))) 0 0 := by
  refine zMi.of (cc := cX12_function) (maxL := 6) (ret := (some .int)) (by decide) rfl (Nat.le_of_ble_eq_true rfl) ?_
  intro p e s m args below meth c F G hr hlk hnm
  refine r_aload_n F dX12_function_0 rfl ?_
  refine r_aload_n F dX12_function_1 rfl ?_
  refine r_iload_n F dX12_function_2 rfl ?_
  refine c_Vi (ci := 12) F G (mm_isObject hS hv) (cwV 1 F.2.2.2.2 (zgV km_X12_130 ki_X12_isObject ke_X12_X12_isObject kn_X12 ko_X12_isObject) rfl rfl rfl ⟨rfl, hd_yX12_isObject⟩ ⟨Nat.le_of_ble_eq_true rfl, Nat.le_of_ble_eq_true rfl⟩) rfl (by decide) hS.al rfl rfl (Nat.le_of_ble_eq_true rfl) dX12_function_3 ⟨Nat.le_of_ble_eq_true rfl, Nat.le_of_ble_eq_true rfl⟩ (fun r3 S3 h3 => ?_)
  obtain ⟨a3, e3⟩ := h3
  have hs3 := e3.symm
  subst hs3
  refine r_if_eq (tgt := 37) F dX12_function_6 (by decide) (fun c6 => ?_) (fun c6 => ?_)
  · refine r_iconst (v := 1) F dX12_function_37 (by decide) ?_
    refine r_goto (tgt := 57) F dX12_function_38 (by decide) ?_
    refine pi_code F G hS dX12_function_57 (fun S hS => ?_)
    refine r_aload_n F dX12_function_60 rfl ?_
    refine gi_code F G hS dX12_function_61 ?_
    refine r_if_le (tgt := 69) F dX12_function_64 (by decide) (fun h9 => absurd h9 (show ¬ (1 : Int32) ≤ 0 by decide)) (fun _ => ?_)
    refine r_iconst (v := 0) F dX12_function_67 (by decide) ?_
    exact e_iret F hr hlk (Or.inl ⟨fun h => a3.f c6 h.1, rfl, hS⟩) (by decide) (by decide) dX12_function_68
  · refine r_iload_n F dX12_function_9 rfl ?_
    refine r_iconst (v := 0) F dX12_function_10 (by decide) ?_
    refine r_iconst (v := 4) F dX12_function_11 (by decide) ?_
    refine c_Si F G (mm_isIn _ _ _) (va_cwS 3 F.2.2.2.2 (zgS km_X12_126 ks_X12_isIn kn_X12 ko_X12_isIn) rfl rfl rfl hd_yX12_isIn ⟨Nat.le_of_ble_eq_true rfl, Nat.le_of_ble_eq_true rfl⟩) rfl rfl (Nat.le_of_ble_eq_true rfl) dX12_function_12 ⟨Nat.le_of_ble_eq_true rfl, Nat.le_of_ble_eq_true rfl⟩ (fun r12 S12 h12 => ?_)
    obtain ⟨a12, e12⟩ := h12
    have hs12 := e12.symm
    subst hs12
    refine r_if_eq (tgt := 37) F dX12_function_15 (by decide) (fun c15 => ?_) (fun c15 => ?_)
    · refine r_iconst (v := 1) F dX12_function_37 (by decide) ?_
      refine r_goto (tgt := 57) F dX12_function_38 (by decide) ?_
      refine pi_code F G hS dX12_function_57 (fun S hS => ?_)
      refine r_aload_n F dX12_function_60 rfl ?_
      refine gi_code F G hS dX12_function_61 ?_
      refine r_if_le (tgt := 69) F dX12_function_64 (by decide) (fun h9 => absurd h9 (show ¬ (1 : Int32) ≤ 0 by decide)) (fun _ => ?_)
      refine r_iconst (v := 0) F dX12_function_67 (by decide) ?_
      exact e_iret F hr hlk (Or.inl ⟨fun h => a12.f c15 h.2.1, rfl, hS⟩) (by decide) (by decide) dX12_function_68
    · refine r_iload_n F dX12_function_18 rfl ?_
      refine r_iconst (v := 0) F dX12_function_19 (by decide) ?_
      refine r_iconst (v := 1) F dX12_function_20 (by decide) ?_
      refine c_Si F G (mm_isIn _ _ _) (va_cwS 3 F.2.2.2.2 (zgS km_X12_126 ks_X12_isIn kn_X12 ko_X12_isIn) rfl rfl rfl hd_yX12_isIn ⟨Nat.le_of_ble_eq_true rfl, Nat.le_of_ble_eq_true rfl⟩) rfl rfl (Nat.le_of_ble_eq_true rfl) dX12_function_21 ⟨Nat.le_of_ble_eq_true rfl, Nat.le_of_ble_eq_true rfl⟩ (fun r21 S21 h21 => ?_)
      obtain ⟨a21, e21⟩ := h21
      have hs21 := e21.symm
      subst hs21
      refine r_if_eq (tgt := 37) F dX12_function_24 (by decide) (fun c24 => ?_) (fun c24 => ?_)
      · refine r_iconst (v := 1) F dX12_function_37 (by decide) ?_
        refine r_goto (tgt := 57) F dX12_function_38 (by decide) ?_
        refine pi_code F G hS dX12_function_57 (fun S hS => ?_)
        refine r_aload_n F dX12_function_60 rfl ?_
        refine gi_code F G hS dX12_function_61 ?_
        refine r_if_le (tgt := 69) F dX12_function_64 (by decide) (fun h9 => absurd h9 (show ¬ (1 : Int32) ≤ 0 by decide)) (fun _ => ?_)
        refine r_iconst (v := 0) F dX12_function_67 (by decide) ?_
        exact e_iret F hr hlk (Or.inl ⟨fun h => a21.f c24 h.2.2.1, rfl, hS⟩) (by decide) (by decide) dX12_function_68
      · refine r_iload F dX12_function_27 rfl ?_
        refine r_iconst (v := 0) F dX12_function_29 (by decide) ?_
        refine r_iconst (v := 4) F dX12_function_30 (by decide) ?_
        refine c_Si F G (mm_isIn _ _ _) (va_cwS 3 F.2.2.2.2 (zgS km_X12_126 ks_X12_isIn kn_X12 ko_X12_isIn) rfl rfl rfl hd_yX12_isIn ⟨Nat.le_of_ble_eq_true rfl, Nat.le_of_ble_eq_true rfl⟩) rfl rfl (Nat.le_of_ble_eq_true rfl) dX12_function_31 ⟨Nat.le_of_ble_eq_true rfl, Nat.le_of_ble_eq_true rfl⟩ (fun r31 S31 h31 => ?_)
        obtain ⟨a31, e31⟩ := h31
        have hs31 := e31.symm
        subst hs31
        refine r_if_ne (tgt := 41) F dX12_function_34 (by decide) (fun c34 => ?_) (fun c34 => ?_)
        · obtain ⟨i, hi, ei⟩ := a3.t c6
          have hn := rg_1201 hv (k := 0) (by decide)
          have hi6 : i < 6 := by have := hn.2; omega
          have hf := rg_1202 hv hi6
          subst ei
          refine r_aload_n F dX12_function_41 rfl ?_
          refine gq_functions F G hS dX12_function_42 ?_
          refine r_iload_n F dX12_function_45 rfl ?_
          refine al_functions F G hS (i) rfl hi6 dX12_function_46 ?_
          refine r_bipush (v := 8) F dX12_function_47 (by decide) ?_
          refine r_icmp_ne (tgt := 56) F dX12_function_49 (by decide) (fun c49 => ?_) (fun c49 => ?_)
          · refine r_iconst (v := 0) F dX12_function_56 (by decide) ?_
            refine pi_code F G hS dX12_function_57 (fun S hS => ?_)
            refine r_aload_n F dX12_function_60 rfl ?_
            refine gi_code F G hS dX12_function_61 ?_
            refine r_if_le (tgt := 69) F dX12_function_64 (by decide) (fun _ => ?_) (fun h9 => absurd (show (0 : Int32) ≤ 0 by decide) h9)
            have h8 : cn v 1202 i < 8 := by
              rcases Nat.lt_or_ge (cn v 1202 i) 8 with h | h
              · exact h
              · exact absurd (by rw [hf.1, show cn v 1202 i = 8 by have := hf.2; omega]; rfl) c49
            refine r_aload_n F dX12_function_69 rfl ?_
            refine r_iconst (v := 0) F dX12_function_70 (by decide) ?_
            refine pi_linked F G hS (by decide) dX12_function_71 (fun S hS => ?_)
            refine r_bipush (v := 8) F dX12_function_74 (by decide) ?_
            refine r_iload_n F dX12_function_76 rfl ?_
            refine r_imul F dX12_function_77 ?_
            refine r_aload_n F dX12_function_78 rfl ?_
            refine gq_functions F G hS dX12_function_79 ?_
            refine r_iload_n F dX12_function_82 rfl ?_
            refine al_functions F G hS (i) rfl hi6 dX12_function_83 ?_
            refine r_iadd F dX12_function_84 ?_
            refine r_istore F dX12_function_85 (by decide) ?_
            refine r_aload_n F dX12_function_87 rfl ?_
            refine gq_parameters F G hS dX12_function_88 ?_
            refine r_iload F dX12_function_91 rfl ?_
            refine r_iload_n F dX12_function_93 rfl ?_
            refine as_parameters F G hS (8 * i + cn v 1202 i) (show (8 : Int32) * nI i + v.1 1202 i = _ by rw [hf.1, nl8, nI_mul, nI_add]) (by omega) dX12_function_94 (fun S hS => ?_)
            refine r_aload_n F dX12_function_95 rfl ?_
            refine gq_results F G hS dX12_function_96 ?_
            refine r_iload F dX12_function_99 rfl ?_
            refine r_iload_n F dX12_function_101 rfl ?_
            refine as_results F G hS (8 * i + cn v 1202 i) (show (8 : Int32) * nI i + v.1 1202 i = _ by rw [hf.1, nl8, nI_mul, nI_add]) (by omega) dX12_function_102 (fun S hS => ?_)
            refine r_aload_n F dX12_function_103 rfl ?_
            refine gq_locals F G hS dX12_function_104 ?_
            refine r_iload F dX12_function_107 rfl ?_
            refine r_iload F dX12_function_109 rfl ?_
            refine as_locals F G hS (8 * i + cn v 1202 i) (show (8 : Int32) * nI i + v.1 1202 i = _ by rw [hf.1, nl8, nI_mul, nI_add]) (by omega) dX12_function_111 (fun S hS => ?_)
            refine r_aload_n F dX12_function_112 rfl ?_
            refine gq_functions F G hS dX12_function_113 ?_
            refine r_iload_n F dX12_function_116 rfl ?_
            first | refine r_dup2_11 F dX12_function_117 rfl rfl ?_ | refine r_dup2_2 F dX12_function_117 rfl ?_
            refine al_functions F G hS (i) rfl hi6 dX12_function_118 ?_
            refine r_iconst (v := 1) F dX12_function_119 (by decide) ?_
            refine r_iadd F dX12_function_120 ?_
            refine as_functions F G hS (i) rfl hi6 dX12_function_121 (fun S hS => ?_)
            refine r_aload_n F dX12_function_122 rfl ?_
            refine gq_functions F G hS dX12_function_123 ?_
            refine r_iload_n F dX12_function_126 rfl ?_
            refine al_functions F G hS (i) rfl hi6 dX12_function_127 ?_
            refine r_iconst (v := 1) F dX12_function_128 (by decide) ?_
            refine r_isub F dX12_function_129 ?_
            exact e_iret F hr hlk (Or.inr ⟨⟨⟨i, hi, rfl⟩, a12.t c15, a21.t c24, a31.t c34⟩, i, hi, rfl, Or.inr ⟨c49, (show z2 _ 1202 i (v.1 1202 i + 1) 1202 i - 1 = v.1 1202 i by rw [z2_s]; exact Int32.add_sub_cancel _ _), hS⟩⟩) (by decide) (by decide) dX12_function_130
          · refine r_iconst (v := 2) F dX12_function_52 (by decide) ?_
            refine r_goto (tgt := 57) F dX12_function_53 (by decide) ?_
            refine pi_code F G hS dX12_function_57 (fun S hS => ?_)
            refine r_aload_n F dX12_function_60 rfl ?_
            refine gi_code F G hS dX12_function_61 ?_
            refine r_if_le (tgt := 69) F dX12_function_64 (by decide) (fun h9 => absurd h9 (show ¬ (2 : Int32) ≤ 0 by decide)) (fun _ => ?_)
            refine r_iconst (v := 0) F dX12_function_67 (by decide) ?_
            exact e_iret F hr hlk (Or.inr ⟨⟨⟨i, hi, rfl⟩, a12.t c15, a21.t c24, a31.t c34⟩, i, hi, rfl, Or.inl ⟨c49, rfl, hS⟩⟩) (by decide) (by decide) dX12_function_68
        · refine r_iconst (v := 1) F dX12_function_37 (by decide) ?_
          refine r_goto (tgt := 57) F dX12_function_38 (by decide) ?_
          refine pi_code F G hS dX12_function_57 (fun S hS => ?_)
          refine r_aload_n F dX12_function_60 rfl ?_
          refine gi_code F G hS dX12_function_61 ?_
          refine r_if_le (tgt := 69) F dX12_function_64 (by decide) (fun h9 => absurd h9 (show ¬ (1 : Int32) ≤ 0 by decide)) (fun _ => ?_)
          refine r_iconst (v := 0) F dX12_function_67 (by decide) ?_
          exact e_iret F hr hlk (Or.inl ⟨fun h => a31.f c34 h.2.2.2, rfl, hS⟩) (by decide) (by decide) dX12_function_68
set_option maxRecDepth 100000 in
set_option maxHeartbeats 4000000 in
theorem mm_code {l : Launch} {N0 t0 : Nat} {D : va_G} {cy : Nat → ClassId} {S : zS} {S0 : zS} {g : Nat} {qa : Nat → Nat} {v : zV} (hS : zmR S0 g qa v S) {o f w a : Int32} (hv : vRg v) : zMi l yX12_code (zws yX12_code cX12_code 6 (some .int)) { frames := 3, cells := 0, slots := 0, locals := 80 } N0 t0 D cy S [.ref g, .int o, .int f, .int w, .int a] (fun r S' => (¬ (gT v 1202 o f ∧ pIn w 0 35) ∧ r = 0 ∧ zmR S0 g qa (u1 v 1200 0 1) S') ∨ ((gT v 1202 o f ∧ pIn w 0 35) ∧ ∃ i j, i < cn v 1201 0 ∧ o = nI i ∧ j < cn v 1202 i ∧ f = nI j ∧ ((v.1 1208 (8 * i + j) = 60 ∧ r = 0 ∧ zmR S0 g qa (u1 v 1200 0 2) S') ∨ (¬ v.1 1208 (8 * i + j) = 60 ∧ r = v.1 1208 (8 * i + j) ∧ zmR S0 g qa (vCod v (8 * i + j) w a) S')))) 0 0 := by
  refine zMi.of (cc := cX12_code) (maxL := 6) (ret := (some .int)) (by decide) rfl (Nat.le_of_ble_eq_true rfl) ?_
  intro p e s m args below meth c F G hr hlk hnm
  refine r_aload_n F dX12_code_0 rfl ?_
  refine r_aload_n F dX12_code_1 rfl ?_
  refine r_iload_n F dX12_code_2 rfl ?_
  refine r_iload_n F dX12_code_3 rfl ?_
  refine c_Vi (ci := 12) F G (mm_isFunction hS hv) (cwV 2 F.2.2.2.2 (zgV km_X12_138 ki_X12_isFunction ke_X12_X12_isFunction kn_X12 ko_X12_isFunction) rfl rfl rfl ⟨rfl, hd_yX12_isFunction⟩ ⟨Nat.le_of_ble_eq_true rfl, Nat.le_of_ble_eq_true rfl⟩) rfl (by decide) hS.al rfl rfl (Nat.le_of_ble_eq_true rfl) dX12_code_4 ⟨Nat.le_of_ble_eq_true rfl, Nat.le_of_ble_eq_true rfl⟩ (fun r4 S4 h4 => ?_)
  obtain ⟨a4, e4⟩ := h4
  have hs4 := e4.symm
  subst hs4
  refine r_if_eq (tgt := 20) F dX12_code_7 (by decide) (fun c7 => ?_) (fun c7 => ?_)
  · refine r_iconst (v := 1) F dX12_code_20 (by decide) ?_
    refine r_goto (tgt := 45) F dX12_code_21 (by decide) ?_
    refine pi_code F G hS dX12_code_45 (fun S hS => ?_)
    refine r_aload_n F dX12_code_48 rfl ?_
    refine gi_code F G hS dX12_code_49 ?_
    refine r_if_le (tgt := 57) F dX12_code_52 (by decide) (fun h9 => absurd h9 (show ¬ (1 : Int32) ≤ 0 by decide)) (fun _ => ?_)
    refine r_iconst (v := 0) F dX12_code_55 (by decide) ?_
    exact e_iret F hr hlk (Or.inl ⟨fun h => a4.f c7 h.1, rfl, hS⟩) (by decide) (by decide) dX12_code_56
  · refine r_iload_n F dX12_code_10 rfl ?_
    refine r_iconst (v := 0) F dX12_code_11 (by decide) ?_
    refine r_bipush (v := 35) F dX12_code_12 (by decide) ?_
    refine c_Si F G (mm_isIn _ _ _) (va_cwS 3 F.2.2.2.2 (zgS km_X12_126 ks_X12_isIn kn_X12 ko_X12_isIn) rfl rfl rfl hd_yX12_isIn ⟨Nat.le_of_ble_eq_true rfl, Nat.le_of_ble_eq_true rfl⟩) rfl rfl (Nat.le_of_ble_eq_true rfl) dX12_code_14 ⟨Nat.le_of_ble_eq_true rfl, Nat.le_of_ble_eq_true rfl⟩ (fun r14 S14 h14 => ?_)
    obtain ⟨a14, e14⟩ := h14
    have hs14 := e14.symm
    subst hs14
    refine r_if_ne (tgt := 24) F dX12_code_17 (by decide) (fun c17 => ?_) (fun c17 => ?_)
    · obtain ⟨i, j, hi, ei, hj, ej⟩ := a4.t c7
      have hn := rg_1201 hv (k := 0) (by decide)
      have hi6 : i < 6 := by have := hn.2; omega
      have hj8 : j < 8 := by have := (rg_1202 hv hi6).2; omega
      have hf := rg_1208 hv (k := 8 * i + j) (by omega)
      subst ei
      subst ej
      refine r_aload_n F dX12_code_24 rfl ?_
      refine gq_words F G hS dX12_code_25 ?_
      refine r_bipush (v := 8) F dX12_code_28 (by decide) ?_
      refine r_iload_n F dX12_code_30 rfl ?_
      refine r_imul F dX12_code_31 ?_
      refine r_iload_n F dX12_code_32 rfl ?_
      refine r_iadd F dX12_code_33 ?_
      refine al_words F G hS (8 * i + j) (show (8 : Int32) * nI i + nI j = _ by rw [nl8, nI_mul, nI_add]) (by omega) dX12_code_34 ?_
      refine r_bipush (v := 60) F dX12_code_35 (by decide) ?_
      refine r_icmp_ne (tgt := 44) F dX12_code_37 (by decide) (fun c37 => ?_) (fun c37 => ?_)
      · refine r_iconst (v := 0) F dX12_code_44 (by decide) ?_
        refine pi_code F G hS dX12_code_45 (fun S hS => ?_)
        refine r_aload_n F dX12_code_48 rfl ?_
        refine gi_code F G hS dX12_code_49 ?_
        refine r_if_le (tgt := 57) F dX12_code_52 (by decide) (fun _ => ?_) (fun h9 => absurd (show (0 : Int32) ≤ 0 by decide) h9)
        have h60 : cn v 1208 (8 * i + j) < 60 := by
          rcases Nat.lt_or_ge (cn v 1208 (8 * i + j)) 60 with h | h
          · exact h
          · exact absurd (by rw [hf.1, show cn v 1208 (8 * i + j) = 60 by have := hf.2; omega]; rfl) c37
        refine r_aload_n F dX12_code_57 rfl ?_
        refine r_iconst (v := 0) F dX12_code_58 (by decide) ?_
        refine pi_linked F G hS (by decide) dX12_code_59 (fun S hS => ?_)
        refine r_bipush (v := 60) F dX12_code_62 (by decide) ?_
        refine r_bipush (v := 8) F dX12_code_64 (by decide) ?_
        refine r_iload_n F dX12_code_66 rfl ?_
        refine r_imul F dX12_code_67 ?_
        refine r_iload_n F dX12_code_68 rfl ?_
        refine r_iadd F dX12_code_69 ?_
        refine r_imul F dX12_code_70 ?_
        refine r_aload_n F dX12_code_71 rfl ?_
        refine gq_words F G hS dX12_code_72 ?_
        refine r_bipush (v := 8) F dX12_code_75 (by decide) ?_
        refine r_iload_n F dX12_code_77 rfl ?_
        refine r_imul F dX12_code_78 ?_
        refine r_iload_n F dX12_code_79 rfl ?_
        refine r_iadd F dX12_code_80 ?_
        refine al_words F G hS (8 * i + j) (show (8 : Int32) * nI i + nI j = _ by rw [nl8, nI_mul, nI_add]) (by omega) dX12_code_81 ?_
        refine r_iadd F dX12_code_82 ?_
        refine r_istore F dX12_code_83 (by decide) ?_
        refine r_aload_n F dX12_code_85 rfl ?_
        refine gq_word F G hS dX12_code_86 ?_
        refine r_iload F dX12_code_89 rfl ?_
        refine r_iload_n F dX12_code_91 rfl ?_
        refine as_word F G hS (60 * (8 * i + j) + cn v 1208 (8 * i + j)) (show (60 : Int32) * ((8 : Int32) * nI i + nI j) + v.1 1208 (8 * i + j) = _ by rw [hf.1, nl8, nl60, nI_mul, nI_add, nI_mul, nI_add]) (by omega) dX12_code_92 (fun S hS => ?_)
        refine r_aload_n F dX12_code_93 rfl ?_
        refine gq_number F G hS dX12_code_94 ?_
        refine r_iload F dX12_code_97 rfl ?_
        refine r_iload F dX12_code_99 rfl ?_
        refine as_number F G hS (60 * (8 * i + j) + cn v 1208 (8 * i + j)) (show (60 : Int32) * ((8 : Int32) * nI i + nI j) + v.1 1208 (8 * i + j) = _ by rw [hf.1, nl8, nl60, nI_mul, nI_add, nI_mul, nI_add]) (by omega) dX12_code_101 (fun S hS => ?_)
        refine r_aload_n F dX12_code_102 rfl ?_
        refine gq_words F G hS dX12_code_103 ?_
        refine r_bipush (v := 8) F dX12_code_106 (by decide) ?_
        refine r_iload_n F dX12_code_108 rfl ?_
        refine r_imul F dX12_code_109 ?_
        refine r_iload_n F dX12_code_110 rfl ?_
        refine r_iadd F dX12_code_111 ?_
        first | refine r_dup2_11 F dX12_code_112 rfl rfl ?_ | refine r_dup2_2 F dX12_code_112 rfl ?_
        refine al_words F G hS (8 * i + j) (show (8 : Int32) * nI i + nI j = _ by rw [nl8, nI_mul, nI_add]) (by omega) dX12_code_113 ?_
        refine r_iconst (v := 1) F dX12_code_114 (by decide) ?_
        refine r_iadd F dX12_code_115 ?_
        refine as_words F G hS (8 * i + j) (show (8 : Int32) * nI i + nI j = _ by rw [nl8, nI_mul, nI_add]) (by omega) dX12_code_116 (fun S hS => ?_)
        refine r_aload_n F dX12_code_117 rfl ?_
        refine gq_words F G hS dX12_code_118 ?_
        refine r_bipush (v := 8) F dX12_code_121 (by decide) ?_
        refine r_iload_n F dX12_code_123 rfl ?_
        refine r_imul F dX12_code_124 ?_
        refine r_iload_n F dX12_code_125 rfl ?_
        refine r_iadd F dX12_code_126 ?_
        refine al_words F G hS (8 * i + j) (show (8 : Int32) * nI i + nI j = _ by rw [nl8, nI_mul, nI_add]) (by omega) dX12_code_127 ?_
        refine r_iconst (v := 1) F dX12_code_128 (by decide) ?_
        refine r_isub F dX12_code_129 ?_
        exact e_iret F hr hlk (Or.inr ⟨⟨⟨i, j, hi, rfl, hj, rfl⟩, a14.t c17⟩, i, j, hi, rfl, hj, rfl, Or.inr ⟨c37, (show z2 _ 1208 (8 * i + j) (v.1 1208 (8 * i + j) + 1) 1208 (8 * i + j) - 1 = v.1 1208 (8 * i + j) by rw [z2_s]; exact Int32.add_sub_cancel _ _), hS⟩⟩) (by decide) (by decide) dX12_code_130
      · refine r_iconst (v := 2) F dX12_code_40 (by decide) ?_
        refine r_goto (tgt := 45) F dX12_code_41 (by decide) ?_
        refine pi_code F G hS dX12_code_45 (fun S hS => ?_)
        refine r_aload_n F dX12_code_48 rfl ?_
        refine gi_code F G hS dX12_code_49 ?_
        refine r_if_le (tgt := 57) F dX12_code_52 (by decide) (fun h9 => absurd h9 (show ¬ (2 : Int32) ≤ 0 by decide)) (fun _ => ?_)
        refine r_iconst (v := 0) F dX12_code_55 (by decide) ?_
        exact e_iret F hr hlk (Or.inr ⟨⟨⟨i, j, hi, rfl, hj, rfl⟩, a14.t c17⟩, i, j, hi, rfl, hj, rfl, Or.inl ⟨c37, rfl, hS⟩⟩) (by decide) (by decide) dX12_code_56
    · refine r_iconst (v := 1) F dX12_code_20 (by decide) ?_
      refine r_goto (tgt := 45) F dX12_code_21 (by decide) ?_
      refine pi_code F G hS dX12_code_45 (fun S hS => ?_)
      refine r_aload_n F dX12_code_48 rfl ?_
      refine gi_code F G hS dX12_code_49 ?_
      refine r_if_le (tgt := 57) F dX12_code_52 (by decide) (fun h9 => absurd h9 (show ¬ (1 : Int32) ≤ 0 by decide)) (fun _ => ?_)
      refine r_iconst (v := 0) F dX12_code_55 (by decide) ?_
      exact e_iret F hr hlk (Or.inl ⟨fun h => a14.f c17 h.2, rfl, hS⟩) (by decide) (by decide) dX12_code_56
set_option maxRecDepth 100000 in
set_option maxHeartbeats 4000000 in
theorem mm_segment {l : Launch} {N0 t0 : Nat} {D : va_G} {cy : Nat → ClassId} {S : zS} {S0 : zS} {g : Nat} {qa : Nat → Nat} {v : zV} (hS : zmR S0 g qa v S) {o n p1 : Int32} (hv : vRg v) : zMi l yX12_segment (zws yX12_segment cX12_segment 4 (some .int)) { frames := 3, cells := 0, slots := 0, locals := 80 } N0 t0 D cy S [.ref g, .int o, .int n, .int p1] (fun r S' => (¬ (gO v o ∧ pIn n 1 64 ∧ pIn p1 0 4) ∧ r = 0 ∧ zmR S0 g qa (u1 v 1200 0 1) S') ∨ ((gO v o ∧ pIn n 1 64 ∧ pIn p1 0 4) ∧ ∃ i, i < cn v 1201 0 ∧ o = nI i ∧ ((v.1 1203 i = 4 ∧ r = 0 ∧ zmR S0 g qa (u1 v 1200 0 2) S') ∨ (¬ v.1 1203 i = 4 ∧ r = v.1 1203 i ∧ zmR S0 g qa (vSeg v i n p1) S')))) 0 0 := by
  refine zMi.of (cc := cX12_segment) (maxL := 4) (ret := (some .int)) (by decide) rfl (Nat.le_of_ble_eq_true rfl) ?_
  intro p e s m args below meth c F G hr hlk hnm
  refine r_aload_n F dX12_segment_0 rfl ?_
  refine r_aload_n F dX12_segment_1 rfl ?_
  refine r_iload_n F dX12_segment_2 rfl ?_
  refine c_Vi (ci := 12) F G (mm_isObject hS hv) (cwV 1 F.2.2.2.2 (zgV km_X12_130 ki_X12_isObject ke_X12_X12_isObject kn_X12 ko_X12_isObject) rfl rfl rfl ⟨rfl, hd_yX12_isObject⟩ ⟨Nat.le_of_ble_eq_true rfl, Nat.le_of_ble_eq_true rfl⟩) rfl (by decide) hS.al rfl rfl (Nat.le_of_ble_eq_true rfl) dX12_segment_3 ⟨Nat.le_of_ble_eq_true rfl, Nat.le_of_ble_eq_true rfl⟩ (fun r3 S3 h3 => ?_)
  obtain ⟨a3, e3⟩ := h3
  have hs3 := e3.symm
  subst hs3
  refine r_if_eq (tgt := 28) F dX12_segment_6 (by decide) (fun c6 => ?_) (fun c6 => ?_)
  · refine r_iconst (v := 1) F dX12_segment_28 (by decide) ?_
    refine r_goto (tgt := 47) F dX12_segment_29 (by decide) ?_
    refine pi_code F G hS dX12_segment_47 (fun S hS => ?_)
    refine r_aload_n F dX12_segment_50 rfl ?_
    refine gi_code F G hS dX12_segment_51 ?_
    refine r_if_le (tgt := 59) F dX12_segment_54 (by decide) (fun h9 => absurd h9 (show ¬ (1 : Int32) ≤ 0 by decide)) (fun _ => ?_)
    refine r_iconst (v := 0) F dX12_segment_57 (by decide) ?_
    exact e_iret F hr hlk (Or.inl ⟨fun h => a3.f c6 h.1, rfl, hS⟩) (by decide) (by decide) dX12_segment_58
  · refine r_iload_n F dX12_segment_9 rfl ?_
    refine r_iconst (v := 1) F dX12_segment_10 (by decide) ?_
    refine r_bipush (v := 64) F dX12_segment_11 (by decide) ?_
    refine c_Si F G (mm_isIn _ _ _) (va_cwS 3 F.2.2.2.2 (zgS km_X12_126 ks_X12_isIn kn_X12 ko_X12_isIn) rfl rfl rfl hd_yX12_isIn ⟨Nat.le_of_ble_eq_true rfl, Nat.le_of_ble_eq_true rfl⟩) rfl rfl (Nat.le_of_ble_eq_true rfl) dX12_segment_13 ⟨Nat.le_of_ble_eq_true rfl, Nat.le_of_ble_eq_true rfl⟩ (fun r13 S13 h13 => ?_)
    obtain ⟨a13, e13⟩ := h13
    have hs13 := e13.symm
    subst hs13
    refine r_if_eq (tgt := 28) F dX12_segment_16 (by decide) (fun c16 => ?_) (fun c16 => ?_)
    · refine r_iconst (v := 1) F dX12_segment_28 (by decide) ?_
      refine r_goto (tgt := 47) F dX12_segment_29 (by decide) ?_
      refine pi_code F G hS dX12_segment_47 (fun S hS => ?_)
      refine r_aload_n F dX12_segment_50 rfl ?_
      refine gi_code F G hS dX12_segment_51 ?_
      refine r_if_le (tgt := 59) F dX12_segment_54 (by decide) (fun h9 => absurd h9 (show ¬ (1 : Int32) ≤ 0 by decide)) (fun _ => ?_)
      refine r_iconst (v := 0) F dX12_segment_57 (by decide) ?_
      exact e_iret F hr hlk (Or.inl ⟨fun h => a13.f c16 h.2.1, rfl, hS⟩) (by decide) (by decide) dX12_segment_58
    · refine r_iload_n F dX12_segment_19 rfl ?_
      refine r_iconst (v := 0) F dX12_segment_20 (by decide) ?_
      refine r_iconst (v := 4) F dX12_segment_21 (by decide) ?_
      refine c_Si F G (mm_isIn _ _ _) (va_cwS 3 F.2.2.2.2 (zgS km_X12_126 ks_X12_isIn kn_X12 ko_X12_isIn) rfl rfl rfl hd_yX12_isIn ⟨Nat.le_of_ble_eq_true rfl, Nat.le_of_ble_eq_true rfl⟩) rfl rfl (Nat.le_of_ble_eq_true rfl) dX12_segment_22 ⟨Nat.le_of_ble_eq_true rfl, Nat.le_of_ble_eq_true rfl⟩ (fun r22 S22 h22 => ?_)
      obtain ⟨a22, e22⟩ := h22
      have hs22 := e22.symm
      subst hs22
      refine r_if_ne (tgt := 32) F dX12_segment_25 (by decide) (fun c25 => ?_) (fun c25 => ?_)
      · obtain ⟨i, hi, ei⟩ := a3.t c6
        have hn := rg_1201 hv (k := 0) (by decide)
        have hi6 : i < 6 := by have := hn.2; omega
        have hf := rg_1203 hv hi6
        subst ei
        refine r_aload_n F dX12_segment_32 rfl ?_
        refine gq_segments F G hS dX12_segment_33 ?_
        refine r_iload_n F dX12_segment_36 rfl ?_
        refine al_segments F G hS (i) rfl hi6 dX12_segment_37 ?_
        refine r_iconst (v := 4) F dX12_segment_38 (by decide) ?_
        refine r_icmp_ne (tgt := 46) F dX12_segment_39 (by decide) (fun c39 => ?_) (fun c39 => ?_)
        · refine r_iconst (v := 0) F dX12_segment_46 (by decide) ?_
          refine pi_code F G hS dX12_segment_47 (fun S hS => ?_)
          refine r_aload_n F dX12_segment_50 rfl ?_
          refine gi_code F G hS dX12_segment_51 ?_
          refine r_if_le (tgt := 59) F dX12_segment_54 (by decide) (fun _ => ?_) (fun h9 => absurd (show (0 : Int32) ≤ 0 by decide) h9)
          have h4 : cn v 1203 i < 4 := by
            rcases Nat.lt_or_ge (cn v 1203 i) 4 with h | h
            · exact h
            · exact absurd (by rw [hf.1, show cn v 1203 i = 4 by have := hf.2; omega]; rfl) c39
          refine r_aload_n F dX12_segment_59 rfl ?_
          refine r_iconst (v := 0) F dX12_segment_60 (by decide) ?_
          refine pi_linked F G hS (by decide) dX12_segment_61 (fun S hS => ?_)
          refine r_aload_n F dX12_segment_64 rfl ?_
          refine gq_size F G hS dX12_segment_65 ?_
          refine r_iconst (v := 4) F dX12_segment_68 (by decide) ?_
          refine r_iload_n F dX12_segment_69 rfl ?_
          refine r_imul F dX12_segment_70 ?_
          refine r_aload_n F dX12_segment_71 rfl ?_
          refine gq_segments F G hS dX12_segment_72 ?_
          refine r_iload_n F dX12_segment_75 rfl ?_
          refine al_segments F G hS (i) rfl hi6 dX12_segment_76 ?_
          refine r_iadd F dX12_segment_77 ?_
          refine r_iload_n F dX12_segment_78 rfl ?_
          refine as_size F G hS (4 * i + cn v 1203 i) (show (4 : Int32) * nI i + v.1 1203 i = _ by rw [hf.1, nl4, nI_mul, nI_add]) (by omega) dX12_segment_79 (fun S hS => ?_)
          refine r_aload_n F dX12_segment_80 rfl ?_
          refine gq_power F G hS dX12_segment_81 ?_
          refine r_iconst (v := 4) F dX12_segment_84 (by decide) ?_
          refine r_iload_n F dX12_segment_85 rfl ?_
          refine r_imul F dX12_segment_86 ?_
          refine r_aload_n F dX12_segment_87 rfl ?_
          refine gq_segments F G hS dX12_segment_88 ?_
          refine r_iload_n F dX12_segment_91 rfl ?_
          refine al_segments F G hS (i) rfl hi6 dX12_segment_92 ?_
          refine r_iadd F dX12_segment_93 ?_
          refine r_iload_n F dX12_segment_94 rfl ?_
          refine as_power F G hS (4 * i + cn v 1203 i) (show (4 : Int32) * nI i + v.1 1203 i = _ by rw [hf.1, nl4, nI_mul, nI_add]) (by omega) dX12_segment_95 (fun S hS => ?_)
          refine r_aload_n F dX12_segment_96 rfl ?_
          refine gq_segments F G hS dX12_segment_97 ?_
          refine r_iload_n F dX12_segment_100 rfl ?_
          first | refine r_dup2_11 F dX12_segment_101 rfl rfl ?_ | refine r_dup2_2 F dX12_segment_101 rfl ?_
          refine al_segments F G hS (i) rfl hi6 dX12_segment_102 ?_
          refine r_iconst (v := 1) F dX12_segment_103 (by decide) ?_
          refine r_iadd F dX12_segment_104 ?_
          refine as_segments F G hS (i) rfl hi6 dX12_segment_105 (fun S hS => ?_)
          refine r_aload_n F dX12_segment_106 rfl ?_
          refine gq_segments F G hS dX12_segment_107 ?_
          refine r_iload_n F dX12_segment_110 rfl ?_
          refine al_segments F G hS (i) rfl hi6 dX12_segment_111 ?_
          refine r_iconst (v := 1) F dX12_segment_112 (by decide) ?_
          refine r_isub F dX12_segment_113 ?_
          exact e_iret F hr hlk (Or.inr ⟨⟨⟨i, hi, rfl⟩, a13.t c16, a22.t c25⟩, i, hi, rfl, Or.inr ⟨c39, (show z2 _ 1203 i (v.1 1203 i + 1) 1203 i - 1 = v.1 1203 i by rw [z2_s]; exact Int32.add_sub_cancel _ _), hS⟩⟩) (by decide) (by decide) dX12_segment_114
        · refine r_iconst (v := 2) F dX12_segment_42 (by decide) ?_
          refine r_goto (tgt := 47) F dX12_segment_43 (by decide) ?_
          refine pi_code F G hS dX12_segment_47 (fun S hS => ?_)
          refine r_aload_n F dX12_segment_50 rfl ?_
          refine gi_code F G hS dX12_segment_51 ?_
          refine r_if_le (tgt := 59) F dX12_segment_54 (by decide) (fun h9 => absurd h9 (show ¬ (2 : Int32) ≤ 0 by decide)) (fun _ => ?_)
          refine r_iconst (v := 0) F dX12_segment_57 (by decide) ?_
          exact e_iret F hr hlk (Or.inr ⟨⟨⟨i, hi, rfl⟩, a13.t c16, a22.t c25⟩, i, hi, rfl, Or.inl ⟨c39, rfl, hS⟩⟩) (by decide) (by decide) dX12_segment_58
      · refine r_iconst (v := 1) F dX12_segment_28 (by decide) ?_
        refine r_goto (tgt := 47) F dX12_segment_29 (by decide) ?_
        refine pi_code F G hS dX12_segment_47 (fun S hS => ?_)
        refine r_aload_n F dX12_segment_50 rfl ?_
        refine gi_code F G hS dX12_segment_51 ?_
        refine r_if_le (tgt := 59) F dX12_segment_54 (by decide) (fun h9 => absurd h9 (show ¬ (1 : Int32) ≤ 0 by decide)) (fun _ => ?_)
        refine r_iconst (v := 0) F dX12_segment_57 (by decide) ?_
        exact e_iret F hr hlk (Or.inl ⟨fun h => a22.f c25 h.2.2, rfl, hS⟩) (by decide) (by decide) dX12_segment_58
theorem vFil_ne {v : zV} {b : Nat} {w : Int64} {i : Nat} (h : i ≠ 1213) (k n : Nat) : (vFil v b w n).1 i k = v.1 i k := by
  induction n with
  | zero => rfl
  | succ n ih => exact (z2_n _ _ (Or.inl h)).trans ih
section ZLP
variable {p : Program} {l : Launch} {e : Env} {R : Room} {s : State} {m : MethodId} {args : Array Value} {below : List Frame} {meth : Method} {c : Code} {Q : State → Prop} {N0 : Nat} {D : va_G} {cy : Nat → ClassId} {nL cells slots hd : Nat}
/-- a loop: a measure that falls -/
theorem z_loop {S : zS} {lv : List (Nat × Value)} (I : Nat → zS → List (Nat × Value) → Prop) (n : Nat) (body : ∀ (n : Nat) (S : zS) (lv : List (Nat × Value)), I n S lv → (∀ (n' : Nat) (S' : zS) (lv' : List (Nat × Value)), n' < n → I n' S' lv' → zW p l e R s m args below meth c Q N0 D cy nL cells slots S' lv' hd []) → zW p l e R s m args below meth c Q N0 D cy nL cells slots S lv hd []) (h : I n S lv) : zW p l e R s m args below meth c Q N0 D cy nL cells slots S lv hd [] := by
  induction n using Nat.strongRecOn generalizing S lv with
  | ind n ih => exact body n S lv h (fun n' S' lv' hn h' => ih n' hn h')
end ZLP
set_option maxRecDepth 100000 in
set_option maxHeartbeats 4000000 in
theorem mm_fill {l : Launch} {N0 t0 : Nat} {D : va_G} {cy : Nat → ClassId} {S : zS} {S0 : zS} {g : Nat} {qa : Nat → Nat} {v : zV} (hS : zmR S0 g qa v S) {o f x : Int32} {w : Int64} (hv : vRg v) : zMv l yX12_fill (zws yX12_fill cX12_fill 7 none) { frames := 3, cells := 0, slots := 0, locals := 80 } N0 t0 D cy S [.ref g, .int o, .int f, .int x, .long w] (fun S' => (¬ (gT v 1203 o f ∧ ¬ x < 0 ∧ ∃ i j, i < cn v 1201 0 ∧ o = nI i ∧ j < cn v 1203 i ∧ f = nI j ∧ x < v.1 1211 (4 * i + j)) ∧ zmR S0 g qa (u1 v 1200 0 1) S') ∨ ((gT v 1203 o f ∧ ¬ x < 0 ∧ ∃ i j, i < cn v 1201 0 ∧ o = nI i ∧ j < cn v 1203 i ∧ f = nI j ∧ x < v.1 1211 (4 * i + j)) ∧ ∃ i j t, i < cn v 1201 0 ∧ o = nI i ∧ j < cn v 1203 i ∧ f = nI j ∧ x = nI t ∧ t < cn v 1211 (4 * i + j) ∧ zmR S0 g qa (vFil (u1 (u1 v 1200 0 0) 1219 0 0) (64 * (4 * i + j) + t) w (min 8 (cn v 1211 (4 * i + j) - t))) S')) 0 0 := by
  refine zMv.of (cc := cX12_fill) (maxL := 7) (ret := none) (by decide) rfl (Nat.le_of_ble_eq_true rfl) ?_
  intro p e s m args below meth c F G hr hlk hnm
  refine r_aload_n F dX12_fill_0 rfl ?_
  refine r_aload_n F dX12_fill_1 rfl ?_
  refine r_iload_n F dX12_fill_2 rfl ?_
  refine r_iload_n F dX12_fill_3 rfl ?_
  refine c_Vi (ci := 12) F G (mm_isSegment hS hv) (cwV 2 F.2.2.2.2 (zgV km_X12_142 ki_X12_isSegment ke_X12_X12_isSegment kn_X12 ko_X12_isSegment) rfl rfl rfl ⟨rfl, hd_yX12_isSegment⟩ ⟨Nat.le_of_ble_eq_true rfl, Nat.le_of_ble_eq_true rfl⟩) rfl (by decide) hS.al rfl rfl (Nat.le_of_ble_eq_true rfl) dX12_fill_4 ⟨Nat.le_of_ble_eq_true rfl, Nat.le_of_ble_eq_true rfl⟩ (fun r4 S4 h4 => ?_)
  obtain ⟨a4, e4⟩ := h4
  have hs4 := e4.symm
  subst hs4
  refine r_if_eq (tgt := 14) F dX12_fill_7 (by decide) (fun c7 => ?_) (fun c7 => ?_)
  · refine r_iconst (v := 1) F dX12_fill_14 (by decide) ?_
    refine r_goto (tgt := 37) F dX12_fill_15 (by decide) ?_
    refine pi_code F G hS dX12_fill_37 (fun S hS => ?_)
    refine r_aload_n F dX12_fill_40 rfl ?_
    refine gi_code F G hS dX12_fill_41 ?_
    refine r_if_le (tgt := 48) F dX12_fill_44 (by decide) (fun h9 => absurd h9 (show ¬ (1 : Int32) ≤ 0 by decide)) (fun _ => ?_)
    exact e_vret F hr hlk (Or.inl ⟨fun h => a4.f c7 h.1, hS⟩) (by decide) (by decide) dX12_fill_47
  · refine r_iload_n F dX12_fill_10 rfl ?_
    refine r_if_ge (tgt := 18) F dX12_fill_11 (by decide) (fun c11 => ?_) (fun c11 => ?_)
    · obtain ⟨i, j, hi, ei, hj, ej⟩ := a4.t c7
      have hn := rg_1201 hv (k := 0) (by decide)
      have hi6 : i < 6 := by have := hn.2; omega
      have hj4 : j < 4 := by have := (rg_1203 hv hi6).2; omega
      have hf := rg_1211 hv (k := 4 * i + j) (by omega)
      subst ei
      subst ej
      refine r_iload_n F dX12_fill_18 rfl ?_
      refine r_aload_n F dX12_fill_19 rfl ?_
      refine gq_size F G hS dX12_fill_20 ?_
      refine r_iconst (v := 4) F dX12_fill_23 (by decide) ?_
      refine r_iload_n F dX12_fill_24 rfl ?_
      refine r_imul F dX12_fill_25 ?_
      refine r_iload_n F dX12_fill_26 rfl ?_
      refine r_iadd F dX12_fill_27 ?_
      refine al_size F G hS (4 * i + j) (show (4 : Int32) * nI i + nI j = _ by rw [nl4, nI_mul, nI_add]) (by omega) dX12_fill_28 ?_
      refine r_icmp_lt (tgt := 36) F dX12_fill_29 (by decide) (fun c29 => ?_) (fun c29 => ?_)
      · refine r_iconst (v := 0) F dX12_fill_36 (by decide) ?_
        refine pi_code F G hS dX12_fill_37 (fun S hS => ?_)
        refine r_aload_n F dX12_fill_40 rfl ?_
        refine gi_code F G hS dX12_fill_41 ?_
        refine r_if_le (tgt := 48) F dX12_fill_44 (by decide) (fun _ => ?_) (fun h9 => absurd (show (0 : Int32) ≤ 0 by decide) h9)
        obtain ⟨t, ht, et⟩ := nI_of (Int32.not_lt.mpr c11)
        subst et
        have hz := hf.2
        have htl : t < cn v 1211 (4 * i + j) := by
          have c29b := c29
          rw [hf.1, nI_ltI ht (by omega)] at c29b
          exact c29b
        refine r_aload_n F dX12_fill_48 rfl ?_
        refine r_iconst (v := 0) F dX12_fill_49 (by decide) ?_
        refine pi_linked F G hS (by decide) dX12_fill_50 (fun S hS => ?_)
        refine r_iconst (v := 0) F dX12_fill_53 (by decide) ?_
        refine r_istore F dX12_fill_54 (by decide) ?_
        refine z_loop (fun n S lv => ∃ k, k + n = min 8 (cn v 1211 (4 * i + j) - t) ∧ zmR S0 g qa (vFil (u1 (u1 v 1200 0 0) 1219 0 0) (64 * (4 * i + j) + t) w k) S ∧ lv = [(6, .int (nI k)), (0, .ref g), (1, .int (nI i)), (2, .int (nI j)), (3, .int (nI t)), (4, .long w)]) (min 8 (cn v 1211 (4 * i + j) - t)) ?_ ⟨0, by omega, hS, rfl⟩
        rintro n S lv ⟨k, hn9, hS, rfl⟩ ih
        refine r_iload F dX12_fill_56 rfl ?_
        refine r_bipush (v := 8) F dX12_fill_58 (by decide) ?_
        refine r_icmp_ge (tgt := 114) F dX12_fill_60 (by decide) (fun c60 => ?_) (fun c60 => ?_)
        · have hk8 : 8 ≤ k := by
            rw [nl8, nI_leI (by omega) (by omega)] at c60
            exact c60
          exact e_vret F hr hlk (Or.inr ⟨⟨⟨i, j, hi, rfl, hj, rfl⟩, nI_pos ht, i, j, hi, rfl, hj, rfl, c29⟩, i, j, t, hi, rfl, hj, rfl, rfl, htl, by rw [show min 8 (cn v 1211 (4 * i + j) - t) = k by omega]; exact hS⟩) (by decide) (by decide) dX12_fill_114
        · refine r_iload_n F dX12_fill_63 rfl ?_
          refine r_iload F dX12_fill_64 rfl ?_
          refine r_iadd F dX12_fill_66 ?_
          refine r_aload_n F dX12_fill_67 rfl ?_
          refine gq_size F G hS dX12_fill_68 ?_
          refine r_iconst (v := 4) F dX12_fill_71 (by decide) ?_
          refine r_iload_n F dX12_fill_72 rfl ?_
          refine r_imul F dX12_fill_73 ?_
          refine r_iload_n F dX12_fill_74 rfl ?_
          refine r_iadd F dX12_fill_75 ?_
          refine al_size F G hS (4 * i + j) (show (4 : Int32) * nI i + nI j = _ by rw [nl4, nI_mul, nI_add]) (by omega) dX12_fill_76 ?_
          refine r_icmp_ge (tgt := 114) F dX12_fill_77 (by decide) (fun c77 => ?_) (fun c77 => ?_)
          · have hk8 : cn v 1211 (4 * i + j) ≤ t + k := by
              have e77 := vFil_ne (v := u1 (u1 v 1200 0 0) 1219 0 0) (b := 64 * (4 * i + j) + t) (w := w) (i := 1211) (by decide) (4 * i + j) k
              rw [e77] at c77
              have c77b :  v.1 1211 (4 * i + j) ≤ nI t + nI k := c77
              rw [hf.1, nI_add, nI_leI (by omega) (by omega)] at c77b
              exact c77b
            exact e_vret F hr hlk (Or.inr ⟨⟨⟨i, j, hi, rfl, hj, rfl⟩, nI_pos ht, i, j, hi, rfl, hj, rfl, c29⟩, i, j, t, hi, rfl, hj, rfl, rfl, htl, by rw [show min 8 (cn v 1211 (4 * i + j) - t) = k by omega]; exact hS⟩) (by decide) (by decide) dX12_fill_114
          · have hlt : t + k < cn v 1211 (4 * i + j) := by
              have e77 := vFil_ne (v := u1 (u1 v 1200 0 0) 1219 0 0) (b := 64 * (4 * i + j) + t) (w := w) (i := 1211) (by decide) (4 * i + j) k
              rw [e77] at c77
              have c77b : ¬ v.1 1211 (4 * i + j) ≤ nI t + nI k := c77
              rw [hf.1, nI_add, nI_leI (by omega) (by omega)] at c77b
              omega
            have hk8 : k < 8 := by
              rw [nl8, nI_leI (by omega) (by omega)] at c60
              omega
            refine r_aload_n F dX12_fill_80 rfl ?_
            refine gq_bytes F G hS dX12_fill_81 ?_
            refine r_bipush (v := 64) F dX12_fill_84 (by decide) ?_
            refine r_iconst (v := 4) F dX12_fill_86 (by decide) ?_
            refine r_iload_n F dX12_fill_87 rfl ?_
            refine r_imul F dX12_fill_88 ?_
            refine r_iload_n F dX12_fill_89 rfl ?_
            refine r_iadd F dX12_fill_90 ?_
            refine r_imul F dX12_fill_91 ?_
            refine r_iload_n F dX12_fill_92 rfl ?_
            refine r_iadd F dX12_fill_93 ?_
            refine r_iload F dX12_fill_94 rfl ?_
            refine r_iadd F dX12_fill_96 ?_
            refine r_lload F dX12_fill_97 rfl ?_
            refine r_bipush (v := 8) F dX12_fill_99 (by decide) ?_
            refine r_iload F dX12_fill_101 rfl ?_
            refine r_imul F dX12_fill_103 ?_
            refine r_lshr F dX12_fill_104 ?_
            refine r_l2i F dX12_fill_105 ?_
            refine r_i2b F dX12_fill_106 ?_
            refine as_bytes F G hS (64 * (4 * i + j) + (t + k)) (show (64 : Int32) * ((4 : Int32) * nI i + nI j) + nI t + nI k = _ by rw [nl4, nl64, nI_mul, nI_add, nI_mul, nI_add, nI_add, Nat.add_assoc]) (by omega) dX12_fill_107 (fun S hS => ?_)
            refine r_iinc F dX12_fill_108 rfl (by decide) ?_
            refine r_goto (tgt := 56) F dX12_fill_111 (by decide) ?_
            exact ih (n - 1) _ _ (by omega) ⟨k + 1, by omega, by rw [← Nat.add_assoc] at hS; exact hS, by rw [show nI k + Int32.ofInt 1 = nI (k + 1) from nI_add k 1]; rfl⟩
      · refine r_iconst (v := 1) F dX12_fill_32 (by decide) ?_
        refine r_goto (tgt := 37) F dX12_fill_33 (by decide) ?_
        refine pi_code F G hS dX12_fill_37 (fun S hS => ?_)
        refine r_aload_n F dX12_fill_40 rfl ?_
        refine gi_code F G hS dX12_fill_41 ?_
        refine r_if_le (tgt := 48) F dX12_fill_44 (by decide) (fun h9 => absurd h9 (show ¬ (1 : Int32) ≤ 0 by decide)) (fun _ => ?_)
        exact e_vret F hr hlk (Or.inl ⟨fun h => by obtain ⟨_, _, i2, j2, q1, q2, q3, q4, q5⟩ := h; have q6 := (nI_eq (by have := hn.2; omega) (by have := hn.2; omega)).mp q2; subst q6; have q7 := (nI_eq (by omega) (by have := (rg_1203 hv hi6).2; omega)).mp q4; subst q7; exact c29 q5, hS⟩) (by decide) (by decide) dX12_fill_47
    · refine r_iconst (v := 1) F dX12_fill_14 (by decide) ?_
      refine r_goto (tgt := 37) F dX12_fill_15 (by decide) ?_
      refine pi_code F G hS dX12_fill_37 (fun S hS => ?_)
      refine r_aload_n F dX12_fill_40 rfl ?_
      refine gi_code F G hS dX12_fill_41 ?_
      refine r_if_le (tgt := 48) F dX12_fill_44 (by decide) (fun h9 => absurd h9 (show ¬ (1 : Int32) ≤ 0 by decide)) (fun _ => ?_)
      exact e_vret F hr hlk (Or.inl ⟨fun h => h.2.1 (Int32.not_le.mp c11), hS⟩) (by decide) (by decide) dX12_fill_47
