abbrev vObj (v : zV) : zV := u1 (u1 (u1 v 1200 0 0) 1219 0 0) 1201 0 (v.1 1201 0 + 1)
abbrev vFun (v : zV) (i : Nat) (p q w : Int32) : zV := u1 (u1 (u1 (u1 (u1 (u1 v 1200 0 0) 1219 0 0) 1205 (8 * i + cn v 1202 i) p) 1206 (8 * i + cn v 1202 i) q) 1207 (8 * i + cn v 1202 i) w) 1202 i (v.1 1202 i + 1)
abbrev vCod (v : zV) (f : Nat) (w a : Int32) : zV := u1 (u1 (u1 (u1 (u1 v 1200 0 0) 1219 0 0) 1209 (60 * f + cn v 1208 f) w) 1210 (60 * f + cn v 1208 f) a) 1208 f (v.1 1208 f + 1)
abbrev vSeg (v : zV) (i : Nat) (n p : Int32) : zV := u1 (u1 (u1 (u1 (u1 v 1200 0 0) 1219 0 0) 1211 (4 * i + cn v 1203 i) n) 1212 (4 * i + cn v 1203 i) p) 1203 i (v.1 1203 i + 1)
/-- the first k bytes of a fill at b -/
def vFil (v : zV) (b : Nat) (w : Int64) : Nat → zV
  | 0 => v
  | k + 1 => u1 (vFil v b w k) 1213 (b + k) (vp_nar .byte ((w >>> ((8 * nI k : Int32).toInt64 &&& 63)).toInt32.toInt8.toInt32))
abbrev vSym (v : zV) (i : Nat) (n k b d f : Int32) : zV := u1 (u1 (u1 (u1 (u1 (u1 (u1 (u1 v 1200 0 0) 1219 0 0) 1214 (16 * i + cn v 1204 i) n) 1215 (16 * i + cn v 1204 i) k) 1216 (16 * i + cn v 1204 i) b) 1217 (16 * i + cn v 1204 i) d) 1218 (16 * i + cn v 1204 i) f) 1204 i (v.1 1204 i + 1)
theorem nI_ps (a : Nat) : nI a + 1 - 1 = nI a := Int32.add_sub_cancel _ _
set_option maxRecDepth 100000 in
set_option maxHeartbeats 4000000 in
theorem mm_object {l : Launch} {N0 t0 : Nat} {D : va_G} {cy : Nat → ClassId} {S : zS} {S0 : zS} {g : Nat} {qa : Nat → Nat} {v : zV} (hS : zmR S0 g qa v S) : zMi l yX12_object (zws yX12_object cX12_object 1 (some .int)) { frames := 0, cells := 0, slots := 0, locals := 0 } N0 t0 D cy S [.ref g] (fun r S' => (v.1 1201 0 = 6 ∧ r = 0 ∧ zmR S0 g qa (u1 v 1200 0 1) S') ∨ (¬ v.1 1201 0 = 6 ∧ r = v.1 1201 0 ∧ zmR S0 g qa (vObj v) S')) 0 0 := by
  refine zMi.of (cc := cX12_object) (maxL := 1) (ret := (some .int)) (by decide) rfl (Nat.le_of_ble_eq_true rfl) ?_
  intro p e s m args below meth c F G hr hlk hnm
  refine r_aload_n F dX12_object_0 rfl ?_
  refine r_aload_n F dX12_object_1 rfl ?_
  refine gi_objects F G hS dX12_object_2 ?_
  refine r_bipush (v := 6) F dX12_object_5 (by decide) ?_
  refine r_icmp_ne (tgt := 14) F dX12_object_7 (by decide) (fun c7 => ?_) (fun c7 => ?_)
  · refine r_iconst (v := 0) F dX12_object_14 (by decide) ?_
    refine pi_code F G hS dX12_object_15 (fun S hS => ?_)
    refine r_aload_n F dX12_object_18 rfl ?_
    refine gi_code F G hS dX12_object_19 ?_
    refine r_if_le (tgt := 27) F dX12_object_22 (by decide) (fun _ => ?_) (fun h9 => absurd (show (0 : Int32) ≤ 0 by decide) h9)
    refine r_aload_n F dX12_object_27 rfl ?_
    refine r_iconst (v := 0) F dX12_object_28 (by decide) ?_
    refine pi_linked F G hS (by decide) dX12_object_29 (fun S hS => ?_)
    refine r_aload_n F dX12_object_32 rfl ?_
    refine r_dup F dX12_object_33 rfl ?_
    refine gi_objects F G hS dX12_object_34 ?_
    refine r_iconst (v := 1) F dX12_object_37 (by decide) ?_
    refine r_iadd F dX12_object_38 ?_
    refine pi_objects F G hS dX12_object_39 (fun S hS => ?_)
    refine r_aload_n F dX12_object_42 rfl ?_
    refine gi_objects F G hS dX12_object_43 ?_
    refine r_iconst (v := 1) F dX12_object_46 (by decide) ?_
    refine r_isub F dX12_object_47 ?_
    exact e_iret F hr hlk (Or.inr ⟨c7, (show v.1 1201 0 + 1 - 1 = v.1 1201 0 from Int32.add_sub_cancel _ _), hS⟩) (by decide) (by decide) dX12_object_48
  · refine r_iconst (v := 1) F dX12_object_10 (by decide) ?_
    refine r_goto (tgt := 15) F dX12_object_11 (by decide) ?_
    refine pi_code F G hS dX12_object_15 (fun S hS => ?_)
    refine r_aload_n F dX12_object_18 rfl ?_
    refine gi_code F G hS dX12_object_19 ?_
    refine r_if_le (tgt := 27) F dX12_object_22 (by decide) (fun h9 => absurd h9 (show ¬ (1 : Int32) ≤ 0 by decide)) (fun _ => ?_)
    refine r_iconst (v := 0) F dX12_object_25 (by decide) ?_
    exact e_iret F hr hlk (Or.inl ⟨c7, rfl, hS⟩) (by decide) (by decide) dX12_object_26
set_option maxRecDepth 100000 in
set_option maxHeartbeats 4000000 in
theorem mm_function {l : Launch} {N0 t0 : Nat} {D : va_G} {cy : Nat → ClassId} {S : zS} {S0 : zS} {g : Nat} {qa : Nat → Nat} {v : zV} (hS : zmR S0 g qa v S) {o p1 p2 p3 : Int32} (hv : vRg v) : zMi l yX12_function (zws yX12_function cX12_function 6 (some .int)) { frames := 3, cells := 0, slots := 0, locals := 80 } N0 t0 D cy S [.ref g, .int o, .int p1, .int p2, .int p3] (fun r S' => (¬ (gO v o ∧ pIn p1 0 4 ∧ pIn p2 0 1 ∧ pIn p3 0 4) ∧ r = 0 ∧ zmR S0 g qa (u1 v 1200 0 1) S') ∨ ((gO v o ∧ pIn p1 0 4 ∧ pIn p2 0 1 ∧ pIn p3 0 4) ∧ ∃ i, i < cn v 1201 0 ∧ o = nI i ∧ ((v.1 1202 i = 8 ∧ r = 0 ∧ zmR S0 g qa (u1 v 1200 0 2) S') ∨ (¬ v.1 1202 i = 8 ∧ r = v.1 1202 i ∧ zmR S0 g qa (vFun v i p1 p2 p3) S')))) 0 0 := by
  refine zMi.of (cc := cX12_function) (maxL := 6) (ret := (some .int)) (by decide) rfl (Nat.le_of_ble_eq_true rfl) ?_
  intro p e s m args below meth c F G hr hlk hnm
  refine r_aload_n F dX12_function_0 rfl ?_
  refine r_aload_n F dX12_function_1 rfl ?_
  refine r_iload_n F dX12_function_2 rfl ?_
  refine c_Vi (ci := 12) F G (mm_isObject hS hv) (cwV 1 F.2.2.2.2 (zgV km_X12_130 ki_X12_isObject ke_X12_X12_isObject kn_X12 ko_X12_isObject) rfl rfl rfl ⟨rfl, hd_yX12_isObject⟩ ⟨Nat.le_of_ble_eq_true rfl, Nat.le_of_ble_eq_true rfl⟩) rfl (by decide) hS.al rfl rfl (Nat.le_of_ble_eq_true rfl) dX12_function_3 ⟨Nat.le_of_ble_eq_true rfl, Nat.le_of_ble_eq_true rfl⟩ (fun r3 S3 h3 => ?_)
  obtain ⟨a3, e3⟩ := h3
  have hs3 := e3.symm
  subst hs3
  refine r_if_eq (tgt := 37) F dX12_function_6 (by decide) (fun c6 => ?_) (fun c6 => ?_)
  · refine r_iconst (v := 1) F dX12_function_37 (by decide) ?_
    refine r_goto (tgt := 57) F dX12_function_38 (by decide) ?_
    refine pi_code F G hS dX12_function_57 (fun S hS => ?_)
    refine r_aload_n F dX12_function_60 rfl ?_
    refine gi_code F G hS dX12_function_61 ?_
    refine r_if_le (tgt := 69) F dX12_function_64 (by decide) (fun h9 => absurd h9 (show ¬ (1 : Int32) ≤ 0 by decide)) (fun _ => ?_)
    refine r_iconst (v := 0) F dX12_function_67 (by decide) ?_
    exact e_iret F hr hlk (Or.inl ⟨fun h => a3.f c6 h.1, rfl, hS⟩) (by decide) (by decide) dX12_function_68
  · refine r_iload_n F dX12_function_9 rfl ?_
    refine r_iconst (v := 0) F dX12_function_10 (by decide) ?_
    refine r_iconst (v := 4) F dX12_function_11 (by decide) ?_
    refine c_Si F G (mm_isIn _ _ _) (va_cwS 3 F.2.2.2.2 (zgS km_X12_126 ks_X12_isIn kn_X12 ko_X12_isIn) rfl rfl rfl hd_yX12_isIn ⟨Nat.le_of_ble_eq_true rfl, Nat.le_of_ble_eq_true rfl⟩) rfl rfl (Nat.le_of_ble_eq_true rfl) dX12_function_12 ⟨Nat.le_of_ble_eq_true rfl, Nat.le_of_ble_eq_true rfl⟩ (fun r12 S12 h12 => ?_)
    obtain ⟨a12, e12⟩ := h12
    have hs12 := e12.symm
    subst hs12
    refine r_if_eq (tgt := 37) F dX12_function_15 (by decide) (fun c15 => ?_) (fun c15 => ?_)
    · refine r_iconst (v := 1) F dX12_function_37 (by decide) ?_
      refine r_goto (tgt := 57) F dX12_function_38 (by decide) ?_
      refine pi_code F G hS dX12_function_57 (fun S hS => ?_)
      refine r_aload_n F dX12_function_60 rfl ?_
      refine gi_code F G hS dX12_function_61 ?_
      refine r_if_le (tgt := 69) F dX12_function_64 (by decide) (fun h9 => absurd h9 (show ¬ (1 : Int32) ≤ 0 by decide)) (fun _ => ?_)
      refine r_iconst (v := 0) F dX12_function_67 (by decide) ?_
      exact e_iret F hr hlk (Or.inl ⟨fun h => a12.f c15 h.2.1, rfl, hS⟩) (by decide) (by decide) dX12_function_68
    · refine r_iload_n F dX12_function_18 rfl ?_
      refine r_iconst (v := 0) F dX12_function_19 (by decide) ?_
      refine r_iconst (v := 1) F dX12_function_20 (by decide) ?_
      refine c_Si F G (mm_isIn _ _ _) (va_cwS 3 F.2.2.2.2 (zgS km_X12_126 ks_X12_isIn kn_X12 ko_X12_isIn) rfl rfl rfl hd_yX12_isIn ⟨Nat.le_of_ble_eq_true rfl, Nat.le_of_ble_eq_true rfl⟩) rfl rfl (Nat.le_of_ble_eq_true rfl) dX12_function_21 ⟨Nat.le_of_ble_eq_true rfl, Nat.le_of_ble_eq_true rfl⟩ (fun r21 S21 h21 => ?_)
      obtain ⟨a21, e21⟩ := h21
      have hs21 := e21.symm
      subst hs21
      refine r_if_eq (tgt := 37) F dX12_function_24 (by decide) (fun c24 => ?_) (fun c24 => ?_)
      · refine r_iconst (v := 1) F dX12_function_37 (by decide) ?_
        refine r_goto (tgt := 57) F dX12_function_38 (by decide) ?_
        refine pi_code F G hS dX12_function_57 (fun S hS => ?_)
        refine r_aload_n F dX12_function_60 rfl ?_
        refine gi_code F G hS dX12_function_61 ?_
        refine r_if_le (tgt := 69) F dX12_function_64 (by decide) (fun h9 => absurd h9 (show ¬ (1 : Int32) ≤ 0 by decide)) (fun _ => ?_)
        refine r_iconst (v := 0) F dX12_function_67 (by decide) ?_
        exact e_iret F hr hlk (Or.inl ⟨fun h => a21.f c24 h.2.2.1, rfl, hS⟩) (by decide) (by decide) dX12_function_68
      · refine r_iload F dX12_function_27 rfl ?_
        refine r_iconst (v := 0) F dX12_function_29 (by decide) ?_
        refine r_iconst (v := 4) F dX12_function_30 (by decide) ?_
        refine c_Si F G (mm_isIn _ _ _) (va_cwS 3 F.2.2.2.2 (zgS km_X12_126 ks_X12_isIn kn_X12 ko_X12_isIn) rfl rfl rfl hd_yX12_isIn ⟨Nat.le_of_ble_eq_true rfl, Nat.le_of_ble_eq_true rfl⟩) rfl rfl (Nat.le_of_ble_eq_true rfl) dX12_function_31 ⟨Nat.le_of_ble_eq_true rfl, Nat.le_of_ble_eq_true rfl⟩ (fun r31 S31 h31 => ?_)
        obtain ⟨a31, e31⟩ := h31
        have hs31 := e31.symm
        subst hs31
        refine r_if_ne (tgt := 41) F dX12_function_34 (by decide) (fun c34 => ?_) (fun c34 => ?_)
        · obtain ⟨i, hi, ei⟩ := a3.t c6
          have hn := rg_1201 hv (k := 0) (by decide)
          have hi6 : i < 6 := by have := hn.2; omega
          have hf := rg_1202 hv hi6
          subst ei
          refine r_aload_n F dX12_function_41 rfl ?_
          refine gq_functions F G hS dX12_function_42 ?_
          refine r_iload_n F dX12_function_45 rfl ?_
          refine al_functions F G hS (i) rfl hi6 dX12_function_46 ?_
          refine r_bipush (v := 8) F dX12_function_47 (by decide) ?_
          refine r_icmp_ne (tgt := 56) F dX12_function_49 (by decide) (fun c49 => ?_) (fun c49 => ?_)
          · refine r_iconst (v := 0) F dX12_function_56 (by decide) ?_
            refine pi_code F G hS dX12_function_57 (fun S hS => ?_)
            refine r_aload_n F dX12_function_60 rfl ?_
            refine gi_code F G hS dX12_function_61 ?_
            refine r_if_le (tgt := 69) F dX12_function_64 (by decide) (fun _ => ?_) (fun h9 => absurd (show (0 : Int32) ≤ 0 by decide) h9)
            have h8 : cn v 1202 i < 8 := by
              rcases Nat.lt_or_ge (cn v 1202 i) 8 with h | h
              · exact h
              · exact absurd (by rw [hf.1, show cn v 1202 i = 8 by have := hf.2; omega]; rfl) c49
            refine r_aload_n F dX12_function_69 rfl ?_
            refine r_iconst (v := 0) F dX12_function_70 (by decide) ?_
            refine pi_linked F G hS (by decide) dX12_function_71 (fun S hS => ?_)
            refine r_bipush (v := 8) F dX12_function_74 (by decide) ?_
            refine r_iload_n F dX12_function_76 rfl ?_
            refine r_imul F dX12_function_77 ?_
            refine r_aload_n F dX12_function_78 rfl ?_
            refine gq_functions F G hS dX12_function_79 ?_
            refine r_iload_n F dX12_function_82 rfl ?_
            refine al_functions F G hS (i) rfl hi6 dX12_function_83 ?_
            refine r_iadd F dX12_function_84 ?_
            refine r_istore F dX12_function_85 (by decide) ?_
            refine r_aload_n F dX12_function_87 rfl ?_
            refine gq_parameters F G hS dX12_function_88 ?_
            refine r_iload F dX12_function_91 rfl ?_
            refine r_iload_n F dX12_function_93 rfl ?_
            refine as_parameters F G hS (8 * i + cn v 1202 i) (show (8 : Int32) * nI i + v.1 1202 i = _ by rw [hf.1, nl8, nI_mul, nI_add]) (by omega) dX12_function_94 (fun S hS => ?_)
            refine r_aload_n F dX12_function_95 rfl ?_
            refine gq_results F G hS dX12_function_96 ?_
            refine r_iload F dX12_function_99 rfl ?_
            refine r_iload_n F dX12_function_101 rfl ?_
            refine as_results F G hS (8 * i + cn v 1202 i) (show (8 : Int32) * nI i + v.1 1202 i = _ by rw [hf.1, nl8, nI_mul, nI_add]) (by omega) dX12_function_102 (fun S hS => ?_)
            refine r_aload_n F dX12_function_103 rfl ?_
            refine gq_locals F G hS dX12_function_104 ?_
            refine r_iload F dX12_function_107 rfl ?_
            refine r_iload F dX12_function_109 rfl ?_
            refine as_locals F G hS (8 * i + cn v 1202 i) (show (8 : Int32) * nI i + v.1 1202 i = _ by rw [hf.1, nl8, nI_mul, nI_add]) (by omega) dX12_function_111 (fun S hS => ?_)
            refine r_aload_n F dX12_function_112 rfl ?_
            refine gq_functions F G hS dX12_function_113 ?_
            refine r_iload_n F dX12_function_116 rfl ?_
            first | refine r_dup2_11 F dX12_function_117 rfl rfl ?_ | refine r_dup2_2 F dX12_function_117 rfl ?_
            refine al_functions F G hS (i) rfl hi6 dX12_function_118 ?_
            refine r_iconst (v := 1) F dX12_function_119 (by decide) ?_
            refine r_iadd F dX12_function_120 ?_
            refine as_functions F G hS (i) rfl hi6 dX12_function_121 (fun S hS => ?_)
            refine r_aload_n F dX12_function_122 rfl ?_
            refine gq_functions F G hS dX12_function_123 ?_
            refine r_iload_n F dX12_function_126 rfl ?_
            refine al_functions F G hS (i) rfl hi6 dX12_function_127 ?_
            refine r_iconst (v := 1) F dX12_function_128 (by decide) ?_
            refine r_isub F dX12_function_129 ?_
            exact e_iret F hr hlk (Or.inr ⟨⟨⟨i, hi, rfl⟩, a12.t c15, a21.t c24, a31.t c34⟩, i, hi, rfl, Or.inr ⟨c49, (show z2 _ 1202 i (v.1 1202 i + 1) 1202 i - 1 = v.1 1202 i by rw [z2_s]; exact Int32.add_sub_cancel _ _), hS⟩⟩) (by decide) (by decide) dX12_function_130
          · refine r_iconst (v := 2) F dX12_function_52 (by decide) ?_
            refine r_goto (tgt := 57) F dX12_function_53 (by decide) ?_
            refine pi_code F G hS dX12_function_57 (fun S hS => ?_)
            refine r_aload_n F dX12_function_60 rfl ?_
            refine gi_code F G hS dX12_function_61 ?_
            refine r_if_le (tgt := 69) F dX12_function_64 (by decide) (fun h9 => absurd h9 (show ¬ (2 : Int32) ≤ 0 by decide)) (fun _ => ?_)
            refine r_iconst (v := 0) F dX12_function_67 (by decide) ?_
            exact e_iret F hr hlk (Or.inr ⟨⟨⟨i, hi, rfl⟩, a12.t c15, a21.t c24, a31.t c34⟩, i, hi, rfl, Or.inl ⟨c49, rfl, hS⟩⟩) (by decide) (by decide) dX12_function_68
        · refine r_iconst (v := 1) F dX12_function_37 (by decide) ?_
          refine r_goto (tgt := 57) F dX12_function_38 (by decide) ?_
          refine pi_code F G hS dX12_function_57 (fun S hS => ?_)
          refine r_aload_n F dX12_function_60 rfl ?_
          refine gi_code F G hS dX12_function_61 ?_
          refine r_if_le (tgt := 69) F dX12_function_64 (by decide) (fun h9 => absurd h9 (show ¬ (1 : Int32) ≤ 0 by decide)) (fun _ => ?_)
          refine r_iconst (v := 0) F dX12_function_67 (by decide) ?_
          exact e_iret F hr hlk (Or.inl ⟨fun h => a31.f c34 h.2.2.2, rfl, hS⟩) (by decide) (by decide) dX12_function_68
set_option maxRecDepth 100000 in
set_option maxHeartbeats 4000000 in
theorem mm_code {l : Launch} {N0 t0 : Nat} {D : va_G} {cy : Nat → ClassId} {S : zS} {S0 : zS} {g : Nat} {qa : Nat → Nat} {v : zV} (hS : zmR S0 g qa v S) {o f w a : Int32} (hv : vRg v) : zMi l yX12_code (zws yX12_code cX12_code 6 (some .int)) { frames := 3, cells := 0, slots := 0, locals := 80 } N0 t0 D cy S [.ref g, .int o, .int f, .int w, .int a] (fun r S' => (¬ (gT v 1202 o f ∧ pIn w 0 35) ∧ r = 0 ∧ zmR S0 g qa (u1 v 1200 0 1) S') ∨ ((gT v 1202 o f ∧ pIn w 0 35) ∧ ∃ i j, i < cn v 1201 0 ∧ o = nI i ∧ j < cn v 1202 i ∧ f = nI j ∧ ((v.1 1208 (8 * i + j) = 60 ∧ r = 0 ∧ zmR S0 g qa (u1 v 1200 0 2) S') ∨ (¬ v.1 1208 (8 * i + j) = 60 ∧ r = v.1 1208 (8 * i + j) ∧ zmR S0 g qa (vCod v (8 * i + j) w a) S')))) 0 0 := by
  refine zMi.of (cc := cX12_code) (maxL := 6) (ret := (some .int)) (by decide) rfl (Nat.le_of_ble_eq_true rfl) ?_
  intro p e s m args below meth c F G hr hlk hnm
  refine r_aload_n F dX12_code_0 rfl ?_
  refine r_aload_n F dX12_code_1 rfl ?_
  refine r_iload_n F dX12_code_2 rfl ?_
  refine r_iload_n F dX12_code_3 rfl ?_
  refine c_Vi (ci := 12) F G (mm_isFunction hS hv) (cwV 2 F.2.2.2.2 (zgV km_X12_138 ki_X12_isFunction ke_X12_X12_isFunction kn_X12 ko_X12_isFunction) rfl rfl rfl ⟨rfl, hd_yX12_isFunction⟩ ⟨Nat.le_of_ble_eq_true rfl, Nat.le_of_ble_eq_true rfl⟩) rfl (by decide) hS.al rfl rfl (Nat.le_of_ble_eq_true rfl) dX12_code_4 ⟨Nat.le_of_ble_eq_true rfl, Nat.le_of_ble_eq_true rfl⟩ (fun r4 S4 h4 => ?_)
  obtain ⟨a4, e4⟩ := h4
  have hs4 := e4.symm
  subst hs4
  refine r_if_eq (tgt := 20) F dX12_code_7 (by decide) (fun c7 => ?_) (fun c7 => ?_)
  · refine r_iconst (v := 1) F dX12_code_20 (by decide) ?_
    refine r_goto (tgt := 45) F dX12_code_21 (by decide) ?_
    refine pi_code F G hS dX12_code_45 (fun S hS => ?_)
    refine r_aload_n F dX12_code_48 rfl ?_
    refine gi_code F G hS dX12_code_49 ?_
    refine r_if_le (tgt := 57) F dX12_code_52 (by decide) (fun h9 => absurd h9 (show ¬ (1 : Int32) ≤ 0 by decide)) (fun _ => ?_)
    refine r_iconst (v := 0) F dX12_code_55 (by decide) ?_
    exact e_iret F hr hlk (Or.inl ⟨fun h => a4.f c7 h.1, rfl, hS⟩) (by decide) (by decide) dX12_code_56
  · refine r_iload_n F dX12_code_10 rfl ?_
    refine r_iconst (v := 0) F dX12_code_11 (by decide) ?_
    refine r_bipush (v := 35) F dX12_code_12 (by decide) ?_
    refine c_Si F G (mm_isIn _ _ _) (va_cwS 3 F.2.2.2.2 (zgS km_X12_126 ks_X12_isIn kn_X12 ko_X12_isIn) rfl rfl rfl hd_yX12_isIn ⟨Nat.le_of_ble_eq_true rfl, Nat.le_of_ble_eq_true rfl⟩) rfl rfl (Nat.le_of_ble_eq_true rfl) dX12_code_14 ⟨Nat.le_of_ble_eq_true rfl, Nat.le_of_ble_eq_true rfl⟩ (fun r14 S14 h14 => ?_)
    obtain ⟨a14, e14⟩ := h14
    have hs14 := e14.symm
    subst hs14
    refine r_if_ne (tgt := 24) F dX12_code_17 (by decide) (fun c17 => ?_) (fun c17 => ?_)
    · obtain ⟨i, j, hi, ei, hj, ej⟩ := a4.t c7
      have hn := rg_1201 hv (k := 0) (by decide)
      have hi6 : i < 6 := by have := hn.2; omega
      have hj8 : j < 8 := by have := (rg_1202 hv hi6).2; omega
      have hf := rg_1208 hv (k := 8 * i + j) (by omega)
      subst ei
      subst ej
      refine r_aload_n F dX12_code_24 rfl ?_
      refine gq_words F G hS dX12_code_25 ?_
      refine r_bipush (v := 8) F dX12_code_28 (by decide) ?_
      refine r_iload_n F dX12_code_30 rfl ?_
      refine r_imul F dX12_code_31 ?_
      refine r_iload_n F dX12_code_32 rfl ?_
      refine r_iadd F dX12_code_33 ?_
      refine al_words F G hS (8 * i + j) (show (8 : Int32) * nI i + nI j = _ by rw [nl8, nI_mul, nI_add]) (by omega) dX12_code_34 ?_
      refine r_bipush (v := 60) F dX12_code_35 (by decide) ?_
      refine r_icmp_ne (tgt := 44) F dX12_code_37 (by decide) (fun c37 => ?_) (fun c37 => ?_)
      · refine r_iconst (v := 0) F dX12_code_44 (by decide) ?_
        refine pi_code F G hS dX12_code_45 (fun S hS => ?_)
        refine r_aload_n F dX12_code_48 rfl ?_
        refine gi_code F G hS dX12_code_49 ?_
        refine r_if_le (tgt := 57) F dX12_code_52 (by decide) (fun _ => ?_) (fun h9 => absurd (show (0 : Int32) ≤ 0 by decide) h9)
        have h60 : cn v 1208 (8 * i + j) < 60 := by
          rcases Nat.lt_or_ge (cn v 1208 (8 * i + j)) 60 with h | h
          · exact h
          · exact absurd (by rw [hf.1, show cn v 1208 (8 * i + j) = 60 by have := hf.2; omega]; rfl) c37
        refine r_aload_n F dX12_code_57 rfl ?_
        refine r_iconst (v := 0) F dX12_code_58 (by decide) ?_
        refine pi_linked F G hS (by decide) dX12_code_59 (fun S hS => ?_)
        refine r_bipush (v := 60) F dX12_code_62 (by decide) ?_
        refine r_bipush (v := 8) F dX12_code_64 (by decide) ?_
        refine r_iload_n F dX12_code_66 rfl ?_
        refine r_imul F dX12_code_67 ?_
        refine r_iload_n F dX12_code_68 rfl ?_
        refine r_iadd F dX12_code_69 ?_
        refine r_imul F dX12_code_70 ?_
        refine r_aload_n F dX12_code_71 rfl ?_
        refine gq_words F G hS dX12_code_72 ?_
        refine r_bipush (v := 8) F dX12_code_75 (by decide) ?_
        refine r_iload_n F dX12_code_77 rfl ?_
        refine r_imul F dX12_code_78 ?_
        refine r_iload_n F dX12_code_79 rfl ?_
        refine r_iadd F dX12_code_80 ?_
        refine al_words F G hS (8 * i + j) (show (8 : Int32) * nI i + nI j = _ by rw [nl8, nI_mul, nI_add]) (by omega) dX12_code_81 ?_
        refine r_iadd F dX12_code_82 ?_
        refine r_istore F dX12_code_83 (by decide) ?_
        refine r_aload_n F dX12_code_85 rfl ?_
        refine gq_word F G hS dX12_code_86 ?_
        refine r_iload F dX12_code_89 rfl ?_
        refine r_iload_n F dX12_code_91 rfl ?_
        refine as_word F G hS (60 * (8 * i + j) + cn v 1208 (8 * i + j)) (show (60 : Int32) * ((8 : Int32) * nI i + nI j) + v.1 1208 (8 * i + j) = _ by rw [hf.1, nl8, nl60, nI_mul, nI_add, nI_mul, nI_add]) (by omega) dX12_code_92 (fun S hS => ?_)
        refine r_aload_n F dX12_code_93 rfl ?_
        refine gq_number F G hS dX12_code_94 ?_
        refine r_iload F dX12_code_97 rfl ?_
        refine r_iload F dX12_code_99 rfl ?_
        refine as_number F G hS (60 * (8 * i + j) + cn v 1208 (8 * i + j)) (show (60 : Int32) * ((8 : Int32) * nI i + nI j) + v.1 1208 (8 * i + j) = _ by rw [hf.1, nl8, nl60, nI_mul, nI_add, nI_mul, nI_add]) (by omega) dX12_code_101 (fun S hS => ?_)
        refine r_aload_n F dX12_code_102 rfl ?_
        refine gq_words F G hS dX12_code_103 ?_
        refine r_bipush (v := 8) F dX12_code_106 (by decide) ?_
        refine r_iload_n F dX12_code_108 rfl ?_
        refine r_imul F dX12_code_109 ?_
        refine r_iload_n F dX12_code_110 rfl ?_
        refine r_iadd F dX12_code_111 ?_
        first | refine r_dup2_11 F dX12_code_112 rfl rfl ?_ | refine r_dup2_2 F dX12_code_112 rfl ?_
        refine al_words F G hS (8 * i + j) (show (8 : Int32) * nI i + nI j = _ by rw [nl8, nI_mul, nI_add]) (by omega) dX12_code_113 ?_
        refine r_iconst (v := 1) F dX12_code_114 (by decide) ?_
        refine r_iadd F dX12_code_115 ?_
        refine as_words F G hS (8 * i + j) (show (8 : Int32) * nI i + nI j = _ by rw [nl8, nI_mul, nI_add]) (by omega) dX12_code_116 (fun S hS => ?_)
        refine r_aload_n F dX12_code_117 rfl ?_
        refine gq_words F G hS dX12_code_118 ?_
        refine r_bipush (v := 8) F dX12_code_121 (by decide) ?_
        refine r_iload_n F dX12_code_123 rfl ?_
        refine r_imul F dX12_code_124 ?_
        refine r_iload_n F dX12_code_125 rfl ?_
        refine r_iadd F dX12_code_126 ?_
        refine al_words F G hS (8 * i + j) (show (8 : Int32) * nI i + nI j = _ by rw [nl8, nI_mul, nI_add]) (by omega) dX12_code_127 ?_
        refine r_iconst (v := 1) F dX12_code_128 (by decide) ?_
        refine r_isub F dX12_code_129 ?_
        exact e_iret F hr hlk (Or.inr ⟨⟨⟨i, j, hi, rfl, hj, rfl⟩, a14.t c17⟩, i, j, hi, rfl, hj, rfl, Or.inr ⟨c37, (show z2 _ 1208 (8 * i + j) (v.1 1208 (8 * i + j) + 1) 1208 (8 * i + j) - 1 = v.1 1208 (8 * i + j) by rw [z2_s]; exact Int32.add_sub_cancel _ _), hS⟩⟩) (by decide) (by decide) dX12_code_130
      · refine r_iconst (v := 2) F dX12_code_40 (by decide) ?_
        refine r_goto (tgt := 45) F dX12_code_41 (by decide) ?_
        refine pi_code F G hS dX12_code_45 (fun S hS => ?_)
        refine r_aload_n F dX12_code_48 rfl ?_
        refine gi_code F G hS dX12_code_49 ?_
        refine r_if_le (tgt := 57) F dX12_code_52 (by decide) (fun h9 => absurd h9 (show ¬ (2 : Int32) ≤ 0 by decide)) (fun _ => ?_)
        refine r_iconst (v := 0) F dX12_code_55 (by decide) ?_
        exact e_iret F hr hlk (Or.inr ⟨⟨⟨i, j, hi, rfl, hj, rfl⟩, a14.t c17⟩, i, j, hi, rfl, hj, rfl, Or.inl ⟨c37, rfl, hS⟩⟩) (by decide) (by decide) dX12_code_56
    · refine r_iconst (v := 1) F dX12_code_20 (by decide) ?_
      refine r_goto (tgt := 45) F dX12_code_21 (by decide) ?_
      refine pi_code F G hS dX12_code_45 (fun S hS => ?_)
      refine r_aload_n F dX12_code_48 rfl ?_
      refine gi_code F G hS dX12_code_49 ?_
      refine r_if_le (tgt := 57) F dX12_code_52 (by decide) (fun h9 => absurd h9 (show ¬ (1 : Int32) ≤ 0 by decide)) (fun _ => ?_)
      refine r_iconst (v := 0) F dX12_code_55 (by decide) ?_
      exact e_iret F hr hlk (Or.inl ⟨fun h => a14.f c17 h.2, rfl, hS⟩) (by decide) (by decide) dX12_code_56
