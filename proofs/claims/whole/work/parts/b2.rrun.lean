set_option maxRecDepth 100000 in
set_option maxHeartbeats 4000000 in
theorem mm_run {l : Launch} {N0 t0 : Nat} {D : va_G} {cy : Nat → ClassId} {S : zS} {S0 : zS} {g : Nat} {qa : Nat → Nat} {vs : zV} (hS : zmR S0 g qa vs S) {v : zV} {Ss : List Nat} {o f fu : Int32} {x y : Int64} (hv : vRg vs) (h01 : vs.1 1219 0 = 0 ∨ vs.1 1219 0 = 1) (hlk9 : vs.1 1219 0 = 1 → vL v vs ∧ tQ vs 1224 1225 Ss ∧ sOK v Ss ∧ vA v ∧ kEq v ∧ aS v 24 ≤ 1024 ∧ vB v) : zMi l yX12_run (zws yX12_run cX12_run 11 (some .int)) { frames := 4, cells := 0, slots := 0, locals := 111 } N0 t0 D cy S [.ref g, .int o, .int f, .long x, .long y, .int fu] (fun r S' => (¬ (gT vs 1202 o f ∧ pIn fu 0 2000) ∧ r = 0 ∧ zmR S0 g qa (u1 vs 1200 0 1) S') ∨ ((gT vs 1202 o f ∧ pIn fu 0 2000) ∧ vs.1 1219 0 = 0 ∧ r = 0 ∧ zmR S0 g qa (u1 vs 1200 0 2) S') ∨ (vs.1 1219 0 = 1 ∧ ∃ (i j n : Nat) (R : aR) (v2 : zV), i < cn vs 1201 0 ∧ o = nI i ∧ j < cn vs 1202 i ∧ f = nI j ∧ n ≤ 2000 ∧ fu = nI n ∧ aRn v Ss n (aBe v (8 * i + j) x y) R ∧ r = nI R.1 ∧ zmR S0 g qa v2 S' ∧ rnR vs v2 n R)) 0 0 := by
  refine zMi.of (cc := cX12_run) (maxL := 11) (ret := (some .int)) (by decide) rfl (Nat.le_of_ble_eq_true rfl) ?_
  intro p e s m args below meth c F G hr hlk hnm
  refine r_aload_n F dX12_run_0 rfl ?_
  refine r_aload_n F dX12_run_1 rfl ?_
  refine r_iload_n F dX12_run_2 rfl ?_
  refine r_iload_n F dX12_run_3 rfl ?_
  refine c_Vi (ci := 12) F G (mm_isFunction hS hv) (cwV 2 F.2.2.2.2 (zgV km_X12_138 ki_X12_isFunction ke_X12_X12_isFunction kn_X12 ko_X12_isFunction) rfl rfl rfl ⟨rfl, hd_yX12_isFunction⟩ ⟨Nat.le_of_ble_eq_true rfl, Nat.le_of_ble_eq_true rfl⟩) rfl (by decide) hS.al rfl rfl (Nat.le_of_ble_eq_true rfl) dX12_run_4 ⟨Nat.le_of_ble_eq_true rfl, Nat.le_of_ble_eq_true rfl⟩ (fun r4 S4 h4 => ?_)
  obtain ⟨a4, e4⟩ := h4
  have hs4 := e4.symm
  subst hs4
  refine r_if_eq (tgt := 22) F dX12_run_7 (by decide) (fun c7 => ?_) (fun c7 => ?_)
  · refine r_iconst (v := 1) F dX12_run_22 (by decide) ?_
    refine r_goto (tgt := 38) F dX12_run_23 (by decide) ?_
    refine pi_code F G hS dX12_run_38 (fun S hS => ?_)
    refine r_aload_n F dX12_run_41 rfl ?_
    refine gi_code F G hS dX12_run_42 ?_
    refine r_if_le (tgt := 50) F dX12_run_45 (by decide) (fun h9 => absurd h9 (show ¬ (u1 vs 1200 0 1).1 1200 0 ≤ 0 by rw [u1_s]; decide)) (fun _ => ?_)
    refine r_iconst (v := 0) F dX12_run_48 (by decide) ?_
    exact e_iret F hr hlk (Or.inl ⟨fun h9 => a4.f c7 h9.1, rfl, hS⟩) (by decide) (by decide) dX12_run_49
  · refine r_iload F dX12_run_10 rfl ?_
    refine r_iconst (v := 0) F dX12_run_12 (by decide) ?_
    refine r_sipush (v := 2000) F dX12_run_13 (by decide) ?_
    refine c_Si F G (mm_isIn _ _ _) (va_cwS 3 F.2.2.2.2 (zgS km_X12_126 ks_X12_isIn kn_X12 ko_X12_isIn) rfl rfl rfl hd_yX12_isIn ⟨Nat.le_of_ble_eq_true rfl, Nat.le_of_ble_eq_true rfl⟩) rfl rfl (Nat.le_of_ble_eq_true rfl) dX12_run_16 ⟨Nat.le_of_ble_eq_true rfl, Nat.le_of_ble_eq_true rfl⟩ (fun r16 S16 h16 => ?_)
    obtain ⟨a16, e16⟩ := h16
    have hs16 := e16.symm
    subst hs16
    refine r_if_ne (tgt := 26) F dX12_run_19 (by decide) (fun c19 => ?_) (fun c19 => ?_)
    · refine r_aload_n F dX12_run_26 rfl ?_
      refine gi_linked F G hS dX12_run_27 ?_
      refine r_if_ne (tgt := 37) F dX12_run_30 (by decide) (fun c30 => ?_) (fun c30 => ?_)
      · refine r_iconst (v := 0) F dX12_run_37 (by decide) ?_
        refine pi_code F G hS dX12_run_38 (fun S hS => ?_)
        refine r_aload_n F dX12_run_41 rfl ?_
        refine gi_code F G hS dX12_run_42 ?_
        refine r_if_le (tgt := 50) F dX12_run_45 (by decide) (fun _ => ?_) (fun h9 => absurd (show (u1 vs 1200 0 0).1 1200 0 ≤ 0 by rw [u1_s]; decide) h9)
        have hl1 := h01.resolve_left c30
        obtain ⟨hL, hQ, hs, hA, hK, h1024, hBB⟩ := hlk9 hl1
        obtain ⟨i, j, hi, eo, hj, ef⟩ := a4.t c7
        obtain ⟨n, hn1, en⟩ : ∃ n, n < 2001 ∧ fu = nI n := nI_of9 (Int32.not_lt.mp (a16.t c19).1) (by have h9 := (a16.t c19).2; rw [Int32.le_iff_toInt_le] at h9; rw [Int32.lt_iff_toInt_lt, nI_toInt (by omega)]; have h8 : fu.toInt ≤ 2000 := h9; omega) (by omega)
        have hn2 : n ≤ 2000 := by omega
        have hO6 := (rg_1201 hv (k := 0) (by omega)).2
        have hf8 := (rg_1202 hv (k := i) (by omega)).2
        have hf48 : 8 * i + j < 48 := by omega
        have hf9 : tF v (8 * i + j) := ⟨hf48, by rw [show (8 * i + j) / 8 = i by omega, ← hL.c (id := 1202) (k := i) (by omega)]; omega⟩
        subst eo
        subst ef
        subst en
        have eo : nI i = nI i := rfl
        have ef : nI j = nI j := rfl
        have en : nI n = nI n := rfl
        refine r_iconst (v := 0) F dX12_run_50 (by decide) ?_
        refine r_istore F dX12_run_51 (by decide) ?_
        refine zsub (lv' := [(8, .int (nI 0)), (0, .ref g), (1, .int (nI i)), (2, .int (nI j)), (3, .long x), (5, .long y), (7, .int (nI n))]) (by simp [zs1, zs2, lv_args, Value.category, show ((1 : Fin 4) : Nat) = 1 from rfl, show ((2 : Fin 4) : Nat) = 2 from rfl, show ((3 : Fin 4) : Nat) = 3 from rfl, show nI 0 = (0 : Int32) from rfl, show nI 1 = (1 : Int32) from rfl]) ?_
        refine z_loop (fun n9 S9 lv => ∃ (v1 : zV) (k : Nat), k + n9 = 1024 ∧ zmR S0 g qa v1 S9 ∧ rU vs v1 ∧ lv = [(8, .int (nI k)), (0, .ref g), (1, .int (nI i)), (2, .int (nI j)), (3, .long x), (5, .long y), (7, .int (nI n))] ∧ ∀ t, t < k → v1.1 1228 t = 0) 1024 ?_ ⟨_, 0, Nat.zero_add _, hS, ⟨fun id k hk => u1_n (Or.inl (by omega)), u1_s⟩, rfl, fun t ht => absurd ht (Nat.not_lt_zero t)⟩
        clear hS
        rintro n9 S lv ⟨v1, k, hkn, hS, hU, rfl, hmem⟩ ih
        refine r_iload F dX12_run_53 rfl ?_
        refine r_sipush (v := 1024) F dX12_run_55 (by decide) ?_
        refine r_icmp_ge (tgt := 75) F dX12_run_58 (by decide) (fun c58 => ?_) (fun c58 => ?_)
        · have hk : k = 1024 := by have c8 := c58; rw [show (1024 : Int32) = nI 1024 from rfl, nI_leI (by omega) (by omega)] at c8; omega
          subst hk
          clear ih
          refine r_iconst (v := 0) F dX12_run_75 (by decide) ?_
          refine r_istore F dX12_run_76 (by decide) ?_
          refine zsub (lv' := [(8, .int (nI 0)), (0, .ref g), (1, .int (nI i)), (2, .int (nI j)), (3, .long x), (5, .long y), (7, .int (nI n))]) (by simp [zs1, zs2, lv_args, Value.category, show ((1 : Fin 4) : Nat) = 1 from rfl, show ((2 : Fin 4) : Nat) = 2 from rfl, show ((3 : Fin 4) : Nat) = 3 from rfl, show nI 0 = (0 : Int32) from rfl, show nI 1 = (1 : Int32) from rfl]) ?_
          refine z_loop (fun n9 S9 lv => ∃ (v1 : zV) (q : Nat), q + n9 = 24 ∧ zmR S0 g qa v1 S9 ∧ rU vs v1 ∧ lv = [(8, .int (nI q)), (0, .ref g), (1, .int (nI i)), (2, .int (nI j)), (3, .long x), (5, .long y), (7, .int (nI n))] ∧ ∀ t, t < 1024 → v1.1 1228 t = mG v q t) 24 ?_ ⟨_, 0, Nat.zero_add _, hS, hU, rfl, fun t ht => hmem t ht⟩
          clear hS hU hmem
          rintro n9 S lv ⟨v1, q, hqn, hS, hU, rfl, hmem⟩ ih
          refine r_iload F dX12_run_78 rfl ?_
          refine r_bipush (v := 24) F dX12_run_80 (by decide) ?_
          refine r_icmp_ge (tgt := 162) F dX12_run_82 (by decide) (fun c82 => ?_) (fun c82 => ?_)
          · have hq24 : q = 24 := by have c8 := c82; rw [nl24, nI_leI (by omega) (by omega)] at c8; omega
            subst hq24
            clear ih
            refine r_aload_n F dX12_run_162 rfl ?_
            refine r_iconst (v := 0) F dX12_run_163 (by decide) ?_
            refine pi_steps F G hS dX12_run_164 (fun S hS => ?_)
            refine r_aload_n F dX12_run_167 rfl ?_
            refine r_iconst (v := 0) F dX12_run_168 (by decide) ?_
            refine pi_deepest F G hS dX12_run_169 (fun S hS => ?_)
            refine r_aload_n F dX12_run_172 rfl ?_
            refine r_iconst (v := 0) F dX12_run_173 (by decide) ?_
            refine pi_frames F G hS dX12_run_174 (fun S hS => ?_)
            refine r_aload_n F dX12_run_177 rfl ?_
            refine r_iconst (v := 0) F dX12_run_178 (by decide) ?_
            refine pi_runBlocks F G hS dX12_run_179 (fun S hS => ?_)
            refine r_aload_n F dX12_run_182 rfl ?_
            refine r_iconst (v := 0) F dX12_run_183 (by decide) ?_
            refine pi_top F G hS dX12_run_184 (fun S hS => ?_)
            refine r_aload_n F dX12_run_187 rfl ?_
            refine r_lconst (v := 0) F dX12_run_188 (by decide) ?_
            refine pi_returned F G hS dX12_run_189 (fun S hS => ?_)
            refine r_bipush (v := 8) F dX12_run_192 (by decide) ?_
            refine r_iload_n F dX12_run_194 rfl ?_
            refine r_imul F dX12_run_195 ?_
            refine r_iload_n F dX12_run_196 rfl ?_
            refine r_iadd F dX12_run_197 ?_
            refine r_istore F dX12_run_198 (by decide) ?_
            refine r_iconst (v := 0) F dX12_run_200 (by decide) ?_
            refine r_istore F dX12_run_201 (by decide) ?_
            rw [show (8 : Int32) * nI i + nI j = nI (8 * i + j) from by rw [nl8, nI_mul, nI_add]]
            refine zsub (lv' := [(9, .int (nI 0)), (8, .int (nI (8 * i + j))), (0, .ref g), (1, .int (nI i)), (2, .int (nI j)), (3, .long x), (5, .long y), (7, .int (nI n))]) (by simp [zs1, zs2, lv_args, Value.category, show ((1 : Fin 4) : Nat) = 1 from rfl, show ((2 : Fin 4) : Nat) = 2 from rfl, show ((3 : Fin 4) : Nat) = 3 from rfl, show nI 0 = (0 : Int32) from rfl, show nI 1 = (1 : Int32) from rfl]) ?_
            have r5 := (rg_1205 hs.1 hf48).2
            have i1 : (u2 (u1 (u1 (u1 (u1 (u1 v1 1230 0 0) 1231 0 0) 1239 0 0) 1249 0 0) 1246 0 0) 1229 0 0).1 1246 0 = nI 0 := (show (u1 (u1 (u1 (u1 (u1 v1 1230 0 0) 1231 0 0) 1239 0 0) 1249 0 0) 1246 0 0).1 1246 0 = nI 0 from u1_s)
            have i2 : (u2 (u1 (u1 (u1 (u1 (u1 v1 1230 0 0) 1231 0 0) 1239 0 0) 1249 0 0) 1246 0 0) 1229 0 0).1 1239 0 = nI 0 := (show (u1 (u1 (u1 (u1 (u1 v1 1230 0 0) 1231 0 0) 1239 0 0) 1249 0 0) 1246 0 0).1 1239 0 = nI 0 from (u1_n (Or.inl (by decide))).trans ((u1_n (Or.inl (by decide))).trans u1_s))
            have i3 : (u2 (u1 (u1 (u1 (u1 (u1 v1 1230 0 0) 1231 0 0) 1239 0 0) 1249 0 0) 1246 0 0) 1229 0 0).1 1249 0 = nI 0 := (show (u1 (u1 (u1 (u1 (u1 v1 1230 0 0) 1231 0 0) 1239 0 0) 1249 0 0) 1246 0 0).1 1249 0 = nI 0 from (u1_n (Or.inl (by decide))).trans u1_s)
            have i4 : (u2 (u1 (u1 (u1 (u1 (u1 v1 1230 0 0) 1231 0 0) 1239 0 0) 1249 0 0) 1246 0 0) 1229 0 0).1 1230 0 = nI 0 := (show (u1 (u1 (u1 (u1 (u1 v1 1230 0 0) 1231 0 0) 1239 0 0) 1249 0 0) 1246 0 0).1 1230 0 = nI 0 from (u1_n (Or.inl (by decide))).trans ((u1_n (Or.inl (by decide))).trans ((u1_n (Or.inl (by decide))).trans ((u1_n (Or.inl (by decide))).trans u1_s))))
            have i5 : (u2 (u1 (u1 (u1 (u1 (u1 v1 1230 0 0) 1231 0 0) 1239 0 0) 1249 0 0) 1246 0 0) 1229 0 0).1 1231 0 = nI 0 := (show (u1 (u1 (u1 (u1 (u1 v1 1230 0 0) 1231 0 0) 1239 0 0) 1249 0 0) 1246 0 0).1 1231 0 = nI 0 from (u1_n (Or.inl (by decide))).trans ((u1_n (Or.inl (by decide))).trans ((u1_n (Or.inl (by decide))).trans u1_s)))
            have i6 : (u2 (u1 (u1 (u1 (u1 (u1 v1 1230 0 0) 1231 0 0) 1239 0 0) 1249 0 0) 1246 0 0) 1229 0 0).2 1229 0 = 0 := u2_s
            have i7 : ∀ q, q < 1024 → (u2 (u1 (u1 (u1 (u1 (u1 v1 1230 0 0) 1231 0 0) 1239 0 0) 1249 0 0) 1246 0 0) 1229 0 0).1 1228 q = mG v 24 q := fun q hq => (show (u1 (u1 (u1 (u1 (u1 v1 1230 0 0) 1231 0 0) 1239 0 0) 1249 0 0) 1246 0 0).1 1228 q = mG v 24 q from (u1_n (Or.inl (by decide))).trans ((u1_n (Or.inl (by decide))).trans ((u1_n (Or.inl (by decide))).trans ((u1_n (Or.inl (by decide))).trans ((u1_n (Or.inl (by decide))).trans (hmem q hq))))))
            have iU : rU vs (u2 (u1 (u1 (u1 (u1 (u1 v1 1230 0 0) 1231 0 0) 1239 0 0) 1249 0 0) 1246 0 0) 1229 0 0) := (((((hU.u (id := 1230) (k := 0) (x := 0) (by omega)).u (id := 1231) (k := 0) (x := 0) (by omega)).u (id := 1239) (k := 0) (x := 0) (by omega)).u (id := 1249) (k := 0) (x := 0) (by omega)).u (id := 1246) (k := 0) (x := 0) (by omega))
            refine z_loop (fun n9 S9 lv => ∃ (v1 : zV) (k : Nat), k + n9 = (cn v 1205 (8 * i + j)) ∧ zmR S0 g qa v1 S9 ∧ rU vs v1 ∧ lv = [(9, .int (nI k)), (8, .int (nI (8 * i + j))), (0, .ref g), (1, .int (nI i)), (2, .int (nI j)), (3, .long x), (5, .long y), (7, .int (nI n))] ∧ (v1.1 1246 0 = nI k ∧ v1.1 1239 0 = nI 0 ∧ v1.1 1249 0 = nI 0 ∧ v1.1 1230 0 = nI 0 ∧ v1.1 1231 0 = nI 0 ∧ v1.2 1229 0 = 0 ∧ (∀ q, q < 1024 → v1.1 1228 q = mG v 24 q) ∧ ∀ q, q < k → v1.2 1245 q = if q = 0 then x else if q = 1 then y else 0)) (cn v 1205 (8 * i + j)) ?_ ⟨(u2 (u1 (u1 (u1 (u1 (u1 v1 1230 0 0) 1231 0 0) 1239 0 0) 1249 0 0) 1246 0 0) 1229 0 0), 0, Nat.zero_add _, hS, iU, rfl, i1, i2, i3, i4, i5, i6, i7, fun q hq => absurd hq (Nat.not_lt_zero q)⟩
            clear hS
            rintro n9 S lv ⟨v1, k, hkn, hS, hU, rfl, g1, g2, g3, g4, g5, g6, g7, g8⟩ ih
            refine r_iload F dX12_run_203 rfl ?_
            refine r_aload_n F dX12_run_205 rfl ?_
            refine gq_parameters F G hS dX12_run_206 ?_
            refine r_iload F dX12_run_209 rfl ?_
            refine al_parameters F G hS (8 * i + j) rfl hf48 dX12_run_211 ?_
            rw [show v1.1 1205 (8 * i + j) = nI (cn v 1205 (8 * i + j)) from ((hU.L hL) _ _ (by omega)).trans (rg_1205 hs.1 hf48).1]
            refine r_icmp_ge (tgt := 246) F dX12_run_212 (by decide) (fun c212 => ?_) (fun c212 => ?_)
            · have hkp : k = (cn v 1205 (8 * i + j)) := by have c8 := c212; rw [nI_leI (by omega) (by omega)] at c8; omega
              subst hkp
              clear ih
              refine r_aload_n F dX12_run_246 rfl ?_
              refine r_iload F dX12_run_247 rfl ?_
              refine c_Vv (ci := 12) F G (mm_enter hS (n := 0) (f := 8 * i + j) (p9 := (cn v 1205 (8 * i + j))) (t := (cn v 1205 (8 * i + j))) (rb := 0) (dp := 0) g2 (by omega) hf48 (((hU.L hL) _ _ (by omega)).trans (rg_1205 hs.1 hf48).1) r5 g1 (Nat.le_refl _) (by omega) g3 g5 (by omega)) (cwV 1 F.2.2.2.2 (zgV km_X12_315 ki_X12_enter ke_X12_X12_enter kn_X12 ko_X12_enter) rfl rfl rfl ⟨rfl, hd_yX12_enter⟩ ⟨Nat.le_of_ble_eq_true rfl, Nat.le_of_ble_eq_true rfl⟩) rfl (by decide) hS.al rfl rfl (Nat.le_of_ble_eq_true rfl) dX12_run_249 ⟨Nat.le_of_ble_eq_true rfl, Nat.le_of_ble_eq_true rfl⟩ (fun S249 h249 => ?_)
              obtain ⟨v2, hS, hE⟩ := h249
              have hR9 : rR (aBe v (8 * i + j) x y) v2 := rR.st hE g7 g3 g8
              have hU9 := hU.T (vT.rf.en hE)
              have hst9 : v2.1 1230 0 = nI 0 := ((vT.rf.en hE).1 1230 0 (by omega)).trans g4
              have hz9 : v2.2 1229 0 = 0 := ((vT.rf.en hE).2 1229 0 (by omega)).trans g6
              refine r_iconst (v := 0) F dX12_run_252 (by decide) ?_
              refine r_istore F dX12_run_253 (by decide) ?_
              refine zsub (lv' := [(9, .int (nI 0)), (8, .int (nI (8 * i + j))), (0, .ref g), (1, .int (nI i)), (2, .int (nI j)), (3, .long x), (5, .long y), (7, .int (nI n))]) (by simp [zs1, zs2, lv_args, Value.category, show ((1 : Fin 4) : Nat) = 1 from rfl, show ((2 : Fin 4) : Nat) = 2 from rfl, show ((3 : Fin 4) : Nat) = 3 from rfl, show nI 0 = (0 : Int32) from rfl, show nI 1 = (1 : Int32) from rfl]) ?_
              refine z_loop (fun n9 S9 lv => ∃ (v1 : zV) (k c9 : Nat) (A : aM), zmR S0 g qa v1 S9 ∧ rU vs v1 ∧ lv = [(9, .int (nI c9)), (8, .int (nI (8 * i + j))), (0, .ref g), (1, .int (nI i)), (2, .int (nI j)), (3, .long x), (5, .long y), (7, .int (nI n))] ∧ (v1.1 1230 0 = nI k ∧ k ≤ n ∧ v1.2 1229 0 = 0 ∧ ((c9 = 0 ∧ n9 = 2 * (n - k) + A.1.length + 1 ∧ rR A v1 ∧ aOK v A ∧ (∀ R, aRn v Ss (n - k) A R → aRn v Ss n (aBe v (8 * i + j) x y) R) ∧ ((A.1.map ff).getLast? = some (8 * i + j) ∨ (A.1 = [] ∧ A.2.2.2 = if cn v 1206 (8 * i + j) = 0 then 0 else v1.2 1245 0))) ∨ (¬ c9 = 0 ∧ c9 < 10 ∧ ∃ R : aR, aRn v Ss n (aBe v (8 * i + j) x y) R ∧ R.1 = c9 ∧ R.2.1 = 0 ∧ R.2.2.1 = n - k ∧ v1.1 1231 0 = nI R.2.2.2.1 ∧ ∀ i9, i9 < 1024 → v1.1 1228 i9 = R.2.2.2.2 i9)))) (2 * (n - 0) + 1 + 1) ?_ ⟨v2, 0, 0, aBe v (8 * i + j) x y, hS, hU9, rfl, hst9, Nat.zero_le _, hz9, Or.inl ⟨rfl, rfl, hR9, aBe_ok hs hf9, fun R h9 => h9, Or.inl rfl⟩⟩
              clear hS
              rintro n9 S lv ⟨v1, k, c9, A, hS, hU, rfl, hst, hkn, hz, hcas⟩ ih
              rcases hcas with ⟨hc0, hn9, hR, hO, hco, hbot⟩ | ⟨hc0, hc10, R9, hRn, q1, q2, q3, q4, q5⟩
              · subst hc0
                subst hn9
                refine r_aload_n F dX12_run_255 rfl ?_
                refine gi_frames F G hS dX12_run_256 ?_
                refine r_if_le (tgt := 340) F dX12_run_259 (by decide) (fun c259 => ?_) (fun c259 => ?_)
                · have hA0 : A.1 = [] := by
                    have c8 := c259
                    rw [hR.1] at c8
                    cases h8 : A.1 with
                    | nil => rfl
                    | cons B Bs => rw [h8] at c8; exact absurd c8 (by have hl40 := hO.2.1; rw [h8] at hl40; have h7 : Bs.length + 1 ≤ 40 := hl40; rw [nl0, show (B :: Bs).length = Bs.length + 1 from rfl, nI_leI (by omega) (by omega)]; omega)
                  have hval : A.2.2.2 = if cn v 1206 (8 * i + j) = 0 then 0 else v1.2 1245 0 := by
                    rcases hbot with h9 | h9
                    · rw [hA0] at h9; cases h9
                    · exact h9.2
                  have hfin : aRn v Ss n (aBe v (8 * i + j) x y) (0, A.2.2.2, n - k, A.2.2.1, A.2.1) := hco _ (aRn.dn (by rw [show A = ([], A.2) from by rw [← hA0]]; exact aMi_0))
                  refine r_iload F dX12_run_340 rfl ?_
                  refine r_if_ne (tgt := 366) F dX12_run_342 (by decide) (fun h9 => absurd rfl h9) (fun _ => ?_)
                  refine r_aload_n F dX12_run_345 rfl ?_
                  refine gq_results F G hS dX12_run_346 ?_
                  refine r_iload F dX12_run_349 rfl ?_
                  refine al_results F G hS (8 * i + j) rfl hf48 dX12_run_351 ?_
                  rw [show v1.1 1206 (8 * i + j) = nI (cn v 1206 (8 * i + j)) from ((hU.L hL) _ _ (by omega)).trans (rg_1206 hs.1 hf48).1]
                  refine r_iconst (v := 1) F dX12_run_352 (by decide) ?_
                  refine r_icmp_ne (tgt := 366) F dX12_run_353 (by decide) (fun c353 => ?_) (fun c353 => ?_)
                  · refine r_iload F dX12_run_366 rfl ?_
                    have hr0 : cn v 1206 (8 * i + j) = 0 := by
                      have r9 := (rg_1206 hs.1 hf48).2
                      have : ¬ cn v 1206 (8 * i + j) = 1 := fun h9 => c353 (by rw [h9]; rfl)
                      omega
                    rw [if_pos hr0] at hval
                    exact e_iret F hr hlk (Or.inr (Or.inr ⟨hl1, i, j, n, _, _, hi, eo, hj, ef, hn2, en, hfin, rfl, hS, hU, (hz.trans hval.symm), (by rw [hst]; congr 1; show k = n - (n - k); omega), hR.2.2.2.2.2, hR.2.2.2.2.1⟩)) (by decide) (by decide) dX12_run_368
                  · refine r_aload_n F dX12_run_356 rfl ?_
                    refine r_aload_n F dX12_run_357 rfl ?_
                    refine gq_values F G hS dX12_run_358 ?_
                    refine r_iconst (v := 0) F dX12_run_361 (by decide) ?_
                    refine al_values F G hS (0) rfl (by omega) dX12_run_362 ?_
                    refine pi_returned F G hS dX12_run_363 (fun S hS => ?_)
                    refine r_iload F dX12_run_366 rfl ?_
                    have hr1 : ¬ cn v 1206 (8 * i + j) = 0 := fun h9 => by
                      have c9 := c353
                      rw [h9] at c9
                      exact absurd c9 (by decide)
                    rw [if_neg hr1] at hval
                    exact e_iret F hr hlk (Or.inr (Or.inr ⟨hl1, i, j, n, _, _, hi, eo, hj, ef, hn2, en, hfin, rfl, hS, hU, (u2_s.trans hval.symm), (show v1.1 1230 0 = nI (n - (n - k)) by rw [hst]; congr 1; omega), hR.2.2.2.2.2, hR.2.2.2.2.1⟩)) (by decide) (by decide) dX12_run_368
                · 
                  refine r_iload F dX12_run_262 rfl ?_
                  refine r_if_ne (tgt := 340) F dX12_run_264 (by decide) (fun h9 => absurd rfl h9) (fun _ => ?_)
                  have hlen : 1 ≤ A.1.length := by
                    have c8 := c259
                    rw [hR.1] at c8
                    rcases Nat.eq_zero_or_pos A.1.length with h9 | h9
                    · rw [h9] at c8; exact absurd (show nI 0 ≤ 0 by decide) c8
                    · exact h9
                  obtain ⟨L9, U⟩ := A
                  cases L9 with
                  | nil => exact absurd hlen (show ¬ 1 ≤ 0 by decide)
                  | cons Fr Fs =>
                    have hF := hO.1.1
                    have hf := hF.1
                    have hlen : Fs.length + 1 ≤ 40 := hO.2.1
                    have hvv := hs.1
                    obtain ⟨hb1, hb2⟩ := lOK_b hs Fs _ hO.1.2
                    have hfh : fh Fr + 0 ≤ fa Fr := hF.2.2.1
                    have hfa := hF.2.1
                    have hsz := hs.sz hf
                    have hf4 := hf.1
                    have hLL := hU.L hL
                    have hlast : ((Fr :: Fs).map ff).getLast? = some (8 * i + j) := hbot.resolve_right (fun h9 => List.cons_ne_nil _ _ h9.1)
                    refine r_aload_n F dX12_run_267 rfl ?_
                    refine gi_frames F G hS dX12_run_268 ?_
                    rw [hR.N]
                    refine r_iconst (v := 1) F dX12_run_271 (by decide) ?_
                    refine r_isub F dX12_run_272 ?_
                    rw [show nI (Fs.length + 1) - 1 = nI Fs.length from by rw [nl1, nI_sub (by omega), Nat.add_sub_cancel]]
                    refine r_istore F dX12_run_273 (by decide) ?_
                    refine r_aload_n F dX12_run_275 rfl ?_
                    refine gq_frameAt F G hS dX12_run_276 ?_
                    refine r_iload F dX12_run_279 rfl ?_
                    refine al_frameAt F G hS (Fs.length) rfl (by omega) dX12_run_281 ?_
                    rw [hR.F1.2.1]
                    refine r_aload_n F dX12_run_282 rfl ?_
                    refine gq_words F G hS dX12_run_283 ?_
                    refine r_aload_n F dX12_run_286 rfl ?_
                    refine gq_frameFunction F G hS dX12_run_287 ?_
                    refine r_iload F dX12_run_290 rfl ?_
                    refine al_frameFunction F G hS (Fs.length) rfl (by omega) dX12_run_292 ?_
                    rw [hR.F1.1]
                    refine al_words F G hS (ff Fr) rfl (by omega) dX12_run_293 ?_
                    rw [show v1.1 1208 (ff Fr) = nI (cn v 1208 (ff Fr)) from (hLL _ _ (by omega)).trans (rg_1208 hs.1 hf.1).1]
                    refine r_icmp_lt (tgt := 304) F dX12_run_294 (by decide) (fun c294 => ?_) (fun c294 => ?_)
                    · have hlt : fa Fr < (cn v 1208 (ff Fr)) := by have c8 := c294; rw [nI_ltI (by omega) (by omega)] at c8; exact c8
                      have hend : ¬ (cn v 1208 (ff Fr)) ≤ fa Fr := by omega
                      refine r_aload_n F dX12_run_304 rfl ?_
                      refine gi_steps F G hS dX12_run_305 ?_
                      rw [hst]
                      refine r_iload F dX12_run_308 rfl ?_
                      refine r_icmp_ne (tgt := 319) F dX12_run_310 (by decide) (fun c310 => ?_) (fun c310 => ?_)
                      · have hkl : k < n := by have c8 := c310; rw [nI_eq (by omega) (by omega)] at c8; omega
                        refine r_aload_n F dX12_run_319 rfl ?_
                        refine r_dup F dX12_run_320 rfl ?_
                        refine gi_steps F G hS dX12_run_321 ?_
                        rw [hst]
                        refine r_iconst (v := 1) F dX12_run_324 (by decide) ?_
                        refine r_iadd F dX12_run_325 ?_
                        rw [show nI k + 1 = nI (k + 1) from nI_add k 1]
                        refine pi_steps F G hS dX12_run_326 (fun S hS => ?_)
                        have hR : rR (Fr :: Fs, U) (u1 v1 1230 0 (nI (k + 1))) := by
                          have hT9 := hR.T
                          obtain ⟨z1, z2, z3, z4, z5, z6⟩ := hR
                          exact ⟨(u1_n (Or.inl (by decide))).trans z1, (u1_n (Or.inl (by decide))).trans hT9, (u1_n (Or.inl (by decide))).trans z3, z4.lo (lo9.rf.u1 (fun h9 => by omega) (fun h9 => by omega)), fun k2 hk2 => (u1_n (Or.inl (by decide))).trans (z5 k2 hk2), (u1_n (Or.inl (by decide))).trans z6⟩
                        have hU2 : rU vs (u1 v1 1230 0 (nI (k + 1))) := hU.u (by omega)
                        refine r_aload_n F dX12_run_329 rfl ?_
                        refine r_iload F dX12_run_330 rfl ?_
                        refine c_Vi (ci := 12) F G (mm_step hS (hU2.L hL) (hU2.Q hQ) vT.rf hR hs hA hK hO hlt) (cwV 1 F.2.2.2.2 (zgV km_X12_371 ki_X12_step ke_X12_X12_step kn_X12 ko_X12_step) rfl rfl rfl ⟨rfl, hd_yX12_step⟩ ⟨Nat.le_of_ble_eq_true rfl, Nat.le_of_ble_eq_true rfl⟩) rfl (by decide) hS.al rfl rfl (Nat.le_of_ble_eq_true rfl) dX12_run_332 ⟨Nat.le_of_ble_eq_true rfl, Nat.le_of_ble_eq_true rfl⟩ (fun r332 S332 h332 => ?_)
                        refine r_istore F dX12_run_335 (by decide) ?_
                        refine r_goto (tgt := 255) F dX12_run_337 (by decide) ?_
                        obtain ⟨v2, hS, hTT, er, hgo, hno⟩ := h332
                        have hm := aSp_m (Fs := Fs) (U := U) hs hf hlt
                        have hst2 : v2.1 1230 0 = nI (k + 1) := (hTT.1 1230 0 (by omega)).trans u1_s
                        have hz2 : v2.2 1229 0 = 0 := (hTT.2 1229 0 (by omega)).trans hz
                        rw [er]
                        by_cases hc0 : (aSp v Ss Fr Fs U).1 = 0
                        · rw [hc0]
                          refine zsub (lv' := [(9, .int (nI 0)), (8, .int (nI (8 * i + j))), (0, .ref g), (1, .int (nI i)), (2, .int (nI j)), (3, .long x), (5, .long y), (7, .int (nI n))]) (by simp [zs1, zs2, lv_args, Value.category, show ((1 : Fin 4) : Nat) = 1 from rfl, show ((2 : Fin 4) : Nat) = 2 from rfl, show ((3 : Fin 4) : Nat) = 3 from rfl, show nI 0 = (0 : Int32) from rfl, show nI 1 = (1 : Int32) from rfl]) ?_
                          obtain ⟨L8, hm1, hm2⟩ := hm.2 hc0
                          have hO2 := aSp_ok hs hO hlt hc0
                          have hst9 : ∀ R, aRn v Ss (n - (k + 1)) (aSp v Ss Fr Fs U).2 R → aRn v Ss n (aBe v (8 * i + j) x y) R := fun R h9 => hco R (aRn.st (aMi_s hend (by omega) hc0) (by rw [show n - k - 1 = n - (k + 1) by omega]; exact h9))
                          have hml := congrArg List.length hm1
                          rw [List.length_map, List.length_append, List.length_map, show (Fr :: Fs).length = Fs.length + 1 from rfl] at hml
                          rcases hgo hc0 with hR2 | ⟨G9, Gs, U9, eA, hend2, hR2, hval2⟩
                          · refine ih _ _ _ ?_ ⟨v2, k + 1, 0, _, hS, hU2.T hTT, rfl, hst2, by omega, hz2, Or.inl ⟨rfl, rfl, hR2, hO2, hst9, Or.inl ?_⟩⟩
                            · show _ < 2 * (n - k) + (Fs.length + 1) + 1
                              omega
                            · rw [hm1]
                              exact last_ap hm2 hlast
                          · rw [eA] at hm1 hml hO2 hst9
                            have hml2 : Gs.length + 1 = L8.length + (Fs.length + 1) := hml
                            refine ih _ _ _ ?_ ⟨v2, k + 1, 0, aLv v G9 Gs U9, hS, hU2.T hTT, rfl, hst2, by omega, hz2, Or.inl ⟨rfl, rfl, hR2, hO2.lv hs hend2, fun R h9 => hst9 R (aRn.st (aMi_l hend2) h9), ?_⟩⟩
                            · have hmm := congrArg List.length (aLv_m (v := v) (F := G9) (Fs := Gs) (U := U9))
                              rw [List.length_map, List.length_map] at hmm
                              rw [hmm]
                              show _ < 2 * (n - k) + (Fs.length + 1) + 1
                              omega
                            · have hl2 : ((G9 :: Gs).map ff).getLast? = some (8 * i + j) := by
                                rw [show (G9 :: Gs).map ff = L8 ++ (Fr :: Fs).map ff from hm1]
                                exact last_ap hm2 hlast
                              cases Gs with
                              | nil =>
                                refine Or.inr ⟨rfl, ?_⟩
                                have h9 := hval2 rfl
                                have e9 : ff G9 = 8 * i + j := Option.some.inj hl2
                                rw [← e9]
                                exact h9
                              | cons G8 Gt =>
                                refine Or.inl ?_
                                rw [aLv_m]
                                exact last_tl hl2 (List.cons_ne_nil _ _)
                        · have hno2 := hno hc0
                          have hc10 := hm.1
                          refine zsub (lv' := [(9, .int (nI (aSp v Ss Fr Fs U).1)), (8, .int (nI (8 * i + j))), (0, .ref g), (1, .int (nI i)), (2, .int (nI j)), (3, .long x), (5, .long y), (7, .int (nI n))]) (by simp [zs1, zs2, lv_args, Value.category, show ((1 : Fin 4) : Nat) = 1 from rfl, show ((2 : Fin 4) : Nat) = 2 from rfl, show ((3 : Fin 4) : Nat) = 3 from rfl, show nI 0 = (0 : Int32) from rfl, show nI 1 = (1 : Int32) from rfl]) ?_
                          refine ih 0 _ _ (by show 0 < _ + 1; omega) ⟨v2, k + 1, (aSp v Ss Fr Fs U).1, (Fr :: Fs, U), hS, hU2.T hTT, rfl, hst2, by omega, hz2, Or.inr ⟨hc0, hc10, _, hco _ (aRn.dn (aMi_e hend (by omega) hc0)), rfl, rfl, (by show n - k - 1 = n - (k + 1); omega), hno2.2, hno2.1⟩⟩
                      · have hk0 : n - k = 0 := by have c8 := c310; rw [nI_eq (by omega) (by omega)] at c8; omega
                        refine r_iconst (v := 1) F dX12_run_313 (by decide) ?_
                        refine r_istore F dX12_run_314 (by decide) ?_
                        refine r_goto (tgt := 337) F dX12_run_316 (by decide) ?_
                        refine r_goto (tgt := 255) F dX12_run_337 (by decide) ?_
                        refine zsub (lv' := [(9, .int (nI 1)), (8, .int (nI (8 * i + j))), (0, .ref g), (1, .int (nI i)), (2, .int (nI j)), (3, .long x), (5, .long y), (7, .int (nI n))]) (by simp [zs1, zs2, lv_args, Value.category, show ((1 : Fin 4) : Nat) = 1 from rfl, show ((2 : Fin 4) : Nat) = 2 from rfl, show ((3 : Fin 4) : Nat) = 3 from rfl, show nI 0 = (0 : Int32) from rfl, show nI 1 = (1 : Int32) from rfl]) ?_
                        refine ih 0 _ _ (by show 0 < _ + 1; omega) ⟨v1, k, 1, (Fr :: Fs, U), hS, hU, rfl, hst, hkn, hz, Or.inr ⟨by decide, by decide, _, hco _ (aRn.dn (by rw [hk0]; exact aMi_f hend)), rfl, rfl, by rw [hk0], hR.2.2.2.2.2, hR.2.2.2.2.1⟩⟩
                    · have hend : (cn v 1208 (ff Fr)) ≤ fa Fr := by have c8 := c294; rw [nI_ltI (by omega) (by omega)] at c8; omega
                      have hcr : cn v 1206 (ff Fr) ≤ fh Fr := by have h9 := hF.2.2.2.2.2 (by omega); omega
                      have hT : vT v1 v1 := vT.rf
                      refine r_aload_n F dX12_run_297 rfl ?_
                      have e06 : v1.1 1206 (ff Fr) = nI (cn v 1206 (ff Fr)) := (hLL _ _ (by omega)).trans (rg_1206 hvv hf.1).1
                      have r106 := (rg_1206 hvv hf.1).2
                      refine c_Vv (ci := 12) F G (mm_leave hS (n := Fs.length) (b := sH Fs) (t := sH Fs + (fh Fr)) (r9 := cn v 1206 (ff Fr)) (rb := sK Fs) (f := ff Fr) hR.N (by omega) hR.F1.2.2.1 (by omega) hR.F1.1 hf.1 e06 r106 hR.T (by omega) (by omega) hR.F1.2.2.2.1) (cwV 0 F.2.2.2.2 (zgV km_X12_320 ki_X12_leave ke_X12_X12_leave kn_X12 ko_X12_leave) rfl rfl rfl ⟨rfl, hd_yX12_leave⟩ ⟨Nat.le_of_ble_eq_true rfl, Nat.le_of_ble_eq_true rfl⟩) rfl (by decide) hS.al rfl rfl (Nat.le_of_ble_eq_true rfl) dX12_run_298 ⟨Nat.le_of_ble_eq_true rfl, Nat.le_of_ble_eq_true rfl⟩ (fun S298 hS => ?_)
                      have hLv := hR.lv (v := v) r106 rfl hcr
                      have hT := (((hT.u (id := 1239) (k := 0) (x := nI Fs.length) (by omega)).kp (b := sH Fs) (t := sH Fs + (fh Fr)) (m := cn v 1206 (ff Fr))).u (id := 1249) (k := 0) (x := nI (sK Fs)) (by omega))
                      have hTT := hT
                      have hst' := (hTT.1 1230 0 (by omega)).trans hst
                      have hz' := (hTT.2 1229 0 (by omega)).trans hz
                      refine r_goto (tgt := 337) F dX12_run_301 (by decide) ?_
                      refine r_goto (tgt := 255) F dX12_run_337 (by decide) ?_
                      refine zsub (lv' := [(9, .int (nI 0)), (8, .int (nI (8 * i + j))), (0, .ref g), (1, .int (nI i)), (2, .int (nI j)), (3, .long x), (5, .long y), (7, .int (nI n))]) (by simp [zs1, zs2, lv_args, Value.category, show ((1 : Fin 4) : Nat) = 1 from rfl, show ((2 : Fin 4) : Nat) = 2 from rfl, show ((3 : Fin 4) : Nat) = 3 from rfl, show nI 0 = (0 : Int32) from rfl, show nI 1 = (1 : Int32) from rfl]) ?_
                      refine ih _ _ _ ?_ ⟨_, k, 0, aLv v Fr Fs U, hS, hU.T hTT, rfl, hst', hkn, hz', Or.inl ⟨rfl, rfl, hLv.1, hO.lv hs hend, fun R h9 => hco R (aRn.st (aMi_l hend) h9), ?_⟩⟩
                      · have hm := congrArg List.length (aLv_m (v := v) (F := Fr) (Fs := Fs) (U := U))
                        rw [List.length_map, List.length_map] at hm
                        rw [hm]
                        show _ < 2 * (n - k) + (Fs.length + 1) + 1
                        omega
                      · cases Fs with
                        | nil =>
                          refine Or.inr ⟨rfl, ?_⟩
                          have h9 := hLv.2 rfl
                          have e9 : ff Fr = 8 * i + j := Option.some.inj hlast
                          rw [← e9]
                          exact h9
                        | cons G9 Gs =>
                          refine Or.inl ?_
                          rw [aLv_m]
                          exact last_tl hlast (List.cons_ne_nil _ _)
              · have hcn : ¬ nI c9 = 0 := fun h9 => by rw [nl0, nI_eq (by omega) (by omega)] at h9; exact hc0 h9
                clear ih
                refine r_aload_n F dX12_run_255 rfl ?_
                refine gi_frames F G hS dX12_run_256 ?_
                refine r_if_le (tgt := 340) F dX12_run_259 (by decide) (fun c259 => ?_) (fun c259 => ?_)
                · 
                  refine r_iload F dX12_run_340 rfl ?_
                  refine r_if_ne (tgt := 366) F dX12_run_342 (by decide) (fun _ => ?_) (fun h9 => absurd h9 hcn)
                  refine r_iload F dX12_run_366 rfl ?_
                  exact e_iret F hr hlk (Or.inr (Or.inr ⟨hl1, i, j, n, R9, v1, hi, eo, hj, ef, hn2, en, hRn, (by rw [q1]), hS, hU, hz.trans q2.symm, (by rw [hst, q3]; congr 1; omega), q4, q5⟩)) (by decide) (by decide) dX12_run_368
                · refine r_iload F dX12_run_262 rfl ?_
                  refine r_if_ne (tgt := 340) F dX12_run_264 (by decide) (fun _ => ?_) (fun h9 => absurd h9 hcn)
                  refine r_iload F dX12_run_340 rfl ?_
                  refine r_if_ne (tgt := 366) F dX12_run_342 (by decide) (fun _ => ?_) (fun h9 => absurd h9 hcn)
                  refine r_iload F dX12_run_366 rfl ?_
                  exact e_iret F hr hlk (Or.inr (Or.inr ⟨hl1, i, j, n, R9, v1, hi, eo, hj, ef, hn2, en, hRn, (by rw [q1]), hS, hU, hz.trans q2.symm, (by rw [hst, q3]; congr 1; omega), q4, q5⟩)) (by decide) (by decide) dX12_run_368
            · have hkp : k < (cn v 1205 (8 * i + j)) := by have c8 := c212; rw [nI_leI (by omega) (by omega)] at c8; omega
              refine r_aload_n F dX12_run_215 rfl ?_
              refine r_iload F dX12_run_216 rfl ?_
              refine r_if_ne (tgt := 225) F dX12_run_218 (by decide) (fun c218 => ?_) (fun c218 => ?_)
              · refine r_iload F dX12_run_225 rfl ?_
                refine r_iconst (v := 1) F dX12_run_227 (by decide) ?_
                refine r_icmp_ne (tgt := 236) F dX12_run_228 (by decide) (fun c228 => ?_) (fun c228 => ?_)
                · refine r_lconst (v := 0) F dX12_run_236 (by decide) ?_
                  refine c_Vv (ci := 12) F G (mm_push hS (t := k) g1 (by omega)) (cwV 1 F.2.2.2.2 (zgV km_X12_343 ki_X12_push ke_X12_X12_push kn_X12 ko_X12_push) rfl rfl rfl ⟨rfl, hd_yX12_push⟩ ⟨Nat.le_of_ble_eq_true rfl, Nat.le_of_ble_eq_true rfl⟩) rfl (by decide) hS.al rfl rfl (Nat.le_of_ble_eq_true rfl) dX12_run_237 ⟨Nat.le_of_ble_eq_true rfl, Nat.le_of_ble_eq_true rfl⟩ (fun S237 hS => ?_)
                  have ek : ¬ k = 0 := fun h9 => c218 (by rw [h9]; rfl)
                  have ek1 : ¬ k = 1 := fun h9 => c228 (by rw [h9]; rfl)
                  refine r_iinc F dX12_run_240 rfl (by decide) ?_
                  refine r_goto (tgt := 203) F dX12_run_243 (by decide) ?_
                  refine zsub (lv' := [(9, .int (nI (k + 1))), (8, .int (nI (8 * i + j))), (0, .ref g), (1, .int (nI i)), (2, .int (nI j)), (3, .long x), (5, .long y), (7, .int (nI n))]) (by rw [show nI (k + 1) = nI k + Int32.ofInt 1 from (nI_add k 1).symm]; simp [zs1, zs2, lv_args, Value.category, show ((1 : Fin 4) : Nat) = 1 from rfl, show ((2 : Fin 4) : Nat) = 2 from rfl, show ((3 : Fin 4) : Nat) = 3 from rfl, show nI 0 = (0 : Int32) from rfl, show nI 1 = (1 : Int32) from rfl]) ?_
                  refine ih (n9 - 1) _ _ (by omega) ⟨_, k + 1, by omega, hS, hU.u (by omega), rfl, u1_s, (u1_n (Or.inl (by decide))).trans g2, (u1_n (Or.inl (by decide))).trans g3, (u1_n (Or.inl (by decide))).trans g4, (u1_n (Or.inl (by decide))).trans g5, (u2_n (v := v1) (i := 1245) (j := 1229) (k := k) (b := 0) (x := 0) (Or.inl (by decide))).trans g6, fun q hq => (u1_n (Or.inl (by decide))).trans (g7 q hq), fun q hq => ?_⟩
                  by_cases e : q = k
                  · rw [e]
                    refine (show (u2 v1 1245 k 0).2 1245 k = _ from u2_s).trans ?_
                    rw [if_neg ek, if_neg ek1]
                  · refine (show (u2 v1 1245 k 0).2 1245 q = _ from u2_n (Or.inr e)).trans ?_
                    exact g8 q (by omega)
                · refine r_lload F dX12_run_231 rfl ?_
                  refine r_goto (tgt := 237) F dX12_run_233 (by decide) ?_
                  refine c_Vv (ci := 12) F G (mm_push hS (t := k) g1 (by omega)) (cwV 1 F.2.2.2.2 (zgV km_X12_343 ki_X12_push ke_X12_X12_push kn_X12 ko_X12_push) rfl rfl rfl ⟨rfl, hd_yX12_push⟩ ⟨Nat.le_of_ble_eq_true rfl, Nat.le_of_ble_eq_true rfl⟩) rfl (by decide) hS.al rfl rfl (Nat.le_of_ble_eq_true rfl) dX12_run_237 ⟨Nat.le_of_ble_eq_true rfl, Nat.le_of_ble_eq_true rfl⟩ (fun S237 hS => ?_)
                  have ek : ¬ k = 0 := fun h9 => c218 (by rw [h9]; rfl)
                  have ek1 : k = 1 := by have c8 := c228; rw [nl1, nI_eq (by omega) (by omega)] at c8; exact c8
                  refine r_iinc F dX12_run_240 rfl (by decide) ?_
                  refine r_goto (tgt := 203) F dX12_run_243 (by decide) ?_
                  refine zsub (lv' := [(9, .int (nI (k + 1))), (8, .int (nI (8 * i + j))), (0, .ref g), (1, .int (nI i)), (2, .int (nI j)), (3, .long x), (5, .long y), (7, .int (nI n))]) (by rw [show nI (k + 1) = nI k + Int32.ofInt 1 from (nI_add k 1).symm]; simp [zs1, zs2, lv_args, Value.category, show ((1 : Fin 4) : Nat) = 1 from rfl, show ((2 : Fin 4) : Nat) = 2 from rfl, show ((3 : Fin 4) : Nat) = 3 from rfl, show nI 0 = (0 : Int32) from rfl, show nI 1 = (1 : Int32) from rfl]) ?_
                  refine ih (n9 - 1) _ _ (by omega) ⟨_, k + 1, by omega, hS, hU.u (by omega), rfl, u1_s, (u1_n (Or.inl (by decide))).trans g2, (u1_n (Or.inl (by decide))).trans g3, (u1_n (Or.inl (by decide))).trans g4, (u1_n (Or.inl (by decide))).trans g5, (u2_n (v := v1) (i := 1245) (j := 1229) (k := k) (b := 0) (x := y) (Or.inl (by decide))).trans g6, fun q hq => (u1_n (Or.inl (by decide))).trans (g7 q hq), fun q hq => ?_⟩
                  by_cases e : q = k
                  · rw [e]
                    refine (show (u2 v1 1245 k y).2 1245 k = _ from u2_s).trans ?_
                    rw [if_neg ek, if_pos ek1]
                  · refine (show (u2 v1 1245 k y).2 1245 q = _ from u2_n (Or.inr e)).trans ?_
                    exact g8 q (by omega)
              · refine r_lload_n F dX12_run_221 rfl ?_
                refine r_goto (tgt := 237) F dX12_run_222 (by decide) ?_
                refine c_Vv (ci := 12) F G (mm_push hS (t := k) g1 (by omega)) (cwV 1 F.2.2.2.2 (zgV km_X12_343 ki_X12_push ke_X12_X12_push kn_X12 ko_X12_push) rfl rfl rfl ⟨rfl, hd_yX12_push⟩ ⟨Nat.le_of_ble_eq_true rfl, Nat.le_of_ble_eq_true rfl⟩) rfl (by decide) hS.al rfl rfl (Nat.le_of_ble_eq_true rfl) dX12_run_237 ⟨Nat.le_of_ble_eq_true rfl, Nat.le_of_ble_eq_true rfl⟩ (fun S237 hS => ?_)
                have ek : k = 0 := by have c8 := c218; rw [nl0, nI_eq (by omega) (by omega)] at c8; exact c8
                refine r_iinc F dX12_run_240 rfl (by decide) ?_
                refine r_goto (tgt := 203) F dX12_run_243 (by decide) ?_
                refine zsub (lv' := [(9, .int (nI (k + 1))), (8, .int (nI (8 * i + j))), (0, .ref g), (1, .int (nI i)), (2, .int (nI j)), (3, .long x), (5, .long y), (7, .int (nI n))]) (by rw [show nI (k + 1) = nI k + Int32.ofInt 1 from (nI_add k 1).symm]; simp [zs1, zs2, lv_args, Value.category, show ((1 : Fin 4) : Nat) = 1 from rfl, show ((2 : Fin 4) : Nat) = 2 from rfl, show ((3 : Fin 4) : Nat) = 3 from rfl, show nI 0 = (0 : Int32) from rfl, show nI 1 = (1 : Int32) from rfl]) ?_
                refine ih (n9 - 1) _ _ (by omega) ⟨_, k + 1, by omega, hS, hU.u (by omega), rfl, u1_s, (u1_n (Or.inl (by decide))).trans g2, (u1_n (Or.inl (by decide))).trans g3, (u1_n (Or.inl (by decide))).trans g4, (u1_n (Or.inl (by decide))).trans g5, (u2_n (v := v1) (i := 1245) (j := 1229) (k := k) (b := 0) (x := x) (Or.inl (by decide))).trans g6, fun q hq => (u1_n (Or.inl (by decide))).trans (g7 q hq), fun q hq => ?_⟩
                by_cases e : q = k
                · rw [e]
                  refine (show (u2 v1 1245 k x).2 1245 k = _ from u2_s).trans ?_
                  rw [if_pos ek]
                · refine (show (u2 v1 1245 k x).2 1245 q = _ from u2_n (Or.inr e)).trans ?_
                  exact g8 q (by omega)
          · have hq24 : q < 24 := by have c8 := c82; rw [nl24, nI_leI (by omega) (by omega)] at c8; omega
            have hb1 := (rg_1203 hs.1 (k := q / 4) (by omega)).2
            have hb3 := (rg_1211 hs.1 (k := q) (by omega)).2
            refine r_iload F dX12_run_85 rfl ?_
            refine r_iconst (v := 4) F dX12_run_87 (by decide) ?_
            refine r_irem F dX12_run_88 (by decide) ?_
            refine r_aload_n F dX12_run_89 rfl ?_
            refine gq_segments F G hS dX12_run_90 ?_
            refine r_iload F dX12_run_93 rfl ?_
            refine r_iconst (v := 4) F dX12_run_95 (by decide) ?_
            refine r_idiv F dX12_run_96 (by decide) ?_
            refine al_segments F G hS (q / 4) (show nI q / 4 = _ by rw [nl4]; exact nI_div (by omega) (by omega)) (by omega) dX12_run_97 ?_
            rw [show nI q - nI q / 4 * 4 = nI (q % 4) by rw [nl4]; exact nI_mod (by omega) (by omega), show v1.1 1203 (q / 4) = nI (cn v 1203 (q / 4)) from ((hU.L hL) _ _ (by omega)).trans (rg_1203 hs.1 (by omega)).1]
            refine r_icmp_lt (tgt := 104) F dX12_run_98 (by decide) (fun c98 => ?_) (fun c98 => ?_)
            · have hth : q % 4 < cn v 1203 (q / 4) := by have c8 := c98; rw [nI_ltI (by omega) (by omega)] at c8; exact c8
              have hgl := aG_le hq24 hth h1024
              refine r_aload_n F dX12_run_104 rfl ?_
              refine r_iload F dX12_run_105 rfl ?_
              refine c_Vi (ci := 12) F G (mm_addressOfSegment hS hq24 ((hU.L hL).rg hs.1)) (cwV 1 F.2.2.2.2 (zgV km_X12_149 ki_X12_addressOfSegment ke_X12_X12_addressOfSegment kn_X12 ko_X12_addressOfSegment) rfl rfl rfl ⟨rfl, hd_yX12_addressOfSegment⟩ ⟨Nat.le_of_ble_eq_true rfl, Nat.le_of_ble_eq_true rfl⟩) rfl (by decide) hS.al rfl rfl (Nat.le_of_ble_eq_true rfl) dX12_run_107 ⟨Nat.le_of_ble_eq_true rfl, Nat.le_of_ble_eq_true rfl⟩ (fun r107 S107 h107 => ?_)
              obtain ⟨a107, e107⟩ := h107
              have hs107 := e107.symm
              subst hs107
              rw [(hU.L hL).eaS, (hU.L hL).c (by omega)] at a107
              have a107b : r107 = nI (aG v q) := a107
              subst a107b
              refine r_istore F dX12_run_110 (by decide) ?_
              refine r_iconst (v := 0) F dX12_run_112 (by decide) ?_
              refine r_istore F dX12_run_113 (by decide) ?_
              refine zsub (lv' := [(10, .int (nI 0)), (9, .int (nI (aG v q))), (8, .int (nI q)), (0, .ref g), (1, .int (nI i)), (2, .int (nI j)), (3, .long x), (5, .long y), (7, .int (nI n))]) (by simp [zs1, zs2, lv_args, Value.category, show ((1 : Fin 4) : Nat) = 1 from rfl, show ((2 : Fin 4) : Nat) = 2 from rfl, show ((3 : Fin 4) : Nat) = 3 from rfl, show nI 0 = (0 : Int32) from rfl, show nI 1 = (1 : Int32) from rfl]) ?_
              refine z_loop (fun n8 S9 lv => ∃ (v1 : zV) (k : Nat), k + n8 = cn v 1211 q ∧ zmR S0 g qa v1 S9 ∧ rU vs v1 ∧ lv = [(10, .int (nI k)), (9, .int (nI (aG v q))), (8, .int (nI q)), (0, .ref g), (1, .int (nI i)), (2, .int (nI j)), (3, .long x), (5, .long y), (7, .int (nI n))] ∧ ∀ t, t < 1024 → v1.1 1228 t = if (aG v q) ≤ t ∧ t < (aG v q) + k then v.1 1213 (64 * q + (t - (aG v q))) else mG v q t) (cn v 1211 q) ?_ ⟨_, 0, Nat.zero_add _, hS, hU, rfl, fun t ht => by rw [if_neg (by omega)]; exact hmem t ht⟩
              clear hS hU hmem
              rintro n8 S lv ⟨v1, k, hkn, hS, hU, rfl, g9⟩ ih2
              refine r_iload F dX12_run_115 rfl ?_
              refine r_aload_n F dX12_run_117 rfl ?_
              refine gq_size F G hS dX12_run_118 ?_
              refine r_iload F dX12_run_121 rfl ?_
              refine al_size F G hS (q) rfl (by omega) dX12_run_123 ?_
              rw [show v1.1 1211 q = nI (cn v 1211 q) from ((hU.L hL) _ _ (by omega)).trans (rg_1211 hs.1 (by omega)).1]
              refine r_icmp_ge (tgt := 156) F dX12_run_124 (by decide) (fun c124 => ?_) (fun c124 => ?_)
              · have hks : k = cn v 1211 q := by have c8 := c124; rw [nI_leI (by omega) (by omega)] at c8; omega
                subst hks
                refine r_iinc F dX12_run_156 rfl (by decide) ?_
                refine r_goto (tgt := 78) F dX12_run_159 (by decide) ?_
                refine zsub (lv' := [(8, .int (nI (q + 1))), (0, .ref g), (1, .int (nI i)), (2, .int (nI j)), (3, .long x), (5, .long y), (7, .int (nI n))]) (by rw [show nI (q + 1) = nI q + Int32.ofInt 1 from (nI_add q 1).symm]; simp [zs1, zs2, lv_args, Value.category, show ((1 : Fin 4) : Nat) = 1 from rfl, show ((2 : Fin 4) : Nat) = 2 from rfl, show ((3 : Fin 4) : Nat) = 3 from rfl, show nI 0 = (0 : Int32) from rfl, show nI 1 = (1 : Int32) from rfl]) ?_
                refine ih (n9 - 1) _ _ (by omega) ⟨_, q + 1, by omega, hS, hU, rfl, fun t ht => ?_⟩
                rw [g9 t ht]
                exact (congrFun (show mG v (q + 1) = _ from if_pos hth) t).symm
              · have hks : k < cn v 1211 q := by have c8 := c124; rw [nI_leI (by omega) (by omega)] at c8; omega
                refine r_aload_n F dX12_run_127 rfl ?_
                refine gq_memory F G hS dX12_run_128 ?_
                refine r_iload F dX12_run_131 rfl ?_
                refine r_iload F dX12_run_133 rfl ?_
                refine r_iadd F dX12_run_135 ?_
                refine r_aload_n F dX12_run_136 rfl ?_
                refine gq_bytes F G hS dX12_run_137 ?_
                refine r_bipush (v := 64) F dX12_run_140 (by decide) ?_
                refine r_iload F dX12_run_142 rfl ?_
                refine r_imul F dX12_run_144 ?_
                refine r_iload F dX12_run_145 rfl ?_
                refine r_iadd F dX12_run_147 ?_
                refine al_bytes F G hS (64 * q + k) (by simp only [nl0, nl1, nl2, nl3, nl4, nl5, nl6, nl7, nl8, nl9, nl10, nl16, nl60, nl64, nI_mul, nI_add]) (by omega) dX12_run_148 ?_
                rw [show v1.1 1213 (64 * q + k) = v.1 1213 (64 * q + k) from (hU.L hL) _ _ (by omega)]
                refine as_memory F G hS ((aG v q) + k) (nI_add _ _) (by omega) dX12_run_149 (fun S hS => ?_)
                rw [hBB _ (by omega)] at hS
                refine r_iinc F dX12_run_150 rfl (by decide) ?_
                refine r_goto (tgt := 115) F dX12_run_153 (by decide) ?_
                refine zsub (lv' := [(10, .int (nI (k + 1))), (9, .int (nI (aG v q))), (8, .int (nI q)), (0, .ref g), (1, .int (nI i)), (2, .int (nI j)), (3, .long x), (5, .long y), (7, .int (nI n))]) (by rw [show nI (k + 1) = nI k + Int32.ofInt 1 from (nI_add k 1).symm]; simp [zs1, zs2, lv_args, Value.category, show ((1 : Fin 4) : Nat) = 1 from rfl, show ((2 : Fin 4) : Nat) = 2 from rfl, show ((3 : Fin 4) : Nat) = 3 from rfl, show nI 0 = (0 : Int32) from rfl, show nI 1 = (1 : Int32) from rfl]) ?_
                refine ih2 (n8 - 1) _ _ (by omega) ⟨_, k + 1, by omega, hS, hU.u (by omega), rfl, fun t ht => ?_⟩
                by_cases e : t = (aG v q) + k
                · subst e
                  rw [u1_s, if_pos ⟨by omega, by omega⟩, Nat.add_sub_cancel_left]
                · rw [u1_n (Or.inr e), g9 t ht]
                  by_cases e2 : (aG v q) ≤ t ∧ t < (aG v q) + k
                  · rw [if_pos e2, if_pos ⟨e2.1, by omega⟩]
                  · rw [if_neg e2, if_neg (by omega)]
            · have hth : ¬ q % 4 < cn v 1203 (q / 4) := by have c8 := c98; rw [nI_ltI (by omega) (by omega)] at c8; exact c8
              refine r_goto (tgt := 156) F dX12_run_101 (by decide) ?_
              refine r_iinc F dX12_run_156 rfl (by decide) ?_
              refine r_goto (tgt := 78) F dX12_run_159 (by decide) ?_
              refine zsub (lv' := [(8, .int (nI (q + 1))), (0, .ref g), (1, .int (nI i)), (2, .int (nI j)), (3, .long x), (5, .long y), (7, .int (nI n))]) (by rw [show nI (q + 1) = nI q + Int32.ofInt 1 from (nI_add q 1).symm]; simp [zs1, zs2, lv_args, Value.category, show ((1 : Fin 4) : Nat) = 1 from rfl, show ((2 : Fin 4) : Nat) = 2 from rfl, show ((3 : Fin 4) : Nat) = 3 from rfl, show nI 0 = (0 : Int32) from rfl, show nI 1 = (1 : Int32) from rfl]) ?_
              exact ih (n9 - 1) _ _ (by omega) ⟨_, q + 1, by omega, hS, hU, rfl, fun t ht => (hmem t ht).trans (congrFun (show mG v (q + 1) = _ from if_neg hth) t).symm⟩
        · have hk : k < 1024 := by have c8 := c58; rw [show (1024 : Int32) = nI 1024 from rfl, nI_leI (by omega) (by omega)] at c8; omega
          refine r_aload_n F dX12_run_61 rfl ?_
          refine gq_memory F G hS dX12_run_62 ?_
          refine r_iload F dX12_run_65 rfl ?_
          refine r_iconst (v := 0) F dX12_run_67 (by decide) ?_
          refine as_memory F G hS (k) rfl hk dX12_run_68 (fun S hS => ?_)
          rw [show vp_nar .byte (0 : Int32) = 0 from rfl] at hS
          refine r_iinc F dX12_run_69 rfl (by decide) ?_
          refine r_goto (tgt := 53) F dX12_run_72 (by decide) ?_
          refine zsub (lv' := [(8, .int (nI (k + 1))), (0, .ref g), (1, .int (nI i)), (2, .int (nI j)), (3, .long x), (5, .long y), (7, .int (nI n))]) (by rw [show nI (k + 1) = nI k + Int32.ofInt 1 from (nI_add k 1).symm]; simp [zs1, zs2, lv_args, Value.category, show ((1 : Fin 4) : Nat) = 1 from rfl, show ((2 : Fin 4) : Nat) = 2 from rfl, show ((3 : Fin 4) : Nat) = 3 from rfl, show nI 0 = (0 : Int32) from rfl, show nI 1 = (1 : Int32) from rfl]) ?_
          refine ih (n9 - 1) _ _ (by omega) ⟨_, k + 1, by omega, hS, hU.u (by omega), rfl, fun t ht => ?_⟩
          by_cases e : t = k
          · rw [e, u1_s]
          · rw [u1_n (Or.inr e)]
            exact hmem t (by omega)
      · refine r_iconst (v := 2) F dX12_run_33 (by decide) ?_
        refine r_goto (tgt := 38) F dX12_run_34 (by decide) ?_
        refine pi_code F G hS dX12_run_38 (fun S hS => ?_)
        refine r_aload_n F dX12_run_41 rfl ?_
        refine gi_code F G hS dX12_run_42 ?_
        refine r_if_le (tgt := 50) F dX12_run_45 (by decide) (fun h9 => absurd h9 (show ¬ (u1 vs 1200 0 2).1 1200 0 ≤ 0 by rw [u1_s]; decide)) (fun _ => ?_)
        refine r_iconst (v := 0) F dX12_run_48 (by decide) ?_
        exact e_iret F hr hlk (Or.inr (Or.inl ⟨⟨a4.t c7, a16.t c19⟩, c30, rfl, hS⟩)) (by decide) (by decide) dX12_run_49
    · refine r_iconst (v := 1) F dX12_run_22 (by decide) ?_
      refine r_goto (tgt := 38) F dX12_run_23 (by decide) ?_
      refine pi_code F G hS dX12_run_38 (fun S hS => ?_)
      refine r_aload_n F dX12_run_41 rfl ?_
      refine gi_code F G hS dX12_run_42 ?_
      refine r_if_le (tgt := 50) F dX12_run_45 (by decide) (fun h9 => absurd h9 (show ¬ (u1 vs 1200 0 1).1 1200 0 ≤ 0 by rw [u1_s]; decide)) (fun _ => ?_)
      refine r_iconst (v := 0) F dX12_run_48 (by decide) ?_
      exact e_iret F hr hlk (Or.inl ⟨fun h9 => a16.f c19 h9.2, rfl, hS⟩) (by decide) (by decide) dX12_run_49
