theorem pB_cg {f g : Nat → Int32} {t : Nat} {w : Int64} (h : ∀ k, k < 1024 → f k = g k) : ∀ n, ∀ k, k < 1024 → pB f t w n k = pB g t w n k
  | 0, k, hk => h k hk
  | n + 1, k, hk => by
    show upd (pB f t w n) (t + n) (pby w n) k = upd (pB g t w n) (t + n) (pby w n) k
    unfold upd
    split
    · rfl
    · exact pB_cg h n k hk
section ZMV
variable {p : Program} {l : Launch} {e : Env} {R : Room} {s : State} {m : MethodId} {args : Array Value} {below : List Frame} {meth : Method} {c : Code} {Q : State → Prop} {N0 t0 : Nat} {D : va_G} {cy : Nat → ClassId} {cc : ByteArray} {nL cells slots : Nat} {z : Cond} {S : zS} {lv : List (Nat × Value)} {pc : Nat} {rest : List Value} {X : Nat → Prop} {S0 : zS} {ad : Nat → Nat} {W : zO} {M : mKt}
theorem gm_heightS (F : CallFix p m c cc nL s args (z :: lw_good) RX3) (G : zG N0 t0 D cy s s.heap) (hM : nZ t0 X S0 ad W M S) {x : Int32} (hv : M.1 406 = x) (hdg : decode cc pc = .ok (.getfield 71, 3)) (kk : zW p l e R s m args below meth c Q N0 D cy nL cells slots S lv (pc + 3) (.int x :: rest)) : zW p l e R s m args below meth c Q N0 D cy nL cells slots S lv (pc) (.ref (ad 14) :: rest) := gm_height F G hM hdg (by rw [hv]; exact kk)
theorem gm_depthS (F : CallFix p m c cc nL s args (z :: lw_good) RX3) (G : zG N0 t0 D cy s s.heap) (hM : nZ t0 X S0 ad W M S) {x : Int32} (hv : M.1 407 = x) (hdg : decode cc pc = .ok (.getfield 74, 3)) (kk : zW p l e R s m args below meth c Q N0 D cy nL cells slots S lv (pc + 3) (.int x :: rest)) : zW p l e R s m args below meth c Q N0 D cy nL cells slots S lv (pc) (.ref (ad 14) :: rest) := gm_depth F G hM hdg (by rw [hv]; exact kk)
theorem gm_endS (F : CallFix p m c cc nL s args (z :: lw_good) RX3) (G : zG N0 t0 D cy s s.heap) (hM : nZ t0 X S0 ad W M S) {x : Int32} (hv : M.1 408 = x) (hdg : decode cc pc = .ok (.getfield 77, 3)) (kk : zW p l e R s m args below meth c Q N0 D cy nL cells slots S lv (pc + 3) (.int x :: rest)) : zW p l e R s m args below meth c Q N0 D cy nL cells slots S lv (pc) (.ref (ad 14) :: rest) := gm_end F G hM hdg (by rw [hv]; exact kk)
theorem gm_stepsS (F : CallFix p m c cc nL s args (z :: lw_good) RX3) (G : zG N0 t0 D cy s s.heap) (hM : nZ t0 X S0 ad W M S) {x : Int32} (hv : M.1 410 = x) (hdg : decode cc pc = .ok (.getfield 84, 3)) (kk : zW p l e R s m args below meth c Q N0 D cy nL cells slots S lv (pc + 3) (.int x :: rest)) : zW p l e R s m args below meth c Q N0 D cy nL cells slots S lv (pc) (.ref (ad 14) :: rest) := gm_steps F G hM hdg (by rw [hv]; exact kk)
theorem gm_deepestS (F : CallFix p m c cc nL s args (z :: lw_good) RX3) (G : zG N0 t0 D cy s s.heap) (hM : nZ t0 X S0 ad W M S) {x : Int32} (hv : M.1 411 = x) (hdg : decode cc pc = .ok (.getfield 87, 3)) (kk : zW p l e R s m args below meth c Q N0 D cy nL cells slots S lv (pc + 3) (.int x :: rest)) : zW p l e R s m args below meth c Q N0 D cy nL cells slots S lv (pc) (.ref (ad 14) :: rest) := gm_deepest F G hM hdg (by rw [hv]; exact kk)
end ZMV
set_option maxRecDepth 100000 in
set_option maxHeartbeats 4000000 in
theorem c_macc19 {l : Launch} {N0 t0 : Nat} {D : va_G} {cy : Nat → ClassId} {S : zS} {X : Nat → Prop} {S0 : zS} {ad : Nat → Nat} {W : zO} {M : mKt} (hM : nZ t0 X S0 ad W M S) {v : zV} {Fr : aF} {Fs : List aF} {U : aU} (hC : cRp v (Fr :: Fs, U) M) (hB : fBz v Fr Fs + fh Fr ≤ 2719) {a : Nat} {A9 : aM} (ha : a ≤ 1000) (h2 : 1 ≤ fh Fr) : zMv l yX3_access (zws yX3_access cX3_access 10 none) { frames := 1, cells := 0, slots := 0, locals := 25 } N0 t0 D cy S [.ref (ad 14), .int (nI 19), .int (nI a)] (fun S' => ∃ M', nZ t0 X S0 ad W M' S' ∧ cP v U M M' (if outP (fv Fr (fh Fr - 1)) a 8 then (3, A9) else (0, fPu (fDr Fr 1) (ldR U.1 ((fv Fr (fh Fr - 1)).toInt.toNat + a) 8 8) :: Fs, U))) 0 0 := by
  refine zMv.of (cc := cX3_access) (maxL := 10) (ret := none) (by decide) rfl (Nat.le_of_ble_eq_true rfl) ?_
  intro p e s m args below meth c F G hr hlk hnm
  obtain ⟨M0, eM0⟩ : ∃ M0, M0 = M := ⟨_, rfl⟩
  have hKp : mKp M0 M := by rw [eM0]; exact mKp.rf
  rw [← eM0]
  clear eM0
  refine r_iload_n F dX3_access_0 rfl ?_
  refine r_bipush (v := 20) F dX3_access_1 (by decide) ?_
  refine r_icmp_eq (tgt := 12) F dX3_access_3 (by decide) (fun h9 => absurd h9 (by decide)) (fun _ => ?_)
  refine r_iload_n F dX3_access_6 rfl ?_
  refine r_bipush (v := 22) F dX3_access_7 (by decide) ?_
  refine r_icmp_ne (tgt := 16) F dX3_access_9 (by decide) (fun _ => ?_) (fun h9 => absurd h9 (by decide))
  refine r_iconst (v := 0) F dX3_access_16 (by decide) ?_
  refine r_istore_n F dX3_access_17 (by decide) ?_
  refine r_iload_n F dX3_access_18 rfl ?_
  refine r_bipush (v := 19) F dX3_access_19 (by decide) ?_
  refine r_icmp_eq (tgt := 30) F dX3_access_21 (by decide) (fun _ => ?_) (fun h9 => absurd (by decide) h9)
  refine r_bipush (v := 8) F dX3_access_30 (by decide) ?_
  refine r_goto (tgt := 36) F dX3_access_32 (by decide) ?_
  refine r_istore F dX3_access_36 (by decide) ?_
  refine r_iload_n F dX3_access_38 rfl ?_
  refine r_if_eq (tgt := 49) F dX3_access_39 (by decide) (fun _ => ?_) (fun h9 => absurd rfl h9)
  refine r_lconst (v := 0) F dX3_access_49 (by decide) ?_
  refine r_lstore F dX3_access_50 (by decide) ?_
  refine r_aload_n F dX3_access_52 rfl ?_
  refine c_Vl (ci := 4) F G (c_mpop hM.1 hM.2.1 hM.2.2 (h := fBz v Fr Fs + (fh Fr - 1)) (by rw [show M.1 406 = nI (fBz v Fr Fs + fh Fr) from hC.H, show fBz v Fr Fs + fh Fr = fBz v Fr Fs + (fh Fr - 1) + 1 from by omega]) (by omega)) (cwV 0 F.2.2.2.2 (zgV km_X3_128 ki_X3_pop ke_X3_X3_pop kn_X3 ko_X3_pop) rfl rfl rfl ⟨rfl, hd_yX3_pop⟩ ⟨Nat.le_of_ble_eq_true rfl, Nat.le_of_ble_eq_true rfl⟩) rfl (by decide) hM.A rfl rfl (Nat.le_of_ble_eq_true rfl) dX3_access_53 ⟨Nat.le_of_ble_eq_true rfl, Nat.le_of_ble_eq_true rfl⟩ (fun r53 S53 h53 => ?_)
  obtain ⟨h53a, h53b⟩ := h53
  have hM : nZ t0 X S0 ad W (mHt M (fBz v Fr Fs + (fh Fr - 1))) S53 := ⟨hM.1, hM.2.1, h53b⟩
  rw [show M.2.2.2.1 (fBz v Fr Fs + (fh Fr - 1)) = fv Fr (fh Fr - 1) from hC.va (j := fh Fr - 1) (show fh Fr - 1 < fh Fr by omega)] at h53a
  subst h53a
  have hC : cRp v (fDr Fr 1 :: Fs, U) (mHt M (fBz v Fr Fs + (fh Fr - 1))) := hC.dr (m := 1) (show 1 ≤ fh Fr by omega)
  have hKp := hKp.ht (h := fBz v Fr Fs + (fh Fr - 1))
  generalize mHt M (fBz v Fr Fs + (fh Fr - 1)) = M at hM hC hKp
  refine r_lstore F dX3_access_56 (by decide) ?_
  refine r_lload F dX3_access_58 rfl ?_
  refine r_lconst (v := 0) F dX3_access_60 (by decide) ?_
  refine r_lcmp F dX3_access_61 ?_
  refine r_if_lt (tgt := 80) F dX3_access_62 (by decide) (fun c62 => ?_) (fun c62 => ?_)
  · refine r_aload_n F dX3_access_80 rfl ?_
    refine r_iconst (v := 3) F dX3_access_81 (by decide) ?_
    refine pm_end F G hM dX3_access_82 (fun S hM => ?_)
    refine e_vret F hr hlk ⟨_, hM, ?_⟩ (by decide) (by decide) dX3_access_85
    rw [if_pos (show outP (fv Fr (fh Fr - 1)) a 8 from Or.inl ((lg_cmp_lt _ _).mp c62))]
    exact cP.no (by decide) rfl hC hKp
  · refine r_lload F dX3_access_65 rfl ?_
    refine r_sipush (v := 1024) F dX3_access_67 (by decide) ?_
    refine r_iload F dX3_access_70 rfl ?_
    refine r_isub F dX3_access_72 ?_
    refine r_iload_n F dX3_access_73 rfl ?_
    refine r_isub F dX3_access_74 ?_
    rw [show (1024 : Int32) - 8 - nI a = nI (1024 - 8 - a) from by rw [show (1024 : Int32) = nI 1024 from rfl, show (8 : Int32) = nI 8 from rfl, nI_sub (by omega), nI_sub (by omega)]]
    refine r_i2l F dX3_access_75 ?_
    refine r_lcmp F dX3_access_76 ?_
    refine r_if_le (tgt := 86) F dX3_access_77 (by decide) (fun c77 => ?_) (fun c77 => ?_)
    · have hno : ¬ outP (fv Fr (fh Fr - 1)) a 8 := fun h9 => by
        rcases h9 with h9 | h9
        · exact c62 ((lg_cmp_lt _ _).mpr h9)
        · have c9 := c77
          rw [lg_cmp_le, Int64.le_iff_toInt_le, i2l_n (by omega)] at c9
          omega
      have ho := out_n hno
      refine r_lload F dX3_access_86 rfl ?_
      refine r_l2i F dX3_access_88 ?_
      refine r_iload_n F dX3_access_89 rfl ?_
      refine r_iadd F dX3_access_90 ?_
      rw [l2i_n ho.1, nI_add]
      refine r_istore F dX3_access_91 (by decide) ?_
      refine r_iload_n F dX3_access_93 rfl ?_
      refine r_if_eq (tgt := 113) F dX3_access_94 (by decide) (fun _ => ?_) (fun h9 => absurd rfl h9)
      refine r_aload_n F dX3_access_113 rfl ?_
      refine r_aload_n F dX3_access_114 rfl ?_
      refine r_iload F dX3_access_115 rfl ?_
      refine r_iload F dX3_access_117 rfl ?_
      refine c_Vl (ci := 4) F G (c_mloaded hM (a := ((fv Fr (fh Fr - 1)).toInt.toNat + a)) (n := 8) (by omega) (by omega)) (cwV 2 F.2.2.2.2 (zgV km_X3_191 ki_X3_loaded ke_X3_X3_loaded kn_X3 ko_X3_loaded) rfl rfl rfl ⟨rfl, hd_yX3_loaded⟩ ⟨Nat.le_of_ble_eq_true rfl, Nat.le_of_ble_eq_true rfl⟩) rfl (by decide) hM.A rfl rfl (Nat.le_of_ble_eq_true rfl) dX3_access_119 ⟨Nat.le_of_ble_eq_true rfl, Nat.le_of_ble_eq_true rfl⟩ (fun r119 S119 h119 => ?_)
      obtain ⟨h119a, h119b⟩ := h119
      have h119c := h119b.symm
      subst h119c
      rw [ld_eq8, ldR_cg hC.2.2.2.1 (by omega) 8 (Nat.le_refl _)] at h119a
      subst h119a
      refine c_Vv (ci := 4) F G (c_mpush hM.1 hM.2.1 hM.2.2 (h := fBz v Fr Fs + (fh Fr - 1)) (x := (ldR U.1 ((fv Fr (fh Fr - 1)).toInt.toNat + a) 8 8)) hC.H (by omega)) (cwV 1 F.2.2.2.2 (zgV km_X3_93 ki_X3_push ke_X3_X3_push kn_X3 ko_X3_push) rfl rfl rfl ⟨rfl, hd_yX3_push⟩ ⟨Nat.le_of_ble_eq_true rfl, Nat.le_of_ble_eq_true rfl⟩) rfl (by decide) hM.A rfl rfl (Nat.le_of_ble_eq_true rfl) dX3_access_122 ⟨Nat.le_of_ble_eq_true rfl, Nat.le_of_ble_eq_true rfl⟩ (fun S122 h122 => ?_)
      have hM : nZ t0 X S0 ad W (mPu M (fBz v Fr Fs + (fh Fr - 1)) (ldR U.1 ((fv Fr (fh Fr - 1)).toInt.toNat + a) 8 8)) S122 := ⟨hM.1, hM.2.1, h122⟩
      have hC : cRp v (fPu (fDr Fr 1) (ldR U.1 ((fv Fr (fh Fr - 1)).toInt.toNat + a) 8 8) :: Fs, U) (mPu M (fBz v Fr Fs + (fh Fr - 1)) (ldR U.1 ((fv Fr (fh Fr - 1)).toInt.toNat + a) 8 8)) := hC.pu
      have hKp := hKp.pu (h := fBz v Fr Fs + (fh Fr - 1)) (x := (ldR U.1 ((fv Fr (fh Fr - 1)).toInt.toNat + a) 8 8))
      generalize mPu M (fBz v Fr Fs + (fh Fr - 1)) (ldR U.1 ((fv Fr (fh Fr - 1)).toInt.toNat + a) 8 8) = M at hM hC hKp
      refine e_vret F hr hlk ⟨_, hM, ?_⟩ (by decide) (by decide) dX3_access_125
      rw [if_neg hno]
      exact cP.go hC hKp
    · refine r_aload_n F dX3_access_80 rfl ?_
      refine r_iconst (v := 3) F dX3_access_81 (by decide) ?_
      refine pm_end F G hM dX3_access_82 (fun S hM => ?_)
      refine e_vret F hr hlk ⟨_, hM, ?_⟩ (by decide) (by decide) dX3_access_85
      rw [if_pos (show outP (fv Fr (fh Fr - 1)) a 8 from Or.inr (by have c9 := c77; rw [lg_cmp_le, Int64.le_iff_toInt_le, i2l_n (by omega)] at c9; omega))]
      exact cP.no (by decide) rfl hC hKp
set_option maxRecDepth 100000 in
set_option maxHeartbeats 4000000 in
theorem c_macc20 {l : Launch} {N0 t0 : Nat} {D : va_G} {cy : Nat → ClassId} {S : zS} {X : Nat → Prop} {S0 : zS} {ad : Nat → Nat} {W : zO} {M : mKt} (hM : nZ t0 X S0 ad W M S) {v : zV} {Fr : aF} {Fs : List aF} {U : aU} (hC : cRp v (Fr :: Fs, U) M) (hB : fBz v Fr Fs + fh Fr ≤ 2719) {a : Nat} {A9 : aM} (ha : a ≤ 1000) (h2 : 2 ≤ fh Fr) : zMv l yX3_access (zws yX3_access cX3_access 10 none) { frames := 1, cells := 0, slots := 0, locals := 25 } N0 t0 D cy S [.ref (ad 14), .int (nI 20), .int (nI a)] (fun S' => ∃ M', nZ t0 X S0 ad W M' S' ∧ cP v U M M' (if outP (fv Fr (fh Fr - 2)) a 8 then (3, A9) else (0, fDr Fr 2 :: Fs, pB U.1 ((fv Fr (fh Fr - 2)).toInt.toNat + a) (fv Fr (fh Fr - 1)) 8, U.2))) 0 0 := by
  refine zMv.of (cc := cX3_access) (maxL := 10) (ret := none) (by decide) rfl (Nat.le_of_ble_eq_true rfl) ?_
  intro p e s m args below meth c F G hr hlk hnm
  obtain ⟨M0, eM0⟩ : ∃ M0, M0 = M := ⟨_, rfl⟩
  have hKp : mKp M0 M := by rw [eM0]; exact mKp.rf
  rw [← eM0]
  clear eM0
  refine r_iload_n F dX3_access_0 rfl ?_
  refine r_bipush (v := 20) F dX3_access_1 (by decide) ?_
  refine r_icmp_eq (tgt := 12) F dX3_access_3 (by decide) (fun _ => ?_) (fun h9 => absurd (by decide) h9)
  refine r_iconst (v := 1) F dX3_access_12 (by decide) ?_
  refine r_goto (tgt := 17) F dX3_access_13 (by decide) ?_
  refine r_istore_n F dX3_access_17 (by decide) ?_
  refine r_iload_n F dX3_access_18 rfl ?_
  refine r_bipush (v := 19) F dX3_access_19 (by decide) ?_
  refine r_icmp_eq (tgt := 30) F dX3_access_21 (by decide) (fun h9 => absurd h9 (by decide)) (fun _ => ?_)
  refine r_iload_n F dX3_access_24 rfl ?_
  refine r_bipush (v := 20) F dX3_access_25 (by decide) ?_
  refine r_icmp_ne (tgt := 35) F dX3_access_27 (by decide) (fun h9 => absurd rfl h9) (fun _ => ?_)
  refine r_bipush (v := 8) F dX3_access_30 (by decide) ?_
  refine r_goto (tgt := 36) F dX3_access_32 (by decide) ?_
  refine r_istore F dX3_access_36 (by decide) ?_
  refine r_iload_n F dX3_access_38 rfl ?_
  refine r_if_eq (tgt := 49) F dX3_access_39 (by decide) (fun h9 => absurd h9 (by decide)) (fun _ => ?_)
  refine r_aload_n F dX3_access_42 rfl ?_
  refine c_Vl (ci := 4) F G (c_mpop hM.1 hM.2.1 hM.2.2 (h := fBz v Fr Fs + (fh Fr - 1)) (by rw [show M.1 406 = nI (fBz v Fr Fs + fh Fr) from hC.H, show fBz v Fr Fs + fh Fr = fBz v Fr Fs + (fh Fr - 1) + 1 from by omega]) (by omega)) (cwV 0 F.2.2.2.2 (zgV km_X3_128 ki_X3_pop ke_X3_X3_pop kn_X3 ko_X3_pop) rfl rfl rfl ⟨rfl, hd_yX3_pop⟩ ⟨Nat.le_of_ble_eq_true rfl, Nat.le_of_ble_eq_true rfl⟩) rfl (by decide) hM.A rfl rfl (Nat.le_of_ble_eq_true rfl) dX3_access_43 ⟨Nat.le_of_ble_eq_true rfl, Nat.le_of_ble_eq_true rfl⟩ (fun r43 S43 h43 => ?_)
  obtain ⟨h43a, h43b⟩ := h43
  have hM : nZ t0 X S0 ad W (mHt M (fBz v Fr Fs + (fh Fr - 1))) S43 := ⟨hM.1, hM.2.1, h43b⟩
  rw [show M.2.2.2.1 (fBz v Fr Fs + (fh Fr - 1)) = fv Fr (fh Fr - 1) from hC.va (j := fh Fr - 1) (show fh Fr - 1 < fh Fr by omega)] at h43a
  subst h43a
  have hC : cRp v (fDr Fr 1 :: Fs, U) (mHt M (fBz v Fr Fs + (fh Fr - 1))) := hC.dr (m := 1) (show 1 ≤ fh Fr by omega)
  have hKp := hKp.ht (h := fBz v Fr Fs + (fh Fr - 1))
  generalize mHt M (fBz v Fr Fs + (fh Fr - 1)) = M at hM hC hKp
  refine r_goto (tgt := 50) F dX3_access_46 (by decide) ?_
  refine r_lstore F dX3_access_50 (by decide) ?_
  refine r_aload_n F dX3_access_52 rfl ?_
  refine c_Vl (ci := 4) F G (c_mpop hM.1 hM.2.1 hM.2.2 (h := fBz v Fr Fs + (fh Fr - 2)) (by rw [show M.1 406 = nI (fBz v Fr Fs + (fh Fr - 1)) from hC.H, show fBz v Fr Fs + (fh Fr - 1) = fBz v Fr Fs + (fh Fr - 2) + 1 from by omega]) (by omega)) (cwV 0 F.2.2.2.2 (zgV km_X3_128 ki_X3_pop ke_X3_X3_pop kn_X3 ko_X3_pop) rfl rfl rfl ⟨rfl, hd_yX3_pop⟩ ⟨Nat.le_of_ble_eq_true rfl, Nat.le_of_ble_eq_true rfl⟩) rfl (by decide) hM.A rfl rfl (Nat.le_of_ble_eq_true rfl) dX3_access_53 ⟨Nat.le_of_ble_eq_true rfl, Nat.le_of_ble_eq_true rfl⟩ (fun r53 S53 h53 => ?_)
  obtain ⟨h53a, h53b⟩ := h53
  have hM : nZ t0 X S0 ad W (mHt M (fBz v Fr Fs + (fh Fr - 2))) S53 := ⟨hM.1, hM.2.1, h53b⟩
  rw [show M.2.2.2.1 (fBz v Fr Fs + (fh Fr - 2)) = fv Fr (fh Fr - 2) from hC.va (j := fh Fr - 2) (show fh Fr - 2 < (fh Fr - 1) by omega)] at h53a
  subst h53a
  have hC : cRp v (fDr Fr 2 :: Fs, U) (mHt M (fBz v Fr Fs + (fh Fr - 2))) := hC.dr (m := 1) (show 1 ≤ (fh Fr - 1) by omega)
  have hKp := hKp.ht (h := fBz v Fr Fs + (fh Fr - 2))
  generalize mHt M (fBz v Fr Fs + (fh Fr - 2)) = M at hM hC hKp
  refine r_lstore F dX3_access_56 (by decide) ?_
  refine r_lload F dX3_access_58 rfl ?_
  refine r_lconst (v := 0) F dX3_access_60 (by decide) ?_
  refine r_lcmp F dX3_access_61 ?_
  refine r_if_lt (tgt := 80) F dX3_access_62 (by decide) (fun c62 => ?_) (fun c62 => ?_)
  · refine r_aload_n F dX3_access_80 rfl ?_
    refine r_iconst (v := 3) F dX3_access_81 (by decide) ?_
    refine pm_end F G hM dX3_access_82 (fun S hM => ?_)
    refine e_vret F hr hlk ⟨_, hM, ?_⟩ (by decide) (by decide) dX3_access_85
    rw [if_pos (show outP (fv Fr (fh Fr - 2)) a 8 from Or.inl ((lg_cmp_lt _ _).mp c62))]
    exact cP.no (by decide) rfl hC hKp
  · refine r_lload F dX3_access_65 rfl ?_
    refine r_sipush (v := 1024) F dX3_access_67 (by decide) ?_
    refine r_iload F dX3_access_70 rfl ?_
    refine r_isub F dX3_access_72 ?_
    refine r_iload_n F dX3_access_73 rfl ?_
    refine r_isub F dX3_access_74 ?_
    rw [show (1024 : Int32) - 8 - nI a = nI (1024 - 8 - a) from by rw [show (1024 : Int32) = nI 1024 from rfl, show (8 : Int32) = nI 8 from rfl, nI_sub (by omega), nI_sub (by omega)]]
    refine r_i2l F dX3_access_75 ?_
    refine r_lcmp F dX3_access_76 ?_
    refine r_if_le (tgt := 86) F dX3_access_77 (by decide) (fun c77 => ?_) (fun c77 => ?_)
    · have hno : ¬ outP (fv Fr (fh Fr - 2)) a 8 := fun h9 => by
        rcases h9 with h9 | h9
        · exact c62 ((lg_cmp_lt _ _).mpr h9)
        · have c9 := c77
          rw [lg_cmp_le, Int64.le_iff_toInt_le, i2l_n (by omega)] at c9
          omega
      have ho := out_n hno
      refine r_lload F dX3_access_86 rfl ?_
      refine r_l2i F dX3_access_88 ?_
      refine r_iload_n F dX3_access_89 rfl ?_
      refine r_iadd F dX3_access_90 ?_
      rw [l2i_n ho.1, nI_add]
      refine r_istore F dX3_access_91 (by decide) ?_
      refine r_iload_n F dX3_access_93 rfl ?_
      refine r_if_eq (tgt := 113) F dX3_access_94 (by decide) (fun h9 => absurd h9 (by decide)) (fun _ => ?_)
      refine r_aload_n F dX3_access_97 rfl ?_
      refine gm_bytes F G hM dX3_access_98 ?_
      refine r_iload F dX3_access_101 rfl ?_
      refine r_iload F dX3_access_103 rfl ?_
      refine r_lload F dX3_access_105 rfl ?_
      have b58 : oa (mW W M) 58 := hM.w.a hM.b (id := 404) (by decide) rfl
      have n58 : onn (mW W M) 58 = 1024 := hM.w.n hM.b (id := 404) (by decide) rfl (by decide)
      refine c_SNv F G (c_putBytes hM.2.2 (d := 58) (t := ((fv Fr (fh Fr - 2)).toInt.toNat + a)) (q := 8) (w := (fv Fr (fh Fr - 1))) b58 rfl rfl (by rw [n58]; decide) (by rw [n58]; omega)) ⟨va_cnB 4 F.2.2.2.2 (zgI ko_X11_putBytes) rfl rfl rfl (G.2.2.2.1 (RX3, 187, yX11_putBytes, RX11) (List.mem_of_getElem? (i := 6) rfl)) (F.2.2.2.2 _ (zin kn_X11)) hd_yX11_putBytes ⟨Nat.le_of_ble_eq_true rfl, Nat.le_of_ble_eq_true rfl⟩, F.2.2.2.2 _ (zin ks_X11_putBytes), trivial⟩ rfl rfl (Nat.le_of_ble_eq_true rfl) dX3_access_107 ⟨Nat.le_of_ble_eq_true rfl, Nat.le_of_ble_eq_true rfl⟩ (fun S107 h107 => ?_)
      have hM9 : nZ t0 X S0 ad W (M.1, M.2.1, M.2.2.1, M.2.2.2.1, M.2.2.2.2.1, M.2.2.2.2.2.1, M.2.2.2.2.2.2.1, pB (mBy M) ((fv Fr (fh Fr - 2)).toInt.toNat + a) (fv Fr (fh Fr - 1)) 8) S107 := ⟨hM.1, hM.2.1, by rw [mW_p8] at h107; exact h107⟩
      refine r_goto (tgt := 125) F dX3_access_110 (by decide) ?_
      refine e_vret F hr hlk ⟨_, hM9, ?_⟩ (by decide) (by decide) dX3_access_125
      rw [if_neg hno]
      refine cP.go (hC.mem (fun k hk => pB_cg hC.2.2.2.1 8 k hk) rfl rfl rfl rfl rfl) ⟨hKp.1, hKp.2.1, hKp.2.2⟩
    · refine r_aload_n F dX3_access_80 rfl ?_
      refine r_iconst (v := 3) F dX3_access_81 (by decide) ?_
      refine pm_end F G hM dX3_access_82 (fun S hM => ?_)
      refine e_vret F hr hlk ⟨_, hM, ?_⟩ (by decide) (by decide) dX3_access_85
      rw [if_pos (show outP (fv Fr (fh Fr - 2)) a 8 from Or.inr (by have c9 := c77; rw [lg_cmp_le, Int64.le_iff_toInt_le, i2l_n (by omega)] at c9; omega))]
      exact cP.no (by decide) rfl hC hKp
set_option maxRecDepth 100000 in
set_option maxHeartbeats 4000000 in
theorem c_macc21 {l : Launch} {N0 t0 : Nat} {D : va_G} {cy : Nat → ClassId} {S : zS} {X : Nat → Prop} {S0 : zS} {ad : Nat → Nat} {W : zO} {M : mKt} (hM : nZ t0 X S0 ad W M S) {v : zV} {Fr : aF} {Fs : List aF} {U : aU} (hC : cRp v (Fr :: Fs, U) M) (hB : fBz v Fr Fs + fh Fr ≤ 2719) {a : Nat} {A9 : aM} (ha : a ≤ 1000) (h2 : 1 ≤ fh Fr) : zMv l yX3_access (zws yX3_access cX3_access 10 none) { frames := 1, cells := 0, slots := 0, locals := 25 } N0 t0 D cy S [.ref (ad 14), .int (nI 21), .int (nI a)] (fun S' => ∃ M', nZ t0 X S0 ad W M' S' ∧ cP v U M M' (if outP (fv Fr (fh Fr - 1)) a 1 then (3, A9) else (0, fPu (fDr Fr 1) (ldR U.1 ((fv Fr (fh Fr - 1)).toInt.toNat + a) 1 1) :: Fs, U))) 0 0 := by
  refine zMv.of (cc := cX3_access) (maxL := 10) (ret := none) (by decide) rfl (Nat.le_of_ble_eq_true rfl) ?_
  intro p e s m args below meth c F G hr hlk hnm
  obtain ⟨M0, eM0⟩ : ∃ M0, M0 = M := ⟨_, rfl⟩
  have hKp : mKp M0 M := by rw [eM0]; exact mKp.rf
  rw [← eM0]
  clear eM0
  refine r_iload_n F dX3_access_0 rfl ?_
  refine r_bipush (v := 20) F dX3_access_1 (by decide) ?_
  refine r_icmp_eq (tgt := 12) F dX3_access_3 (by decide) (fun h9 => absurd h9 (by decide)) (fun _ => ?_)
  refine r_iload_n F dX3_access_6 rfl ?_
  refine r_bipush (v := 22) F dX3_access_7 (by decide) ?_
  refine r_icmp_ne (tgt := 16) F dX3_access_9 (by decide) (fun _ => ?_) (fun h9 => absurd h9 (by decide))
  refine r_iconst (v := 0) F dX3_access_16 (by decide) ?_
  refine r_istore_n F dX3_access_17 (by decide) ?_
  refine r_iload_n F dX3_access_18 rfl ?_
  refine r_bipush (v := 19) F dX3_access_19 (by decide) ?_
  refine r_icmp_eq (tgt := 30) F dX3_access_21 (by decide) (fun h9 => absurd h9 (by decide)) (fun _ => ?_)
  refine r_iload_n F dX3_access_24 rfl ?_
  refine r_bipush (v := 20) F dX3_access_25 (by decide) ?_
  refine r_icmp_ne (tgt := 35) F dX3_access_27 (by decide) (fun _ => ?_) (fun h9 => absurd h9 (by decide))
  refine r_iconst (v := 1) F dX3_access_35 (by decide) ?_
  refine r_istore F dX3_access_36 (by decide) ?_
  refine r_iload_n F dX3_access_38 rfl ?_
  refine r_if_eq (tgt := 49) F dX3_access_39 (by decide) (fun _ => ?_) (fun h9 => absurd rfl h9)
  refine r_lconst (v := 0) F dX3_access_49 (by decide) ?_
  refine r_lstore F dX3_access_50 (by decide) ?_
  refine r_aload_n F dX3_access_52 rfl ?_
  refine c_Vl (ci := 4) F G (c_mpop hM.1 hM.2.1 hM.2.2 (h := fBz v Fr Fs + (fh Fr - 1)) (by rw [show M.1 406 = nI (fBz v Fr Fs + fh Fr) from hC.H, show fBz v Fr Fs + fh Fr = fBz v Fr Fs + (fh Fr - 1) + 1 from by omega]) (by omega)) (cwV 0 F.2.2.2.2 (zgV km_X3_128 ki_X3_pop ke_X3_X3_pop kn_X3 ko_X3_pop) rfl rfl rfl ⟨rfl, hd_yX3_pop⟩ ⟨Nat.le_of_ble_eq_true rfl, Nat.le_of_ble_eq_true rfl⟩) rfl (by decide) hM.A rfl rfl (Nat.le_of_ble_eq_true rfl) dX3_access_53 ⟨Nat.le_of_ble_eq_true rfl, Nat.le_of_ble_eq_true rfl⟩ (fun r53 S53 h53 => ?_)
  obtain ⟨h53a, h53b⟩ := h53
  have hM : nZ t0 X S0 ad W (mHt M (fBz v Fr Fs + (fh Fr - 1))) S53 := ⟨hM.1, hM.2.1, h53b⟩
  rw [show M.2.2.2.1 (fBz v Fr Fs + (fh Fr - 1)) = fv Fr (fh Fr - 1) from hC.va (j := fh Fr - 1) (show fh Fr - 1 < fh Fr by omega)] at h53a
  subst h53a
  have hC : cRp v (fDr Fr 1 :: Fs, U) (mHt M (fBz v Fr Fs + (fh Fr - 1))) := hC.dr (m := 1) (show 1 ≤ fh Fr by omega)
  have hKp := hKp.ht (h := fBz v Fr Fs + (fh Fr - 1))
  generalize mHt M (fBz v Fr Fs + (fh Fr - 1)) = M at hM hC hKp
  refine r_lstore F dX3_access_56 (by decide) ?_
  refine r_lload F dX3_access_58 rfl ?_
  refine r_lconst (v := 0) F dX3_access_60 (by decide) ?_
  refine r_lcmp F dX3_access_61 ?_
  refine r_if_lt (tgt := 80) F dX3_access_62 (by decide) (fun c62 => ?_) (fun c62 => ?_)
  · refine r_aload_n F dX3_access_80 rfl ?_
    refine r_iconst (v := 3) F dX3_access_81 (by decide) ?_
    refine pm_end F G hM dX3_access_82 (fun S hM => ?_)
    refine e_vret F hr hlk ⟨_, hM, ?_⟩ (by decide) (by decide) dX3_access_85
    rw [if_pos (show outP (fv Fr (fh Fr - 1)) a 1 from Or.inl ((lg_cmp_lt _ _).mp c62))]
    exact cP.no (by decide) rfl hC hKp
  · refine r_lload F dX3_access_65 rfl ?_
    refine r_sipush (v := 1024) F dX3_access_67 (by decide) ?_
    refine r_iload F dX3_access_70 rfl ?_
    refine r_isub F dX3_access_72 ?_
    refine r_iload_n F dX3_access_73 rfl ?_
    refine r_isub F dX3_access_74 ?_
    rw [show (1024 : Int32) - 1 - nI a = nI (1024 - 1 - a) from by rw [show (1024 : Int32) = nI 1024 from rfl, show (1 : Int32) = nI 1 from rfl, nI_sub (by omega), nI_sub (by omega)]]
    refine r_i2l F dX3_access_75 ?_
    refine r_lcmp F dX3_access_76 ?_
    refine r_if_le (tgt := 86) F dX3_access_77 (by decide) (fun c77 => ?_) (fun c77 => ?_)
    · have hno : ¬ outP (fv Fr (fh Fr - 1)) a 1 := fun h9 => by
        rcases h9 with h9 | h9
        · exact c62 ((lg_cmp_lt _ _).mpr h9)
        · have c9 := c77
          rw [lg_cmp_le, Int64.le_iff_toInt_le, i2l_n (by omega)] at c9
          omega
      have ho := out_n hno
      refine r_lload F dX3_access_86 rfl ?_
      refine r_l2i F dX3_access_88 ?_
      refine r_iload_n F dX3_access_89 rfl ?_
      refine r_iadd F dX3_access_90 ?_
      rw [l2i_n ho.1, nI_add]
      refine r_istore F dX3_access_91 (by decide) ?_
      refine r_iload_n F dX3_access_93 rfl ?_
      refine r_if_eq (tgt := 113) F dX3_access_94 (by decide) (fun _ => ?_) (fun h9 => absurd rfl h9)
      refine r_aload_n F dX3_access_113 rfl ?_
      refine r_aload_n F dX3_access_114 rfl ?_
      refine r_iload F dX3_access_115 rfl ?_
      refine r_iload F dX3_access_117 rfl ?_
      refine c_Vl (ci := 4) F G (c_mloaded hM (a := ((fv Fr (fh Fr - 1)).toInt.toNat + a)) (n := 1) (by omega) (by omega)) (cwV 2 F.2.2.2.2 (zgV km_X3_191 ki_X3_loaded ke_X3_X3_loaded kn_X3 ko_X3_loaded) rfl rfl rfl ⟨rfl, hd_yX3_loaded⟩ ⟨Nat.le_of_ble_eq_true rfl, Nat.le_of_ble_eq_true rfl⟩) rfl (by decide) hM.A rfl rfl (Nat.le_of_ble_eq_true rfl) dX3_access_119 ⟨Nat.le_of_ble_eq_true rfl, Nat.le_of_ble_eq_true rfl⟩ (fun r119 S119 h119 => ?_)
      obtain ⟨h119a, h119b⟩ := h119
      have h119c := h119b.symm
      subst h119c
      rw [ld_eq1, ldR_cg hC.2.2.2.1 (by omega) 1 (Nat.le_refl _)] at h119a
      subst h119a
      refine c_Vv (ci := 4) F G (c_mpush hM.1 hM.2.1 hM.2.2 (h := fBz v Fr Fs + (fh Fr - 1)) (x := (ldR U.1 ((fv Fr (fh Fr - 1)).toInt.toNat + a) 1 1)) hC.H (by omega)) (cwV 1 F.2.2.2.2 (zgV km_X3_93 ki_X3_push ke_X3_X3_push kn_X3 ko_X3_push) rfl rfl rfl ⟨rfl, hd_yX3_push⟩ ⟨Nat.le_of_ble_eq_true rfl, Nat.le_of_ble_eq_true rfl⟩) rfl (by decide) hM.A rfl rfl (Nat.le_of_ble_eq_true rfl) dX3_access_122 ⟨Nat.le_of_ble_eq_true rfl, Nat.le_of_ble_eq_true rfl⟩ (fun S122 h122 => ?_)
      have hM : nZ t0 X S0 ad W (mPu M (fBz v Fr Fs + (fh Fr - 1)) (ldR U.1 ((fv Fr (fh Fr - 1)).toInt.toNat + a) 1 1)) S122 := ⟨hM.1, hM.2.1, h122⟩
      have hC : cRp v (fPu (fDr Fr 1) (ldR U.1 ((fv Fr (fh Fr - 1)).toInt.toNat + a) 1 1) :: Fs, U) (mPu M (fBz v Fr Fs + (fh Fr - 1)) (ldR U.1 ((fv Fr (fh Fr - 1)).toInt.toNat + a) 1 1)) := hC.pu
      have hKp := hKp.pu (h := fBz v Fr Fs + (fh Fr - 1)) (x := (ldR U.1 ((fv Fr (fh Fr - 1)).toInt.toNat + a) 1 1))
      generalize mPu M (fBz v Fr Fs + (fh Fr - 1)) (ldR U.1 ((fv Fr (fh Fr - 1)).toInt.toNat + a) 1 1) = M at hM hC hKp
      refine e_vret F hr hlk ⟨_, hM, ?_⟩ (by decide) (by decide) dX3_access_125
      rw [if_neg hno]
      exact cP.go hC hKp
    · refine r_aload_n F dX3_access_80 rfl ?_
      refine r_iconst (v := 3) F dX3_access_81 (by decide) ?_
      refine pm_end F G hM dX3_access_82 (fun S hM => ?_)
      refine e_vret F hr hlk ⟨_, hM, ?_⟩ (by decide) (by decide) dX3_access_85
      rw [if_pos (show outP (fv Fr (fh Fr - 1)) a 1 from Or.inr (by have c9 := c77; rw [lg_cmp_le, Int64.le_iff_toInt_le, i2l_n (by omega)] at c9; omega))]
      exact cP.no (by decide) rfl hC hKp
set_option maxRecDepth 100000 in
set_option maxHeartbeats 4000000 in
theorem c_macc22 {l : Launch} {N0 t0 : Nat} {D : va_G} {cy : Nat → ClassId} {S : zS} {X : Nat → Prop} {S0 : zS} {ad : Nat → Nat} {W : zO} {M : mKt} (hM : nZ t0 X S0 ad W M S) {v : zV} {Fr : aF} {Fs : List aF} {U : aU} (hC : cRp v (Fr :: Fs, U) M) (hB : fBz v Fr Fs + fh Fr ≤ 2719) {a : Nat} {A9 : aM} (ha : a ≤ 1000) (h2 : 2 ≤ fh Fr) : zMv l yX3_access (zws yX3_access cX3_access 10 none) { frames := 1, cells := 0, slots := 0, locals := 25 } N0 t0 D cy S [.ref (ad 14), .int (nI 22), .int (nI a)] (fun S' => ∃ M', nZ t0 X S0 ad W M' S' ∧ cP v U M M' (if outP (fv Fr (fh Fr - 2)) a 1 then (3, A9) else (0, fDr Fr 2 :: Fs, pB U.1 ((fv Fr (fh Fr - 2)).toInt.toNat + a) (fv Fr (fh Fr - 1)) 1, U.2))) 0 0 := by
  refine zMv.of (cc := cX3_access) (maxL := 10) (ret := none) (by decide) rfl (Nat.le_of_ble_eq_true rfl) ?_
  intro p e s m args below meth c F G hr hlk hnm
  obtain ⟨M0, eM0⟩ : ∃ M0, M0 = M := ⟨_, rfl⟩
  have hKp : mKp M0 M := by rw [eM0]; exact mKp.rf
  rw [← eM0]
  clear eM0
  refine r_iload_n F dX3_access_0 rfl ?_
  refine r_bipush (v := 20) F dX3_access_1 (by decide) ?_
  refine r_icmp_eq (tgt := 12) F dX3_access_3 (by decide) (fun h9 => absurd h9 (by decide)) (fun _ => ?_)
  refine r_iload_n F dX3_access_6 rfl ?_
  refine r_bipush (v := 22) F dX3_access_7 (by decide) ?_
  refine r_icmp_ne (tgt := 16) F dX3_access_9 (by decide) (fun h9 => absurd rfl h9) (fun _ => ?_)
  refine r_iconst (v := 1) F dX3_access_12 (by decide) ?_
  refine r_goto (tgt := 17) F dX3_access_13 (by decide) ?_
  refine r_istore_n F dX3_access_17 (by decide) ?_
  refine r_iload_n F dX3_access_18 rfl ?_
  refine r_bipush (v := 19) F dX3_access_19 (by decide) ?_
  refine r_icmp_eq (tgt := 30) F dX3_access_21 (by decide) (fun h9 => absurd h9 (by decide)) (fun _ => ?_)
  refine r_iload_n F dX3_access_24 rfl ?_
  refine r_bipush (v := 20) F dX3_access_25 (by decide) ?_
  refine r_icmp_ne (tgt := 35) F dX3_access_27 (by decide) (fun _ => ?_) (fun h9 => absurd h9 (by decide))
  refine r_iconst (v := 1) F dX3_access_35 (by decide) ?_
  refine r_istore F dX3_access_36 (by decide) ?_
  refine r_iload_n F dX3_access_38 rfl ?_
  refine r_if_eq (tgt := 49) F dX3_access_39 (by decide) (fun h9 => absurd h9 (by decide)) (fun _ => ?_)
  refine r_aload_n F dX3_access_42 rfl ?_
  refine c_Vl (ci := 4) F G (c_mpop hM.1 hM.2.1 hM.2.2 (h := fBz v Fr Fs + (fh Fr - 1)) (by rw [show M.1 406 = nI (fBz v Fr Fs + fh Fr) from hC.H, show fBz v Fr Fs + fh Fr = fBz v Fr Fs + (fh Fr - 1) + 1 from by omega]) (by omega)) (cwV 0 F.2.2.2.2 (zgV km_X3_128 ki_X3_pop ke_X3_X3_pop kn_X3 ko_X3_pop) rfl rfl rfl ⟨rfl, hd_yX3_pop⟩ ⟨Nat.le_of_ble_eq_true rfl, Nat.le_of_ble_eq_true rfl⟩) rfl (by decide) hM.A rfl rfl (Nat.le_of_ble_eq_true rfl) dX3_access_43 ⟨Nat.le_of_ble_eq_true rfl, Nat.le_of_ble_eq_true rfl⟩ (fun r43 S43 h43 => ?_)
  obtain ⟨h43a, h43b⟩ := h43
  have hM : nZ t0 X S0 ad W (mHt M (fBz v Fr Fs + (fh Fr - 1))) S43 := ⟨hM.1, hM.2.1, h43b⟩
  rw [show M.2.2.2.1 (fBz v Fr Fs + (fh Fr - 1)) = fv Fr (fh Fr - 1) from hC.va (j := fh Fr - 1) (show fh Fr - 1 < fh Fr by omega)] at h43a
  subst h43a
  have hC : cRp v (fDr Fr 1 :: Fs, U) (mHt M (fBz v Fr Fs + (fh Fr - 1))) := hC.dr (m := 1) (show 1 ≤ fh Fr by omega)
  have hKp := hKp.ht (h := fBz v Fr Fs + (fh Fr - 1))
  generalize mHt M (fBz v Fr Fs + (fh Fr - 1)) = M at hM hC hKp
  refine r_goto (tgt := 50) F dX3_access_46 (by decide) ?_
  refine r_lstore F dX3_access_50 (by decide) ?_
  refine r_aload_n F dX3_access_52 rfl ?_
  refine c_Vl (ci := 4) F G (c_mpop hM.1 hM.2.1 hM.2.2 (h := fBz v Fr Fs + (fh Fr - 2)) (by rw [show M.1 406 = nI (fBz v Fr Fs + (fh Fr - 1)) from hC.H, show fBz v Fr Fs + (fh Fr - 1) = fBz v Fr Fs + (fh Fr - 2) + 1 from by omega]) (by omega)) (cwV 0 F.2.2.2.2 (zgV km_X3_128 ki_X3_pop ke_X3_X3_pop kn_X3 ko_X3_pop) rfl rfl rfl ⟨rfl, hd_yX3_pop⟩ ⟨Nat.le_of_ble_eq_true rfl, Nat.le_of_ble_eq_true rfl⟩) rfl (by decide) hM.A rfl rfl (Nat.le_of_ble_eq_true rfl) dX3_access_53 ⟨Nat.le_of_ble_eq_true rfl, Nat.le_of_ble_eq_true rfl⟩ (fun r53 S53 h53 => ?_)
  obtain ⟨h53a, h53b⟩ := h53
  have hM : nZ t0 X S0 ad W (mHt M (fBz v Fr Fs + (fh Fr - 2))) S53 := ⟨hM.1, hM.2.1, h53b⟩
  rw [show M.2.2.2.1 (fBz v Fr Fs + (fh Fr - 2)) = fv Fr (fh Fr - 2) from hC.va (j := fh Fr - 2) (show fh Fr - 2 < (fh Fr - 1) by omega)] at h53a
  subst h53a
  have hC : cRp v (fDr Fr 2 :: Fs, U) (mHt M (fBz v Fr Fs + (fh Fr - 2))) := hC.dr (m := 1) (show 1 ≤ (fh Fr - 1) by omega)
  have hKp := hKp.ht (h := fBz v Fr Fs + (fh Fr - 2))
  generalize mHt M (fBz v Fr Fs + (fh Fr - 2)) = M at hM hC hKp
  refine r_lstore F dX3_access_56 (by decide) ?_
  refine r_lload F dX3_access_58 rfl ?_
  refine r_lconst (v := 0) F dX3_access_60 (by decide) ?_
  refine r_lcmp F dX3_access_61 ?_
  refine r_if_lt (tgt := 80) F dX3_access_62 (by decide) (fun c62 => ?_) (fun c62 => ?_)
  · refine r_aload_n F dX3_access_80 rfl ?_
    refine r_iconst (v := 3) F dX3_access_81 (by decide) ?_
    refine pm_end F G hM dX3_access_82 (fun S hM => ?_)
    refine e_vret F hr hlk ⟨_, hM, ?_⟩ (by decide) (by decide) dX3_access_85
    rw [if_pos (show outP (fv Fr (fh Fr - 2)) a 1 from Or.inl ((lg_cmp_lt _ _).mp c62))]
    exact cP.no (by decide) rfl hC hKp
  · refine r_lload F dX3_access_65 rfl ?_
    refine r_sipush (v := 1024) F dX3_access_67 (by decide) ?_
    refine r_iload F dX3_access_70 rfl ?_
    refine r_isub F dX3_access_72 ?_
    refine r_iload_n F dX3_access_73 rfl ?_
    refine r_isub F dX3_access_74 ?_
    rw [show (1024 : Int32) - 1 - nI a = nI (1024 - 1 - a) from by rw [show (1024 : Int32) = nI 1024 from rfl, show (1 : Int32) = nI 1 from rfl, nI_sub (by omega), nI_sub (by omega)]]
    refine r_i2l F dX3_access_75 ?_
    refine r_lcmp F dX3_access_76 ?_
    refine r_if_le (tgt := 86) F dX3_access_77 (by decide) (fun c77 => ?_) (fun c77 => ?_)
    · have hno : ¬ outP (fv Fr (fh Fr - 2)) a 1 := fun h9 => by
        rcases h9 with h9 | h9
        · exact c62 ((lg_cmp_lt _ _).mpr h9)
        · have c9 := c77
          rw [lg_cmp_le, Int64.le_iff_toInt_le, i2l_n (by omega)] at c9
          omega
      have ho := out_n hno
      refine r_lload F dX3_access_86 rfl ?_
      refine r_l2i F dX3_access_88 ?_
      refine r_iload_n F dX3_access_89 rfl ?_
      refine r_iadd F dX3_access_90 ?_
      rw [l2i_n ho.1, nI_add]
      refine r_istore F dX3_access_91 (by decide) ?_
      refine r_iload_n F dX3_access_93 rfl ?_
      refine r_if_eq (tgt := 113) F dX3_access_94 (by decide) (fun h9 => absurd h9 (by decide)) (fun _ => ?_)
      refine r_aload_n F dX3_access_97 rfl ?_
      refine gm_bytes F G hM dX3_access_98 ?_
      refine r_iload F dX3_access_101 rfl ?_
      refine r_iload F dX3_access_103 rfl ?_
      refine r_lload F dX3_access_105 rfl ?_
      have b58 : oa (mW W M) 58 := hM.w.a hM.b (id := 404) (by decide) rfl
      have n58 : onn (mW W M) 58 = 1024 := hM.w.n hM.b (id := 404) (by decide) rfl (by decide)
      refine c_SNv F G (c_putBytes hM.2.2 (d := 58) (t := ((fv Fr (fh Fr - 2)).toInt.toNat + a)) (q := 1) (w := (fv Fr (fh Fr - 1))) b58 rfl rfl (by rw [n58]; decide) (by rw [n58]; omega)) ⟨va_cnB 4 F.2.2.2.2 (zgI ko_X11_putBytes) rfl rfl rfl (G.2.2.2.1 (RX3, 187, yX11_putBytes, RX11) (List.mem_of_getElem? (i := 6) rfl)) (F.2.2.2.2 _ (zin kn_X11)) hd_yX11_putBytes ⟨Nat.le_of_ble_eq_true rfl, Nat.le_of_ble_eq_true rfl⟩, F.2.2.2.2 _ (zin ks_X11_putBytes), trivial⟩ rfl rfl (Nat.le_of_ble_eq_true rfl) dX3_access_107 ⟨Nat.le_of_ble_eq_true rfl, Nat.le_of_ble_eq_true rfl⟩ (fun S107 h107 => ?_)
      have hM9 : nZ t0 X S0 ad W (M.1, M.2.1, M.2.2.1, M.2.2.2.1, M.2.2.2.2.1, M.2.2.2.2.2.1, M.2.2.2.2.2.2.1, pB (mBy M) ((fv Fr (fh Fr - 2)).toInt.toNat + a) (fv Fr (fh Fr - 1)) 1) S107 := ⟨hM.1, hM.2.1, by rw [mW_p8] at h107; exact h107⟩
      refine r_goto (tgt := 125) F dX3_access_110 (by decide) ?_
      refine e_vret F hr hlk ⟨_, hM9, ?_⟩ (by decide) (by decide) dX3_access_125
      rw [if_neg hno]
      refine cP.go (hC.mem (fun k hk => pB_cg hC.2.2.2.1 1 k hk) rfl rfl rfl rfl rfl) ⟨hKp.1, hKp.2.1, hKp.2.2⟩
    · refine r_aload_n F dX3_access_80 rfl ?_
      refine r_iconst (v := 3) F dX3_access_81 (by decide) ?_
      refine pm_end F G hM dX3_access_82 (fun S hM => ?_)
      refine e_vret F hr hlk ⟨_, hM, ?_⟩ (by decide) (by decide) dX3_access_85
      rw [if_pos (show outP (fv Fr (fh Fr - 2)) a 1 from Or.inr (by have c9 := c77; rw [lg_cmp_le, Int64.le_iff_toInt_le, i2l_n (by omega)] at c9; omega))]
      exact cP.no (by decide) rfl hC hKp
set_option maxRecDepth 100000 in
set_option maxHeartbeats 4000000 in
theorem c_menter {l : Launch} {N0 t0 : Nat} {D : va_G} {cy : Nat → ClassId} {S : zS} {X : Nat → Prop} {S0 : zS} {ad : Nat → Nat} {W : zO} {M : mKt} (hM : nZ t0 X S0 ad W M S) {n h f2 p9 l9 dp : Nat} (hdep : M.1 407 = nI n) (hn : n ≤ 40) (hh : M.1 406 = nI h) (hph : p9 ≤ h) (hh9 : h ≤ 2720) (hhl9 : n < 40 → h + l9 ≤ 2720) (hf48 : f2 < 48) (hRd : oa W (200 + 12 * f2)) (hP : oi W (200 + 12 * f2) 702 = nI p9) (hL9 : oi W (200 + 12 * f2) 704 = nI l9) (hdp : M.1 411 = nI dp) (hdp4 : dp ≤ 40) : zMv l yX3_enter (zws yX3_enter cX3_enter 3 none) { frames := 1, cells := 0, slots := 0, locals := 22 } N0 t0 D cy S [.ref (ad 14), .ref (ad (200 + 12 * f2))] (fun S' => (n = 40 ∧ nZ t0 X S0 ad W (va_up M.1 408 6, M.2) S') ∨ (n < 40 ∧ ∃ M', nZ t0 X S0 ad W M' S' ∧ enC M M' n f2 h p9 l9 dp)) 0 0 := by
  refine zMv.of (cc := cX3_enter) (maxL := 3) (ret := none) (by decide) rfl (Nat.le_of_ble_eq_true rfl) ?_
  intro p e s m args below meth c F G hr hlk hnm
  refine r_aload_n F dX3_enter_0 rfl ?_
  refine gm_depthS F G hM hdep dX3_enter_1 ?_
  refine r_bipush (v := 40) F dX3_enter_4 (by decide) ?_
  rw [nl40]
  refine r_icmp_lt (tgt := 16) F dX3_enter_6 (by decide) (fun c6 => ?_) (fun c6 => ?_)
  · have hn40 : n < 40 := by have c9 := c6; rw [nI_ltI (by omega) (by omega)] at c9; exact c9
    have hhl := hhl9 hn40
    refine r_aload_n F dX3_enter_16 rfl ?_
    refine gm_routines F G hM dX3_enter_17 ?_
    refine r_aload_n F dX3_enter_20 rfl ?_
    refine gm_depthS F G hM hdep dX3_enter_21 ?_
    refine r_aload_n F dX3_enter_24 rfl ?_
    refine sm_routines F G hM hn40 hRd (kd_r f2 hf48).1 (by omega) dX3_enter_25 (fun S hM => ?_)
    refine r_aload_n F dX3_enter_26 rfl ?_
    refine gm_nexts F G hM dX3_enter_27 ?_
    refine r_aload_n F dX3_enter_30 rfl ?_
    refine gm_depthS F G hM hdep dX3_enter_31 ?_
    refine r_iconst (v := 0) F dX3_enter_34 (by decide) ?_
    refine sm_nexts F G hM hn40 dX3_enter_35 (fun S hM => ?_)
    refine r_aload_n F dX3_enter_36 rfl ?_
    refine gm_floors F G hM dX3_enter_37 ?_
    refine r_aload_n F dX3_enter_40 rfl ?_
    refine gm_depthS F G hM hdep dX3_enter_41 ?_
    refine r_aload_n F dX3_enter_44 rfl ?_
    refine gm_heightS F G hM hh dX3_enter_45 ?_
    refine r_aload_n F dX3_enter_48 rfl ?_
    refine gr_parameters F G hM hf48 hRd dX3_enter_49 ?_
    rw [hP]
    refine r_isub F dX3_enter_52 ?_
    rw [nI_sub hph]
    refine sm_floors F G hM hn40 dX3_enter_53 (fun S hM => ?_)
    refine r_aload_n F dX3_enter_54 rfl ?_
    refine r_dup F dX3_enter_55 rfl ?_
    refine gm_depthS F G hM hdep dX3_enter_56 ?_
    refine r_iconst (v := 1) F dX3_enter_59 (by decide) ?_
    refine r_iadd F dX3_enter_60 ?_
    rw [show nI n + 1 = nI (n + 1) from nI_add n 1]
    refine pm_depth F G hM dX3_enter_61 (fun S hM => ?_)
    refine r_aload_n F dX3_enter_64 rfl ?_
    refine r_aload_n F dX3_enter_65 rfl ?_
    refine gm_deepestS F G hM ((show va_up M.1 407 (nI (n + 1)) 411 = M.1 411 from va_up_ne _ _ (by decide)).trans hdp) dX3_enter_66 ?_
    refine r_aload_n F dX3_enter_69 rfl ?_
    refine gm_depthS F G hM (show va_up M.1 407 (nI (n + 1)) 407 = _ from va_up_self _ _ _) dX3_enter_70 ?_
    refine r_mmax F (zin km_X3_107) (zin ks_J9_max_7cf53) (zin kn_J9) (zin ko_J9_max_7cf53) (by decide) (Nat.le_of_ble_eq_true rfl) (by decide) (by decide) dX3_enter_73 ?_
    rw [show (if nI dp < nI (n + 1) then nI (n + 1) else nI dp) = nI (max dp (n + 1)) from by
        by_cases e : dp < n + 1
        · rw [if_pos ((nI_ltI (by omega) (by omega)).mpr e), Nat.max_eq_right (by omega)]
        · rw [if_neg (fun h9 => e ((nI_ltI (by omega) (by omega)).mp h9)), Nat.max_eq_left (by omega)]]
    refine pm_deepest F G hM dX3_enter_76 (fun S hM => ?_)
    have hE0 : enC M (va_up (va_up M.1 407 (nI (n + 1))) 411 (nI (max dp (n + 1))), M.2.1, M.2.2.1, M.2.2.2.1, va_up M.2.2.2.2.1 n (some (200 + 12 * f2)), upd M.2.2.2.2.2.1 n 0, upd M.2.2.2.2.2.2.1 n (nI (h - p9)), M.2.2.2.2.2.2.2) n f2 h p9 0 dp := ⟨(show va_up (va_up M.1 407 (nI (n + 1))) 411 (nI (max dp (n + 1))) 406 = nI (h + 0) from by rw [va_up_ne _ _ (by decide), va_up_ne _ _ (by decide)]; exact hh), (show va_up (va_up M.1 407 (nI (n + 1))) 411 (nI (max dp (n + 1))) 407 = _ from by rw [va_up_ne _ _ (by decide), va_up_self]), (show va_up (va_up M.1 407 (nI (n + 1))) 411 (nI (max dp (n + 1))) 411 = _ from va_up_self _ _ _), fun id i1 i2 i3 => (show va_up (va_up M.1 407 (nI (n + 1))) 411 (nI (max dp (n + 1))) id = _ from by rw [va_up_ne _ _ i3, va_up_ne _ _ i2]), rfl, rfl, (show va_up M.2.2.2.2.1 n (some (200 + 12 * f2)) n = _ from va_up_self _ _ _), upd_s, upd_s, fun k hk => ⟨va_up_ne _ _ hk, upd_n hk, upd_n hk⟩, fun k hk => absurd hk (Nat.not_lt_zero k), fun _ _ => rfl, rfl⟩
    refine r_iconst (v := 0) F dX3_enter_79 (by decide) ?_
    refine r_istore_n F dX3_enter_80 (by decide) ?_
    refine zsub (lv' := [(2, .int (nI 0)), (0, .ref (ad 14)), (1, .ref (ad (200 + 12 * f2)))]) (by simp [zs1, zs2, lv_args, Value.category, show ((1 : Fin 4) : Nat) = 1 from rfl, show ((2 : Fin 4) : Nat) = 2 from rfl, show ((3 : Fin 4) : Nat) = 3 from rfl, show nI 0 = (0 : Int32) from rfl]) ?_
    refine z_loop (fun n9 S9 lv => ∃ (j : Nat) (M1 : mKt), j + n9 = l9 ∧ nZ t0 X S0 ad W M1 S9 ∧ enC M M1 n f2 h p9 j dp ∧ lv = [(2, .int (nI j)), (0, .ref (ad 14)), (1, .ref (ad (200 + 12 * f2)))]) l9 ?_ ⟨0, _, Nat.zero_add _, hM, hE0, rfl⟩
    clear hM hE0
    rintro n9 S lv ⟨j, M1, hjn, hM, hE, rfl⟩ ih
    refine r_iload_n F dX3_enter_81 rfl ?_
    refine r_aload_n F dX3_enter_82 rfl ?_
    refine gr_locals F G hM hf48 hRd dX3_enter_83 ?_
    rw [hL9]
    refine r_icmp_ge (tgt := 100) F dX3_enter_86 (by decide) (fun c86 => ?_) (fun c86 => ?_)
    · have hj : j = l9 := by have c9 := c86; rw [nI_leI (by omega) (by omega)] at c9; omega
      subst hj
      exact e_vret F hr hlk (Or.inr ⟨hn40, M1, hM, hE⟩) (by decide) (by decide) dX3_enter_100
    · have hj : j < l9 := by have c9 := c86; rw [nI_leI (by omega) (by omega)] at c9; omega
      refine r_aload_n F dX3_enter_89 rfl ?_
      refine r_lconst (v := 0) F dX3_enter_90 (by decide) ?_
      refine c_Vv (ci := 4) F G (c_mpush hM.1 hM.2.1 hM.2.2 (h := h + j) hE.1 (by omega)) (cwV 1 F.2.2.2.2 (zgV km_X3_93 ki_X3_push ke_X3_X3_push kn_X3 ko_X3_push) rfl rfl rfl ⟨rfl, hd_yX3_push⟩ ⟨Nat.le_of_ble_eq_true rfl, Nat.le_of_ble_eq_true rfl⟩) rfl (by decide) hM.A rfl rfl (Nat.le_of_ble_eq_true rfl) dX3_enter_91 ⟨Nat.le_of_ble_eq_true rfl, Nat.le_of_ble_eq_true rfl⟩ (fun S91 h91 => ?_)
      have hM : nZ t0 X S0 ad W (mPu M1 (h + j) 0) S91 := ⟨hM.1, hM.2.1, h91⟩
      refine r_iinc F dX3_enter_94 rfl (by decide) ?_
      refine r_goto (tgt := 81) F dX3_enter_97 (by decide) ?_
      refine zsub (lv' := [(2, .int (nI (j + 1))), (0, .ref (ad 14)), (1, .ref (ad (200 + 12 * f2)))]) (by rw [show nI (j + 1) = nI j + Int32.ofInt 1 from (nI_add j 1).symm]; simp [zs1, zs2, lv_args, Value.category, show ((1 : Fin 4) : Nat) = 1 from rfl, show ((2 : Fin 4) : Nat) = 2 from rfl, show ((3 : Fin 4) : Nat) = 3 from rfl, show nI 0 = (0 : Int32) from rfl]) ?_
      refine ih (n9 - 1) _ _ (by omega) ⟨j + 1, _, by omega, hM, ?_, rfl⟩
      obtain ⟨e1, e2, e3, e4, e5, e6, e7, e8, e9, e10, e11, e12, e13⟩ := hE
      refine ⟨(show va_up M1.1 406 (nI (h + j + 1)) 406 = _ from va_up_self _ _ _), (show va_up M1.1 406 (nI (h + j + 1)) 407 = M1.1 407 from va_up_ne _ _ (by decide)).trans e2, (show va_up M1.1 406 (nI (h + j + 1)) 411 = M1.1 411 from va_up_ne _ _ (by decide)).trans e3, fun id i1 i2 i3 => (show va_up M1.1 406 (nI (h + j + 1)) id = M1.1 id from va_up_ne _ _ i1).trans (e4 id i1 i2 i3), e5, e6, e7, e8, e9, e10, fun k hk => ?_, fun k hk => (up_L (by omega)).trans (e12 k hk), e13⟩
      by_cases e : k = j
      · rw [e]
        exact up_Ls
      · exact (up_L (by omega)).trans (e11 k (by omega))
  · have hn40 : n = 40 := by have c9 := c6; rw [nI_ltI (by omega) (by omega)] at c9; omega
    refine r_aload_n F dX3_enter_9 rfl ?_
    refine r_bipush (v := 6) F dX3_enter_10 (by decide) ?_
    refine pm_end F G hM dX3_enter_12 (fun S hM => ?_)
    exact e_vret F hr hlk (Or.inl ⟨hn40, hM⟩) (by decide) (by decide) dX3_enter_15
set_option maxRecDepth 100000 in
set_option maxHeartbeats 4000000 in
theorem c_mleave {l : Launch} {N0 t0 : Nat} {D : va_G} {cy : Nat → ClassId} {S : zS} {X : Nat → Prop} {S0 : zS} {ad : Nat → Nat} {W : zO} {M : mKt} (hM : nZ t0 X S0 ad W M S) {v : zV} {Fr : aF} {Fs : List aF} {U : aU} (hC : cRp v (Fr :: Fs, U) M) (hB : fBz v Fr Fs + fh Fr ≤ 2720) (hv : vRg v) (hf : tF v (ff Fr)) (hRr : rpR v W (ff Fr)) (hlen : Fs.length + 1 ≤ 40) (hcr : cn v 1206 (ff Fr) ≤ fh Fr) : zMv l yX3_leave (zws yX3_leave cX3_leave 2 none) { frames := 2, cells := 0, slots := 0, locals := 46 } N0 t0 D cy S [.ref (ad 14)] (fun S' => ∃ M', nZ t0 X S0 ad W M' S' ∧ cRp v (aLv v Fr Fs U) M' ∧ M'.1 410 = M.1 410 ∧ M'.2.2.1 = M.2.2.1 ∧ (Fs ≠ [] → M'.1 408 = M.1 408 ∧ M'.2.1 = M.2.1) ∧ (Fs = [] → M'.1 408 = 0 ∧ M'.2.1 = (aLv v Fr Fs U).2.2.2)) 0 0 := by
  refine zMv.of (cc := cX3_leave) (maxL := 2) (ret := none) (by decide) rfl (Nat.le_of_ble_eq_true rfl) ?_
  intro p e s m args below meth c F G hr hlk hnm
  have hf48 := hf.1
  have hRd := hRr.1
  have r106 := (rg_1206 hv hf.1).2
  have e703 : oi W (200 + 12 * ff Fr) 703 = nI (cn v 1206 (ff Fr)) := hRr.2.2.2.2.1.trans (rg_1206 hv hf.1).1
  have hsB : fBz v Fr Fs = sC v Fs + (cn v 1205 (ff Fr) + cn v 1207 (ff Fr)) := rfl
  refine r_aload_n F dX3_leave_0 rfl ?_
  refine r_dup F dX3_leave_1 rfl ?_
  refine gm_depthS F G hM hC.N dX3_leave_2 ?_
  refine r_iconst (v := 1) F dX3_leave_5 (by decide) ?_
  refine r_isub F dX3_leave_6 ?_
  rw [show nI (Fs.length + 1) - 1 = nI Fs.length from by rw [nl1, nI_sub (by omega), Nat.add_sub_cancel]]
  refine pm_depth F G hM dX3_leave_7 (fun S hM => ?_)
  have hd7 : va_up M.1 407 (nI Fs.length) 407 = nI Fs.length := va_up_self _ _ _
  refine r_aload_n F dX3_leave_10 rfl ?_
  refine gm_routines F G hM dX3_leave_11 ?_
  refine r_aload_n F dX3_leave_14 rfl ?_
  refine gm_depthS F G hM hd7 dX3_leave_15 ?_
  refine lm_routines F G hM (by omega) hC.F1.1 dX3_leave_18 ?_
  refine gr_results F G hM hf48 hRd dX3_leave_19 ?_
  rw [e703]
  refine r_istore_n F dX3_leave_22 (by decide) ?_
  refine r_aload_n F dX3_leave_23 rfl ?_
  refine r_aload_n F dX3_leave_24 rfl ?_
  refine gm_floors F G hM dX3_leave_25 ?_
  refine r_aload_n F dX3_leave_28 rfl ?_
  refine gm_depthS F G hM hd7 dX3_leave_29 ?_
  refine lm_floors F G hM (by omega) dX3_leave_32 ?_
  rw [show M.2.2.2.2.2.2.1 Fs.length = nI (sC v Fs) from hC.F1.2.2.1]
  refine r_iload_n F dX3_leave_33 rfl ?_
  refine c_Vv (ci := 4) F G (c_mkeep hM (b := sC v Fs) (h := fBz v Fr Fs + fh Fr) (k := (cn v 1206 (ff Fr))) ((show va_up M.1 407 (nI Fs.length) 406 = M.1 406 from va_up_ne _ _ (by decide)).trans hC.H) r106 (by omega) (by omega) (by omega)) (cwV 2 F.2.2.2.2 (zgV km_X3_124 ki_X3_keep ke_X3_X3_keep kn_X3 ko_X3_keep) rfl rfl rfl ⟨rfl, hd_yX3_keep⟩ ⟨Nat.le_of_ble_eq_true rfl, Nat.le_of_ble_eq_true rfl⟩) rfl (by decide) hM.A rfl rfl (Nat.le_of_ble_eq_true rfl) dX3_leave_34 ⟨Nat.le_of_ble_eq_true rfl, Nat.le_of_ble_eq_true rfl⟩ (fun S34 h34 => ?_)
  obtain ⟨M2, hM, hKe⟩ := h34
  have hlv := hC.lv (v := v) r106 rfl hcr hKe
  have hd8 : M2.1 407 = nI Fs.length := (hKe.2.1 407 (by decide)).trans hd7
  refine r_aload_n F dX3_leave_37 rfl ?_
  refine gm_depthS F G hM hd8 dX3_leave_38 ?_
  refine r_if_ne (tgt := 65) F dX3_leave_41 (by decide) (fun c41 => ?_) (fun c41 => ?_)
  · have hne : Fs ≠ [] := fun h9 => c41 (by rw [h9]; rfl)
    exact e_vret F hr hlk ⟨M2, hM, hlv.1 hne, (hKe.2.1 410 (by decide)).trans (show va_up M.1 407 (nI Fs.length) 410 = M.1 410 from va_up_ne _ _ (by decide)), hKe.2.2.2.1, fun _ => ⟨(hKe.2.1 408 (by decide)).trans (show va_up M.1 407 (nI Fs.length) 408 = M.1 408 from va_up_ne _ _ (by decide)), hKe.2.2.1⟩, fun h9 => absurd h9 hne⟩ (by decide) (by decide) dX3_leave_65
  · have hl0 : Fs = [] := by
      have c9 := c41
      rw [nl0, nI_eq (by omega) (by omega)] at c9
      exact List.eq_nil_of_length_eq_zero c9
    have hM2 := hM
    subst hl0
    have hM := hM2
    obtain ⟨z1, z2, z3, z4, z5⟩ := hlv.2 rfl
    refine r_aload_n F dX3_leave_44 rfl ?_
    refine r_iconst (v := 0) F dX3_leave_45 (by decide) ?_
    refine pm_end F G hM dX3_leave_46 (fun S hM => ?_)
    refine r_aload_n F dX3_leave_49 rfl ?_
    refine r_iload_n F dX3_leave_50 rfl ?_
    refine r_if_ne (tgt := 58) F dX3_leave_51 (by decide) (fun c51 => ?_) (fun c51 => ?_)
    · have hr0 : (cn v 1206 (ff Fr)) = 1 := by
        have : ¬ (cn v 1206 (ff Fr)) = 0 := fun h9 => c51 (by rw [h9]; rfl)
        omega
      refine r_aload_n F dX3_leave_58 rfl ?_
      refine c_Vl (ci := 4) F G (c_mpop hM.1 hM.2.1 hM.2.2 (h := 0) (show va_up M2.1 408 0 406 = nI (0 + 1) from by rw [va_up_ne _ _ (by decide)]; exact z2.trans (by rw [hr0])) (by omega)) (cwV 0 F.2.2.2.2 (zgV km_X3_128 ki_X3_pop ke_X3_X3_pop kn_X3 ko_X3_pop) rfl rfl rfl ⟨rfl, hd_yX3_pop⟩ ⟨Nat.le_of_ble_eq_true rfl, Nat.le_of_ble_eq_true rfl⟩) rfl (by decide) hM.A rfl rfl (Nat.le_of_ble_eq_true rfl) dX3_leave_59 ⟨Nat.le_of_ble_eq_true rfl, Nat.le_of_ble_eq_true rfl⟩ (fun r59 S59 h59 => ?_)
      obtain ⟨h59a, h59b⟩ := h59
      have hM := (⟨hM.1, hM.2.1, h59b⟩ : nZ t0 X S0 ad W _ S59)
      subst h59a
      refine pm_value F G hM dX3_leave_62 (fun S hM => ?_)
      refine e_vret F hr hlk ⟨_, hM, ⟨(show va_up (va_up M2.1 408 0) 406 (nI 0) 406 = nI 0 from va_up_self _ _ _), (show va_up (va_up M2.1 408 0) 406 (nI 0) 407 = nI 0 from by rw [va_up_ne _ _ (by decide), va_up_ne _ _ (by decide)]; exact z3), trivial, z4, (show va_up (va_up M2.1 408 0) 406 (nI 0) 411 = _ from by rw [va_up_ne _ _ (by decide), va_up_ne _ _ (by decide)]; exact z5)⟩, (show va_up (va_up M2.1 408 0) 406 (nI 0) 410 = M.1 410 from by rw [va_up_ne _ _ (by decide), va_up_ne _ _ (by decide)]; exact (hKe.2.1 410 (by decide)).trans (show va_up M.1 407 (nI 0) 410 = M.1 410 from va_up_ne _ _ (by decide))), hKe.2.2.2.1, fun h9 => absurd rfl h9, fun _ => ⟨(show va_up (va_up M2.1 408 0) 406 (nI 0) 408 = 0 from by rw [va_up_ne _ _ (by decide), va_up_self]), ?_⟩⟩ (by decide) (by decide) dX3_leave_65
      show mSt M2 0 = if (cn v 1206 (ff Fr)) = 0 then 0 else fv Fr (fh Fr - 1)
      rw [if_neg (by omega)]
      exact z1.resolve_left (by omega)
    · have hr0 : (cn v 1206 (ff Fr)) = 0 := by have c9 := c51; rw [nl0, nI_eq (by omega) (by omega)] at c9; exact c9
      refine r_lconst (v := 0) F dX3_leave_54 (by decide) ?_
      refine r_goto (tgt := 62) F dX3_leave_55 (by decide) ?_
      refine pm_value F G hM dX3_leave_62 (fun S hM => ?_)
      refine e_vret F hr hlk ⟨_, hM, ⟨(show va_up M2.1 408 0 406 = nI 0 from by rw [va_up_ne _ _ (by decide)]; exact z2.trans (by rw [hr0])), (show va_up M2.1 408 0 407 = nI 0 from by rw [va_up_ne _ _ (by decide)]; exact z3), trivial, z4, (show va_up M2.1 408 0 411 = _ from by rw [va_up_ne _ _ (by decide)]; exact z5)⟩, (show va_up M2.1 408 0 410 = M.1 410 from by rw [va_up_ne _ _ (by decide)]; exact (hKe.2.1 410 (by decide)).trans (show va_up M.1 407 (nI 0) 410 = M.1 410 from va_up_ne _ _ (by decide))), hKe.2.2.2.1, fun h9 => absurd rfl h9, fun _ => ⟨(show va_up M2.1 408 0 408 = 0 from va_up_self _ _ _), ?_⟩⟩ (by decide) (by decide) dX3_leave_65
      show (0 : Int64) = if (cn v 1206 (ff Fr)) = 0 then 0 else fv Fr (fh Fr - 1)
      rw [if_pos hr0]
