theorem nl24 : (24 : Int32) = nI 24 := rfl
theorem nl40 : (40 : Int32) = nI 40 := rfl
/-- what a run changes of the reference's tables -/
def vT (v1 v2 : zV) : Prop := (∀ id k, ¬ (id = 1228 ∨ id = 1231 ∨ (1239 ≤ id ∧ id ≤ 1249)) → v2.1 id k = v1.1 id k) ∧ ∀ id k, ¬ (id = 1244 ∨ id = 1245) → v2.2 id k = v1.2 id k
section ZVT
variable {v vs v1 v2 v3 : zV}
theorem vT.rf : vT v1 v1 := ⟨fun _ _ _ => rfl, fun _ _ _ => rfl⟩
theorem vT.tr (h : vT v1 v2) (h2 : vT v2 v3) : vT v1 v3 := ⟨fun id k hk => (h2.1 id k hk).trans (h.1 id k hk), fun id k hk => (h2.2 id k hk).trans (h.2 id k hk)⟩
theorem vT.u (h : vT v1 v2) {id k : Nat} {x : Int32} (hid : id = 1228 ∨ id = 1231 ∨ (1239 ≤ id ∧ id ≤ 1249)) : vT v1 (u1 v2 id k x) := ⟨fun j m hj => (u1_n (Or.inl (fun e => hj (by rw [e]; exact hid)))).trans (h.1 j m hj), h.2⟩
theorem vT.uu (h : vT v1 v2) {id k : Nat} {x : Int64} (hid : id = 1244 ∨ id = 1245) : vT v1 (u2 v2 id k x) := ⟨h.1, fun j m hj => (u2_n (v := v2) (i := id) (k := k) (x := x) (Or.inl (fun e => hj (by rw [e]; exact hid)))).trans (h.2 j m hj)⟩
theorem vT.kp (h : vT v1 v2) {b t m : Nat} : vT v1 (vKp v2 b t m) := by
  unfold vKp
  refine vT.u ?_ (by omega)
  split
  · exact h
  · exact h.uu (Or.inr rfl)
theorem vT.en (h : vT v1 v2) {n f p t rb dp : Nat} (he : enR v2 v3 n f p t rb dp) : vT v1 v3 := by
  obtain ⟨e1, e2, e3, e4, e5, e6, e7, e8, e9, e10⟩ := he
  exact ⟨fun id k hk => (e9 id k (by omega) (by omega)).trans (h.1 id k hk), fun id k hk => (e10 id k (by omega)).trans (h.2 id k hk)⟩
theorem vT.L (h : vT vs v1) (hL : vL v vs) : vL v v1 := fun id k hk => (h.1 id k (by omega)).trans (hL id k hk)
theorem vT.Q (h : vT vs v1) {Ss : List Nat} (hq : tQ vs 1224 1225 Ss) : tQ v1 1224 1225 Ss := ⟨(h.1 _ _ (by omega)).trans hq.1, fun k hk => (h.1 _ _ (by omega)).trans (hq.2 k hk)⟩
theorem vL.ekq (h : vL v v1) (f k : Nat) : kq v1 f k = kq v f k := by
  unfold kq kBeg
  rw [h.ekRun f k, h.c (by omega)]
theorem vL.ekw (h : vL v v1) (f k : Nat) : kw v1 f k = kw v f k := h.c (by omega)
theorem vL.ecOK (h : vL v v1) {f : Nat} (hc : cOK v f) : cOK v1 f := by
  unfold cOK
  rw [h.c (id := 1208) (by omega), h.ekq]
  exact ⟨fun k hk => by rw [h.ekRun f k, h.ekq]; exact hc.1 k hk, hc.2⟩
theorem vL.ebhT (h : vL v v1) {f p e : Nat} {o3 : Int32} (hb : bhT v f p o3 e) : bhT v1 f p o3 e := by
  unfold bhT at hb ⊢
  rw [h.c (id := 1208) (by omega)]
  simp only [h.ekq, h.ekw]
  exact hb
end ZVT
/-- the reference says A, or what A is behind leaving its upper function -/
def rQ (v : zV) (A : aM) (v2 : zV) : Prop := rR A v2 ∨ ∃ G Gs U, A = (G :: Gs, U) ∧ cn v 1208 (ff G) ≤ fa G ∧ rR (aLv v G Gs U) v2 ∧ (Gs = [] → (aLv v G Gs U).2.2.2 = if cn v 1206 (ff G) = 0 then 0 else v2.2 1245 0)
theorem aLv_go {v : zV} {F : aF} {Fs : List aF} {U : aU} {k : Nat} : aLv v (fGo F k) Fs U = aLv v F Fs U := by cases Fs <;> rfl
/-- what a step leaves -/
def stP (v vs v2 : zV) (U : aU) (R : Nat × aM) (r : Int32) : Prop := vT vs v2 ∧ r = nI R.1 ∧ (R.1 = 0 → rQ v R.2 v2) ∧ (¬ R.1 = 0 → (∀ k, k < 1024 → v2.1 1228 k = U.1 k) ∧ v2.1 1231 0 = nI U.2.1)
theorem stP.go {v vs v2 : zV} {U : aU} {A : aM} (hT : vT vs v2) (hR : rR A v2) : stP v vs v2 U (0, A) 0 := ⟨hT, rfl, fun _ => Or.inl hR, fun h9 => absurd rfl h9⟩
theorem stP.no {v vs v2 : zV} {G : aF} {Fs : List aF} {U : aU} {A : aM} {c : Nat} {r : Int32} (hc : ¬ c = 0) (he : r = nI c) (hT : vT vs v2) (hR : rR (G :: Fs, U) v2) : stP v vs v2 U (c, A) r := ⟨hT, he, fun h9 => absurd h9 hc, fun _ => ⟨hR.2.2.2.2.1, hR.2.2.2.2.2⟩⟩
set_option maxRecDepth 100000 in
set_option maxHeartbeats 4000000 in
theorem mm_branch {l : Launch} {N0 t0 : Nat} {D : va_G} {cy : Nat → ClassId} {S : zS} {S0 : zS} {g : Nat} {qa : Nat → Nat} {v1 : zV} (hS : zmR S0 g qa v1 S) {v vs : zV} {Fr : aF} {Fs : List aF} {U : aU} (hL : vL v vs) (hT : vT vs v1) (hR : rR (Fr :: Fs, U) v1) (hv : vRg v) (hf : tF v (ff Fr)) (hlen : Fs.length + 1 ≤ 40) (hsh : sH Fs + fh Fr ≤ 2400) (hsk : sK Fs + fn Fr ≤ 2400) (hc : cOK v (ff Fr)) {a : Nat} (ha : a ≤ fn Fr) (ha1 : a = fn Fr → cn v 1206 (ff Fr) ≤ fh Fr) (ha2 : a < fn Fr → (fo Fr (fn Fr - 1 - a)) < cn v 1208 (ff Fr) ∧ (23 ≤ kw v (ff Fr) (fo Fr (fn Fr - 1 - a)) ∧ kw v (ff Fr) (fo Fr (fn Fr - 1 - a)) ≤ 25) ∧ ka v (ff Fr) (fo Fr (fn Fr - 1 - a)) ≤ 1 ∧ fb Fr (fn Fr - 1 - a) + (if kw v (ff Fr) (fo Fr (fn Fr - 1 - a)) = 24 then 0 else ka v (ff Fr) (fo Fr (fn Fr - 1 - a))) ≤ fh Fr) (hg : ∀ p, p < cn v 1208 (ff Fr) → 23 ≤ kw v (ff Fr) p ∧ kw v (ff Fr) p ≤ 25 → v.1 1210 (60 * ff Fr + p) = nI (ka v (ff Fr) p)) : zMv l yX12_branch (zws yX12_branch cX12_branch 7 none) { frames := 2, cells := 0, slots := 0, locals := 43 } N0 t0 D cy S [.ref g, .int (nI Fs.length), .int (nI a)] (fun S' => ∃ v2, zmR S0 g qa v2 S' ∧ vT vs v2 ∧ rQ v (aBr v Fr a :: Fs, U) v2) 0 0 := by
  refine zMv.of (cc := cX12_branch) (maxL := 7) (ret := none) (by decide) rfl (Nat.le_of_ble_eq_true rfl) ?_
  intro p e s m args below meth c F G hr hlk hnm
  have hsz := (rg_1208 hv hf.1).2
  have hf48 := hf.1
  refine r_aload_n F dX12_branch_0 rfl ?_
  refine gq_frameFunction F G hS dX12_branch_1 ?_
  refine r_iload_n F dX12_branch_4 rfl ?_
  refine al_frameFunction F G hS (Fs.length) rfl (by omega) dX12_branch_5 ?_
  rw [hR.F1.1]
  refine r_istore_n F dX12_branch_6 (by decide) ?_
  refine r_iload_n F dX12_branch_7 rfl ?_
  refine r_aload_n F dX12_branch_8 rfl ?_
  refine gi_runBlocks F G hS dX12_branch_9 ?_
  rw [hR.K]
  refine r_aload_n F dX12_branch_12 rfl ?_
  refine gq_frameBlocks F G hS dX12_branch_13 ?_
  refine r_iload_n F dX12_branch_16 rfl ?_
  refine al_frameBlocks F G hS (Fs.length) rfl (by omega) dX12_branch_17 ?_
  rw [hR.F1.2.2.2.1]
  refine r_isub F dX12_branch_18 ?_
  rw [show nI (sK Fs + fn Fr) - nI (sK Fs) = nI (fn Fr) from by rw [nI_sub (by omega), Nat.add_sub_cancel_left]]
  refine r_icmp_ne (tgt := 27) F dX12_branch_19 (by decide) (fun c19 => ?_) (fun c19 => ?_)
  · have hne : ¬ a = fn Fr := fun h9 => c19 (by rw [h9])
    have hlt : a < fn Fr := by omega
    obtain ⟨p1, p2, p3, p4⟩ := ha2 hlt
    have e47 := (hR.F1.2.2.2.2.2.2 (fn Fr - 1 - a) (by omega)).1
    have e48 := (hR.F1.2.2.2.2.2.2 (fn Fr - 1 - a) (by omega)).2
    have hLL := hT.L hL
    refine r_aload_n F dX12_branch_27 rfl ?_
    refine gi_runBlocks F G hS dX12_branch_28 ?_
    rw [hR.K]
    refine r_iconst (v := 1) F dX12_branch_31 (by decide) ?_
    refine r_isub F dX12_branch_32 ?_
    refine r_iload_n F dX12_branch_33 rfl ?_
    refine r_isub F dX12_branch_34 ?_
    rw [show nI (sK Fs + fn Fr) - 1 - nI a = nI (sK Fs + (fn Fr - 1 - a)) from by rw [nl1, nI_sub (by omega), nI_sub (by omega)]; congr 1; omega]
    refine r_istore F dX12_branch_35 (by decide) ?_
    refine r_aload_n F dX12_branch_37 rfl ?_
    refine gq_runWord F G hS dX12_branch_38 ?_
    refine r_iload F dX12_branch_41 rfl ?_
    refine al_runWord F G hS (sK Fs + (fn Fr - 1 - a)) rfl (by omega) dX12_branch_43 ?_
    rw [e47]
    refine r_istore F dX12_branch_44 (by decide) ?_
    refine r_aload_n F dX12_branch_46 rfl ?_
    refine gq_word F G hS dX12_branch_47 ?_
    refine r_bipush (v := 60) F dX12_branch_50 (by decide) ?_
    refine r_iload_n F dX12_branch_52 rfl ?_
    refine r_imul F dX12_branch_53 ?_
    refine r_iload F dX12_branch_54 rfl ?_
    refine r_iadd F dX12_branch_56 ?_
    refine al_word F G hS (60 * ff Fr + (fo Fr (fn Fr - 1 - a))) (by simp only [nl0, nl1, nl2, nl3, nl4, nl5, nl6, nl7, nl8, nl9, nl10, nl16, nl60, nl64, nI_mul, nI_add]) (by omega) dX12_branch_57 ?_
    rw [show v1.1 1209 (60 * ff Fr + (fo Fr (fn Fr - 1 - a))) = nI (kw v (ff Fr) (fo Fr (fn Fr - 1 - a))) from (hLL _ _ (by omega)).trans (rg_1209 hv (k := 60 * ff Fr + (fo Fr (fn Fr - 1 - a))) (by omega)).1]
    refine r_istore F dX12_branch_58 (by decide) ?_
    refine r_iload F dX12_branch_60 rfl ?_
    refine r_bipush (v := 24) F dX12_branch_62 (by decide) ?_
    refine r_icmp_ne (tgt := 98) F dX12_branch_64 (by decide) (fun c64 => ?_) (fun c64 => ?_)
    · have h24 : ¬ kw v (ff Fr) (fo Fr (fn Fr - 1 - a)) = 24 := fun h9 => c64 (by rw [h9]; rfl)
      rw [if_neg h24] at p4
      refine r_aload_n F dX12_branch_98 rfl ?_
      refine r_iload F dX12_branch_99 rfl ?_
      refine pi_runBlocks F G hS dX12_branch_101 (fun S hS => ?_)
      refine r_aload_n F dX12_branch_104 rfl ?_
      refine r_aload_n F dX12_branch_105 rfl ?_
      refine gq_runBelow F G hS dX12_branch_106 ?_
      refine r_iload F dX12_branch_109 rfl ?_
      refine al_runBelow F G hS (sK Fs + (fn Fr - 1 - a)) rfl (by omega) dX12_branch_111 ?_
      rw [show (u1 v1 1249 0 (nI (sK Fs + (fn Fr - 1 - a)))).1 1248 (sK Fs + (fn Fr - 1 - a)) = nI (sH Fs + fb Fr (fn Fr - 1 - a)) from (u1_n (Or.inl (by decide))).trans e48]
      have hR := hR.cu (m := (fn Fr - 1 - a)) (by omega)
      have hT := hT.u (id := 1249) (k := 0) (x := nI (sK Fs + (fn Fr - 1 - a))) (by omega)
      refine r_aload_n F dX12_branch_112 rfl ?_
      refine gq_number F G hS dX12_branch_113 ?_
      refine r_bipush (v := 60) F dX12_branch_116 (by decide) ?_
      refine r_iload_n F dX12_branch_118 rfl ?_
      refine r_imul F dX12_branch_119 ?_
      refine r_iload F dX12_branch_120 rfl ?_
      refine r_iadd F dX12_branch_122 ?_
      refine al_number F G hS (60 * ff Fr + (fo Fr (fn Fr - 1 - a))) (by simp only [nl0, nl1, nl2, nl3, nl4, nl5, nl6, nl7, nl8, nl9, nl10, nl16, nl60, nl64, nI_mul, nI_add]) (by omega) dX12_branch_123 ?_
      rw [show (u1 v1 1249 0 (nI (sK Fs + (fn Fr - 1 - a)))).1 1210 (60 * ff Fr + (fo Fr (fn Fr - 1 - a))) = nI (ka v (ff Fr) (fo Fr (fn Fr - 1 - a))) from ((hT.L hL) _ _ (by omega)).trans (hg _ p1 p2)]
      refine c_Vv (ci := 12) F G (mm_keep hS (b := sH Fs + fb Fr (fn Fr - 1 - a)) (t := sH Fs + fh Fr) (k := ka v (ff Fr) (fo Fr (fn Fr - 1 - a))) hR.T p3 (by omega) (by omega) (by omega)) (cwV 2 F.2.2.2.2 (zgV km_X12_312 ki_X12_keep ke_X12_X12_keep kn_X12 ko_X12_keep) rfl rfl rfl ⟨rfl, hd_yX12_keep⟩ ⟨Nat.le_of_ble_eq_true rfl, Nat.le_of_ble_eq_true rfl⟩) rfl (by decide) hS.al rfl rfl (Nat.le_of_ble_eq_true rfl) dX12_branch_124 ⟨Nat.le_of_ble_eq_true rfl, Nat.le_of_ble_eq_true rfl⟩ (fun S124 hS => ?_)
      have hR := hR.ke (c := fb Fr (fn Fr - 1 - a)) (m := ka v (ff Fr) (fo Fr (fn Fr - 1 - a))) p3 p4
      have hT := hT.kp (b := sH Fs + fb Fr (fn Fr - 1 - a)) (t := sH Fs + fh Fr) (m := ka v (ff Fr) (fo Fr (fn Fr - 1 - a)))
      refine r_aload_n F dX12_branch_127 rfl ?_
      refine gq_frameAt F G hS dX12_branch_128 ?_
      refine r_iload_n F dX12_branch_131 rfl ?_
      refine r_aload_n F dX12_branch_132 rfl ?_
      refine r_iload_n F dX12_branch_133 rfl ?_
      refine r_iload F dX12_branch_134 rfl ?_
      refine r_iconst (v := 0) F dX12_branch_136 (by decide) ?_
      refine c_Vi (ci := 12) F G (mm_behind hS (f := ff Fr) (p9 := (fo Fr (fn Fr - 1 - a))) (e9 := clE v (ff Fr) (fo Fr (fn Fr - 1 - a))) (o3 := 0) ((hT.L hL).rg hv) hf.1 ((hT.L hL).ecOK hc) ((hT.L hL).ebhT (bhT.e hc (clE_c hc p1 p2)))) (cwV 3 F.2.2.2.2 (zgV km_X12_323 ki_X12_behind ke_X12_X12_behind kn_X12 ko_X12_behind) rfl rfl rfl ⟨rfl, hd_yX12_behind⟩ ⟨Nat.le_of_ble_eq_true rfl, Nat.le_of_ble_eq_true rfl⟩) rfl (by decide) hS.al rfl rfl (Nat.le_of_ble_eq_true rfl) dX12_branch_137 ⟨Nat.le_of_ble_eq_true rfl, Nat.le_of_ble_eq_true rfl⟩ (fun r137 S137 h137 => ?_)
      obtain ⟨h137a, h137b⟩ := h137
      have h137c := h137b.symm
      subst h137c
      subst h137a
      refine r_iconst (v := 1) F dX12_branch_140 (by decide) ?_
      refine r_iadd F dX12_branch_141 ?_
      rw [show nI (clE v (ff Fr) (fo Fr (fn Fr - 1 - a))) + 1 = nI (clE v (ff Fr) (fo Fr (fn Fr - 1 - a)) + 1) from nI_add _ 1]
      refine as_frameAt F G hS (Fs.length) rfl (by omega) dX12_branch_142 (fun S hS => ?_)
      have hR := hR.go (k := clE v (ff Fr) (fo Fr (fn Fr - 1 - a)) + 1)
      have hT := hT.u (id := 1241) (k := Fs.length) (x := nI (clE v (ff Fr) (fo Fr (fn Fr - 1 - a)) + 1)) (by omega)
      refine e_vret F hr hlk ⟨_, hS, hT, Or.inl ?_⟩ (by decide) (by decide) dX12_branch_143
      unfold aBr
      rw [if_neg hne, if_neg h24]
      exact hR
    · have h24 : kw v (ff Fr) (fo Fr (fn Fr - 1 - a)) = 24 := by have c9 := c64; rw [nl24, nI_eq (by omega) (by omega)] at c9; exact c9
      rw [if_pos h24] at p4
      refine r_aload_n F dX12_branch_67 rfl ?_
      refine r_iload F dX12_branch_68 rfl ?_
      refine r_iconst (v := 1) F dX12_branch_70 (by decide) ?_
      refine r_iadd F dX12_branch_71 ?_
      rw [show nI (sK Fs + (fn Fr - 1 - a)) + 1 = nI (sK Fs + (fn Fr - 1 - a) + 1) from nI_add _ 1]
      refine pi_runBlocks F G hS dX12_branch_72 (fun S hS => ?_)
      refine r_aload_n F dX12_branch_75 rfl ?_
      refine r_aload_n F dX12_branch_76 rfl ?_
      refine gq_runBelow F G hS dX12_branch_77 ?_
      refine r_iload F dX12_branch_80 rfl ?_
      refine al_runBelow F G hS (sK Fs + (fn Fr - 1 - a)) rfl (by omega) dX12_branch_82 ?_
      rw [show (u1 v1 1249 0 (nI (sK Fs + (fn Fr - 1 - a) + 1))).1 1248 (sK Fs + (fn Fr - 1 - a)) = nI (sH Fs + fb Fr (fn Fr - 1 - a)) from (u1_n (Or.inl (by decide))).trans e48]
      have hR := hR.cu (m := (fn Fr - 1 - a) + 1) (by omega)
      have hT := hT.u (id := 1249) (k := 0) (x := nI (sK Fs + (fn Fr - 1 - a) + 1)) (by omega)
      refine r_iconst (v := 0) F dX12_branch_83 (by decide) ?_
      rw [nl0]
      refine c_Vv (ci := 12) F G (mm_keep hS (b := sH Fs + fb Fr (fn Fr - 1 - a)) (t := sH Fs + fh Fr) (k := 0) hR.T (by omega) (by omega) (by omega) (by omega)) (cwV 2 F.2.2.2.2 (zgV km_X12_312 ki_X12_keep ke_X12_X12_keep kn_X12 ko_X12_keep) rfl rfl rfl ⟨rfl, hd_yX12_keep⟩ ⟨Nat.le_of_ble_eq_true rfl, Nat.le_of_ble_eq_true rfl⟩) rfl (by decide) hS.al rfl rfl (Nat.le_of_ble_eq_true rfl) dX12_branch_84 ⟨Nat.le_of_ble_eq_true rfl, Nat.le_of_ble_eq_true rfl⟩ (fun S84 hS => ?_)
      have hR := hR.ke (c := fb Fr (fn Fr - 1 - a)) (m := 0) (by omega) p4
      have hT := hT.kp (b := sH Fs + fb Fr (fn Fr - 1 - a)) (t := sH Fs + fh Fr) (m := 0)
      refine r_aload_n F dX12_branch_87 rfl ?_
      refine gq_frameAt F G hS dX12_branch_88 ?_
      refine r_iload_n F dX12_branch_91 rfl ?_
      refine r_iload F dX12_branch_92 rfl ?_
      refine r_iconst (v := 1) F dX12_branch_94 (by decide) ?_
      refine r_iadd F dX12_branch_95 ?_
      rw [show nI (fo Fr (fn Fr - 1 - a)) + 1 = nI ((fo Fr (fn Fr - 1 - a)) + 1) from nI_add _ 1]
      refine as_frameAt F G hS (Fs.length) rfl (by omega) dX12_branch_96 (fun S hS => ?_)
      have hR := hR.go (k := (fo Fr (fn Fr - 1 - a)) + 1)
      have hT := hT.u (id := 1241) (k := Fs.length) (x := nI ((fo Fr (fn Fr - 1 - a)) + 1)) (by omega)
      refine e_vret F hr hlk ⟨_, hS, hT, Or.inl ?_⟩ (by decide) (by decide) dX12_branch_97
      unfold aBr
      rw [if_neg hne, if_pos h24]
      exact hR
  · have he : a = fn Fr := by have c9 := c19; rw [nI_eq (by omega) (by omega)] at c9; exact c9
    have hcr := ha1 he
    refine r_aload_n F dX12_branch_22 rfl ?_
    have e06 : v1.1 1206 (ff Fr) = nI (cn v 1206 (ff Fr)) := ((hT.L hL) _ _ (by omega)).trans (rg_1206 hv hf.1).1
    have r106 := (rg_1206 hv hf.1).2
    refine c_Vv (ci := 12) F G (mm_leave hS (n := Fs.length) (b := sH Fs) (t := sH Fs + (fh Fr)) (r9 := cn v 1206 (ff Fr)) (rb := sK Fs) (f := ff Fr) hR.N (by omega) hR.F1.2.2.1 (by omega) hR.F1.1 hf.1 e06 r106 hR.T (by omega) (by omega) hR.F1.2.2.2.1) (cwV 0 F.2.2.2.2 (zgV km_X12_320 ki_X12_leave ke_X12_X12_leave kn_X12 ko_X12_leave) rfl rfl rfl ⟨rfl, hd_yX12_leave⟩ ⟨Nat.le_of_ble_eq_true rfl, Nat.le_of_ble_eq_true rfl⟩) rfl (by decide) hS.al rfl rfl (Nat.le_of_ble_eq_true rfl) dX12_branch_23 ⟨Nat.le_of_ble_eq_true rfl, Nat.le_of_ble_eq_true rfl⟩ (fun S23 hS => ?_)
    have hLv := hR.lv (v := v) r106 rfl hcr
    have hT := (((hT.u (id := 1239) (k := 0) (x := nI Fs.length) (by omega)).kp (b := sH Fs) (t := sH Fs + (fh Fr)) (m := cn v 1206 (ff Fr))).u (id := 1249) (k := 0) (x := nI (sK Fs)) (by omega))
    refine e_vret F hr hlk ⟨_, hS, hT, Or.inr ⟨fGo Fr (cn v 1208 (ff Fr)), Fs, U, ?_, Nat.le_refl _, ?_, ?_⟩⟩ (by decide) (by decide) dX12_branch_26
    · unfold aBr
      rw [if_pos he]
    · rw [aLv_go]
      exact hLv.1
    · intro h9
      rw [aLv_go]
      exact hLv.2 h9
set_option maxRecDepth 100000 in
set_option maxHeartbeats 4000000 in
theorem mm_called {l : Launch} {N0 t0 : Nat} {D : va_G} {cy : Nat → ClassId} {S : zS} {S0 : zS} {g : Nat} {qa : Nat → Nat} {v1 : zV} (hS : zmR S0 g qa v1 S) {v vs : zV} {Fr : aF} {Fs : List aF} {U : aU} (hL : vL v vs) (hT : vT vs v1) (hR : rR (Fr :: Fs, U) v1) (hv : vRg v) (hf : tF v (ff Fr)) (hlen : Fs.length + 1 ≤ 40) (hsh : sH Fs + fh Fr ≤ 2400) (hsk : sK Fs + fn Fr ≤ 2400) {f2 : Nat} (hf2 : f2 < 48) (hp : cn v 1205 f2 ≤ fh Fr) (hU : U.2.1 ≤ 40) : zMi l yX12_called (zws yX12_called cX12_called 2 (some .int)) { frames := 1, cells := 0, slots := 0, locals := 22 } N0 t0 D cy S [.ref g, .int (nI f2)] (fun r S' => ∃ v2, zmR S0 g qa v2 S' ∧ stP v vs v2 U (aCl v Fr Fs U f2) r) 0 0 := by
  refine zMi.of (cc := cX12_called) (maxL := 2) (ret := (some .int)) (by decide) rfl (Nat.le_of_ble_eq_true rfl) ?_
  intro p e s m args below meth c F G hr hlk hnm
  refine r_aload_n F dX12_called_0 rfl ?_
  refine gi_frames F G hS dX12_called_1 ?_
  rw [hR.N]
  refine r_bipush (v := 40) F dX12_called_4 (by decide) ?_
  refine r_icmp_ne (tgt := 12) F dX12_called_6 (by decide) (fun c6 => ?_) (fun c6 => ?_)
  · have hne : ¬ Fs.length + 1 = 40 := fun h9 => c6 (by rw [h9]; rfl)
    have e05 : v1.1 1205 f2 = nI (cn v 1205 f2) := ((hT.L hL) _ _ (by omega)).trans (rg_1205 hv hf2).1
    have r105 := (rg_1205 hv hf2).2
    refine r_aload_n F dX12_called_12 rfl ?_
    refine r_iload_n F dX12_called_13 rfl ?_
    refine c_Vv (ci := 12) F G (mm_enter hS (n := Fs.length + 1) (f := f2) (p9 := cn v 1205 f2) (t := sH Fs + fh Fr) (rb := sK Fs + fn Fr) (dp := U.2.1) hR.N (by omega) hf2 e05 r105 hR.T (by omega) (by omega) hR.K hR.2.2.2.2.2 hU) (cwV 1 F.2.2.2.2 (zgV km_X12_315 ki_X12_enter ke_X12_X12_enter kn_X12 ko_X12_enter) rfl rfl rfl ⟨rfl, hd_yX12_enter⟩ ⟨Nat.le_of_ble_eq_true rfl, Nat.le_of_ble_eq_true rfl⟩) rfl (by decide) hS.al rfl rfl (Nat.le_of_ble_eq_true rfl) dX12_called_14 ⟨Nat.le_of_ble_eq_true rfl, Nat.le_of_ble_eq_true rfl⟩ (fun S14 h14 => ?_)
    obtain ⟨v2, hS, hE⟩ := h14
    have hR2 := hR.en (v := v) rfl hp hE
    have hT2 := hT.en hE
    refine r_iconst (v := 0) F dX12_called_17 (by decide) ?_
    refine e_iret F hr hlk ⟨_, hS, ?_⟩ (by decide) (by decide) dX12_called_18
    rw [show aCl v Fr Fs U f2 = (0, aCa v Fr Fs U f2) from if_neg hne]
    exact stP.go hT2 hR2
  · refine r_bipush (v := 6) F dX12_called_9 (by decide) ?_
    have he : Fs.length + 1 = 40 := by have c9 := c6; rw [nl40, nI_eq (by omega) (by omega)] at c9; exact c9
    refine e_iret F hr hlk ⟨_, hS, ?_⟩ (by decide) (by decide) dX12_called_11
    rw [show aCl v Fr Fs U f2 = (6, Fr :: Fs, U) from if_pos he]
    exact stP.no (by decide) rfl hT hR
