theorem l_div1 (x : Int64) : x - x / -1 * -1 = 0 := by
  have h : x / -1 = -x := by
    apply Int64.toInt_inj.mp
    rw [Int64.toInt_div, show (-1 : Int64).toInt = -1 from rfl, Int.tdiv_neg, Int.tdiv_one, Int64.toInt_neg]
  rw [h, Int64.mul_neg, Int64.mul_one, Int64.neg_neg, Int64.sub_self]
theorem l_sh (y : Int64) : (y &&& 63).toInt32.toInt64 &&& 63 = y.toInt32.toInt64 &&& 63 := by
  rw [Int64.toInt32_and, Int32.toInt64_and, Int64.and_assoc]
  rfl
def ldC (g : Nat → Int32) (a : Nat) : Nat → Int64
  | 0 => 0
  | i + 1 => ldC g a i ||| (((g (a + i)).toInt64 &&& 255) <<< ((8 * nI i).toInt64 &&& 63))
theorem l_shl (x : Int64) : ∀ k, k < 64 → (x <<< (Int64.ofNat k)).toBitVec = x.toBitVec <<< k := by
  intro k hk
  rw [Int64.toBitVec_shiftLeft]
  have : ((Int64.ofNat k).toBitVec.smod 64).toNat = k := (show ∀ k, k < 64 → ((Int64.ofNat k).toBitVec.smod 64).toNat = k by decide) k hk
  rw [BitVec.shiftLeft_eq', this]
theorem l_sh8 : ∀ i, i < 8 → (8 * nI i).toInt64 &&& 63 = Int64.ofNat (8 * i) := by decide
theorem or8 (b0 b1 b2 b3 b4 b5 b6 b7 : BitVec 64) : b0 ||| b1 ||| b2 ||| b3 ||| b4 ||| b5 ||| b6 ||| b7 = b7 ||| b6 ||| b5 ||| b4 ||| b3 ||| b2 ||| b1 ||| b0 := by ac_rfl
theorem ld_eq8 (g : Nat → Int32) (a : Nat) : ldC g a 8 = ldR g a 8 8 := by
  have hb : ∀ t, (g (a + t) &&& 255).toInt64 = (g (a + t)).toInt64 &&& 255 := fun t => Int32.toInt64_and _ _
  simp only [ldC, ldR, hb]
  rw [l_sh8 0 (by decide), l_sh8 1 (by decide), l_sh8 2 (by decide), l_sh8 3 (by decide), l_sh8 4 (by decide), l_sh8 5 (by decide), l_sh8 6 (by decide), l_sh8 7 (by decide), show (8 : Int32).toInt64 &&& 63 = Int64.ofNat 8 from by decide]
  apply Int64.toBitVec_inj.mp
  simp only [Int64.toBitVec_or, l_shl _ 8 (by decide), l_shl _ (8 * 0) (by decide), l_shl _ (8 * 1) (by decide), l_shl _ (8 * 2) (by decide), l_shl _ (8 * 3) (by decide), l_shl _ (8 * 4) (by decide), l_shl _ (8 * 5) (by decide), l_shl _ (8 * 6) (by decide), l_shl _ (8 * 7) (by decide), BitVec.shiftLeft_or_distrib, ← BitVec.shiftLeft_add]
  simp only [show (0 : Int64).toBitVec = 0#64 from rfl, BitVec.zero_shiftLeft, BitVec.zero_or, BitVec.shiftLeft_zero, Nat.mul_zero, Nat.mul_one, Nat.reduceMul, Nat.reduceAdd, Nat.reduceSub, Nat.sub_zero, Nat.add_zero]
  generalize ((g (a + (8 - 1 - 7))).toInt64 &&& 255).toBitVec = b0
  generalize ((g (a + 1)).toInt64 &&& 255).toBitVec <<< 8 = b1
  generalize ((g (a + 2)).toInt64 &&& 255).toBitVec <<< 16 = b2
  generalize ((g (a + 3)).toInt64 &&& 255).toBitVec <<< 24 = b3
  generalize ((g (a + 4)).toInt64 &&& 255).toBitVec <<< 32 = b4
  generalize ((g (a + 5)).toInt64 &&& 255).toBitVec <<< 40 = b5
  generalize ((g (a + 6)).toInt64 &&& 255).toBitVec <<< 48 = b6
  generalize ((g (a + 7)).toInt64 &&& 255).toBitVec <<< 56 = b7
  exact or8 b0 b1 b2 b3 b4 b5 b6 b7
theorem ld_eq1 (g : Nat → Int32) (a : Nat) : ldC g a 1 = ldR g a 1 1 := by
  have hb : ∀ t, (g (a + t) &&& 255).toInt64 = (g (a + t)).toInt64 &&& 255 := fun t => Int32.toInt64_and _ _
  simp only [ldC, ldR, hb]
  rw [l_sh8 0 (by decide), show (8 : Int32).toInt64 &&& 63 = Int64.ofNat 8 from by decide]
  apply Int64.toBitVec_inj.mp
  simp only [Int64.toBitVec_or, l_shl _ 8 (by decide), l_shl _ (8 * 0) (by decide)]
  simp only [show (0 : Int64).toBitVec = 0#64 from rfl, BitVec.zero_shiftLeft, BitVec.zero_or, BitVec.shiftLeft_zero, Nat.mul_zero, Nat.reduceSub]
theorem l_shU (y : Int64) : (y &&& 63).toInt32.toInt64.toUInt64 &&& Int64.toUInt64 63 = y.toInt32.toInt64.toUInt64 &&& Int64.toUInt64 63 := congrArg Int64.toUInt64 (l_sh y)
/-- end, steps, value, slots stay -/
def mKp (M0 M : mKt) : Prop := (∀ id, id = 408 ∨ id = 410 → M.1 id = M0.1 id) ∧ M.2.1 = M0.2.1 ∧ M.2.2.1 = M0.2.2.1
section ZMK
variable {M0 M M' : mKt}
theorem mKp.rf : mKp M M := ⟨fun _ _ => rfl, rfl, rfl⟩
theorem mKp.i (h : mKp M0 M) {id : Nat} {x : Int32} (hid : id ≠ 408 ∧ id ≠ 410) : mKp M0 (va_up M.1 id x, M.2) := ⟨fun j hj => (show va_up M.1 id x j = M.1 j from va_up_ne _ _ (by omega)).trans (h.1 j hj), h.2⟩
theorem mKp.ht (hq : mKp M0 M) {h : Nat} : mKp M0 (mHt M h) := hq.i (by decide)
theorem mKp.pu (hq : mKp M0 M) {h : Nat} {x : Int64} : mKp M0 (mPu M h x) := ⟨fun j hj => (show va_up M.1 406 (nI (h + 1)) j = M.1 j from va_up_ne _ _ (by omega)).trans (hq.1 j hj), hq.2⟩
theorem mKp.ke (h : mKp M0 M) {b t k : Nat} (hk : mKe M M' b t k) : mKp M0 M' := ⟨fun j hj => (hk.2.1 j (by omega)).trans (h.1 j hj), hk.2.2.1.trans h.2.1, hk.2.2.2.1.trans h.2.2⟩
theorem mKp.en (h : mKp M0 M) {n f t p l dp : Nat} (hk : enC M M' n f t p l dp) : mKp M0 M' := ⟨fun j hj => (hk.2.2.2.1 j (by omega) (by omega) (by omega)).trans (h.1 j hj), hk.2.2.2.2.1.trans h.2.1, hk.2.2.2.2.2.1.trans h.2.2⟩
theorem mKp.tr {M1 : mKt} (h : mKp M0 M) (h2 : mKp M M1) : mKp M0 M1 := ⟨fun j hj => (h2.1 j hj).trans (h.1 j hj), h2.2.1.trans h.2.1, h2.2.2.trans h.2.2⟩
end ZMK
/-- what a step of the class leaves -/
def cP (v : zV) (U : aU) (M0 M : mKt) (R : Nat × aM) : Prop := (R.1 = 0 → cRp v R.2 M ∧ mKp M0 M) ∧ (¬ R.1 = 0 → M.1 408 = nI R.1 ∧ M.1 410 = M0.1 410 ∧ M.2.1 = M0.2.1 ∧ M.2.2.1 = M0.2.2.1 ∧ (∀ k, k < 1024 → mBy M k = U.1 k) ∧ M.1 411 = nI U.2.1)
theorem cP.go {v : zV} {U : aU} {M0 M : mKt} {A : aM} (hC : cRp v A M) (hK : mKp M0 M) : cP v U M0 M (0, A) := ⟨fun _ => ⟨hC, hK⟩, fun h9 => absurd rfl h9⟩
theorem cP.no {v : zV} {U : aU} {M0 M : mKt} {A : aM} {c : Nat} {G : aF} {Fs : List aF} {x : Int32} (hc : ¬ c = 0) (hx : x = nI c) (hC : cRp v (G :: Fs, U) M) (hK : mKp M0 M) : cP v U M0 (va_up M.1 408 x, M.2) (c, A) := ⟨fun h9 => absurd h9 hc, fun _ => ⟨(show va_up M.1 408 x 408 = _ from va_up_self _ _ _).trans hx, (show va_up M.1 408 x 410 = M.1 410 from va_up_ne _ _ (by decide)).trans (hK.1 410 (Or.inr rfl)), hK.2.1, hK.2.2, hC.2.2.2.1, (show va_up M.1 408 x 411 = M.1 411 from va_up_ne _ _ (by decide)).trans hC.2.2.2.2⟩⟩
set_option maxRecDepth 100000 in
set_option maxHeartbeats 4000000 in
theorem c_mkeep {l : Launch} {N0 t0 : Nat} {D : va_G} {cy : Nat → ClassId} {S : zS} {X : Nat → Prop} {S0 : zS} {ad : Nat → Nat} {W : zO} {M : mKt} (hM : nZ t0 X S0 ad W M S) {b h k : Nat} (hh : M.1 406 = nI h) (hk1 : k ≤ 1) (hkh : k ≤ h) (hh2 : h ≤ 2720) (hb : b + k ≤ 2720) : zMv l yX3_keep (zws yX3_keep cX3_keep 5 none) { frames := 1, cells := 0, slots := 0, locals := 22 } N0 t0 D cy S [.ref (ad 14), .int (nI b), .int (nI k)] (fun S' => ∃ M', nZ t0 X S0 ad W M' S' ∧ mKe M M' b h k) 0 0 := by
  refine zMv.of (cc := cX3_keep) (maxL := 5) (ret := none) (by decide) rfl (Nat.le_of_ble_eq_true rfl) ?_
  intro p e s m args below meth c F G hr hlk hnm
  refine r_iload_n F dX3_keep_0 rfl ?_
  refine r_if_ne (tgt := 8) F dX3_keep_1 (by decide) (fun c1 => ?_) (fun c1 => ?_)
  · have hk0 : k = 1 := by
      have : ¬ k = 0 := fun h9 => c1 (by rw [h9]; rfl)
      omega
    refine r_aload_n F dX3_keep_8 rfl ?_
    refine c_Vl (ci := 4) F G (c_mpop hM.1 hM.2.1 hM.2.2 (h := h - 1) (by rw [show h - 1 + 1 = h by omega]; exact hh) (by omega)) (cwV 0 F.2.2.2.2 (zgV km_X3_128 ki_X3_pop ke_X3_X3_pop kn_X3 ko_X3_pop) rfl rfl rfl ⟨rfl, hd_yX3_pop⟩ ⟨Nat.le_of_ble_eq_true rfl, Nat.le_of_ble_eq_true rfl⟩) rfl (by decide) hM.A rfl rfl (Nat.le_of_ble_eq_true rfl) dX3_keep_9 ⟨Nat.le_of_ble_eq_true rfl, Nat.le_of_ble_eq_true rfl⟩ (fun r9 S9 h9 => ?_)
    obtain ⟨h9a, h9b⟩ := h9
    have hM : nZ t0 X S0 ad W (mHt M (h - 1)) S9 := ⟨hM.1, hM.2.1, h9b⟩
    subst h9a
    refine r_lstore_n F dX3_keep_12 (by decide) ?_
    refine r_aload_n F dX3_keep_13 rfl ?_
    refine r_iload_n F dX3_keep_14 rfl ?_
    refine pm_height F G hM dX3_keep_15 (fun S hM => ?_)
    refine r_iload_n F dX3_keep_18 rfl ?_
    refine r_if_eq (tgt := 27) F dX3_keep_19 (by decide) (fun h9 => absurd h9 c1) (fun _ => ?_)
    refine r_aload_n F dX3_keep_22 rfl ?_
    refine r_lload_n F dX3_keep_23 rfl ?_
    refine c_Vv (ci := 4) F G (c_mpush hM.1 hM.2.1 hM.2.2 (h := b) (show va_up (va_up M.1 406 (nI (h - 1))) 406 (nI b) 406 = nI b from va_up_self _ _ _) (by omega)) (cwV 1 F.2.2.2.2 (zgV km_X3_93 ki_X3_push ke_X3_X3_push kn_X3 ko_X3_push) rfl rfl rfl ⟨rfl, hd_yX3_push⟩ ⟨Nat.le_of_ble_eq_true rfl, Nat.le_of_ble_eq_true rfl⟩) rfl (by decide) hM.A rfl rfl (Nat.le_of_ble_eq_true rfl) dX3_keep_24 ⟨Nat.le_of_ble_eq_true rfl, Nat.le_of_ble_eq_true rfl⟩ (fun S24 h24 => ?_)
    have hM := (⟨hM.1, hM.2.1, h24⟩ : nZ t0 X S0 ad W _ S24)
    exact e_vret F hr hlk ⟨_, hM, (show va_up (va_up (va_up M.1 406 (nI (h - 1))) 406 (nI b)) 406 (nI (b + 1)) 406 = nI (b + k) from by rw [va_up_self, hk0]), fun id hid => (show va_up (va_up (va_up M.1 406 (nI (h - 1))) 406 (nI b)) 406 (nI (b + 1)) id = M.1 id from by rw [va_up_ne _ _ hid, va_up_ne _ _ hid, va_up_ne _ _ hid]), rfl, rfl, rfl, fun j hj => up_L (hj.resolve_right (by omega)), Or.inr up_Ls⟩ (by decide) (by decide) dX3_keep_27
  · refine r_lconst (v := 0) F dX3_keep_4 (by decide) ?_
    refine r_goto (tgt := 12) F dX3_keep_5 (by decide) ?_
    refine r_lstore_n F dX3_keep_12 (by decide) ?_
    refine r_aload_n F dX3_keep_13 rfl ?_
    refine r_iload_n F dX3_keep_14 rfl ?_
    refine pm_height F G hM dX3_keep_15 (fun S hM => ?_)
    refine r_iload_n F dX3_keep_18 rfl ?_
    refine r_if_eq (tgt := 27) F dX3_keep_19 (by decide) (fun _ => ?_) (fun h9 => absurd (by exact c1) h9)
    have hk0 : k = 0 := by have c9 := c1; rw [nl0, nI_eq (by omega) (by omega)] at c9; exact c9
    subst hk0
    exact e_vret F hr hlk ⟨_, hM, (show va_up M.1 406 (nI b) 406 = nI (b + 0) from va_up_self _ _ _), fun id hid => va_up_ne _ _ hid, rfl, rfl, rfl, fun _ _ => rfl, Or.inl rfl⟩ (by decide) (by decide) dX3_keep_27
set_option maxRecDepth 100000 in
set_option maxHeartbeats 4000000 in
theorem c_mselect {l : Launch} {N0 t0 : Nat} {D : va_G} {cy : Nat → ClassId} {S : zS} {X : Nat → Prop} {S0 : zS} {ad : Nat → Nat} {W : zO} {M : mKt} (hM : nZ t0 X S0 ad W M S) {v : zV} {Fr : aF} {Fs : List aF} {U : aU} (hC : cRp v (Fr :: Fs, U) M) (hB : fBz v Fr Fs + fh Fr ≤ 2719) (h3 : 3 ≤ fh Fr) : zMv l yX3_select (zws yX3_select cX3_select 7 none) { frames := 1, cells := 0, slots := 0, locals := 22 } N0 t0 D cy S [.ref (ad 14)] (fun S' => ∃ M', nZ t0 X S0 ad W M' S' ∧ cRp v (fPu (fDr Fr 3) (if (fv Fr (fh Fr - 1)) = 0 then (fv Fr (fh Fr - 2)) else (fv Fr (fh Fr - 3))) :: Fs, U) M' ∧ mKp M M') 0 0 := by
  refine zMv.of (cc := cX3_select) (maxL := 7) (ret := none) (by decide) rfl (Nat.le_of_ble_eq_true rfl) ?_
  intro p e s m args below meth c F G hr hlk hnm
  obtain ⟨M0, eM0⟩ : ∃ M0, M0 = M := ⟨_, rfl⟩
  have hKp : mKp M0 M := by rw [eM0]; exact mKp.rf
  rw [← eM0]
  clear eM0
  refine r_aload_n F dX3_select_0 rfl ?_
  refine c_Vl (ci := 4) F G (c_mpop hM.1 hM.2.1 hM.2.2 (h := fBz v Fr Fs + (fh Fr - 1)) (by rw [show M.1 406 = nI (fBz v Fr Fs + fh Fr) from hC.H, show fBz v Fr Fs + fh Fr = fBz v Fr Fs + (fh Fr - 1) + 1 from by omega]) (by omega)) (cwV 0 F.2.2.2.2 (zgV km_X3_128 ki_X3_pop ke_X3_X3_pop kn_X3 ko_X3_pop) rfl rfl rfl ⟨rfl, hd_yX3_pop⟩ ⟨Nat.le_of_ble_eq_true rfl, Nat.le_of_ble_eq_true rfl⟩) rfl (by decide) hM.A rfl rfl (Nat.le_of_ble_eq_true rfl) dX3_select_1 ⟨Nat.le_of_ble_eq_true rfl, Nat.le_of_ble_eq_true rfl⟩ (fun r1 S1 h1 => ?_)
  obtain ⟨h1a, h1b⟩ := h1
  have hM : nZ t0 X S0 ad W (mHt M (fBz v Fr Fs + (fh Fr - 1))) S1 := ⟨hM.1, hM.2.1, h1b⟩
  rw [show M.2.2.2.1 (fBz v Fr Fs + (fh Fr - 1)) = fv Fr (fh Fr - 1) from hC.va (j := fh Fr - 1) (show fh Fr - 1 < fh Fr by omega)] at h1a
  subst h1a
  have hC : cRp v (fDr Fr 1 :: Fs, U) (mHt M (fBz v Fr Fs + (fh Fr - 1))) := hC.dr (m := 1) (show 1 ≤ fh Fr by omega)
  have hKp := hKp.ht (h := fBz v Fr Fs + (fh Fr - 1))
  generalize mHt M (fBz v Fr Fs + (fh Fr - 1)) = M at hM hC hKp
  refine r_lstore_n F dX3_select_4 (by decide) ?_
  refine r_aload_n F dX3_select_5 rfl ?_
  refine c_Vl (ci := 4) F G (c_mpop hM.1 hM.2.1 hM.2.2 (h := fBz v Fr Fs + (fh Fr - 2)) (by rw [show M.1 406 = nI (fBz v Fr Fs + (fh Fr - 1)) from hC.H, show fBz v Fr Fs + (fh Fr - 1) = fBz v Fr Fs + (fh Fr - 2) + 1 from by omega]) (by omega)) (cwV 0 F.2.2.2.2 (zgV km_X3_128 ki_X3_pop ke_X3_X3_pop kn_X3 ko_X3_pop) rfl rfl rfl ⟨rfl, hd_yX3_pop⟩ ⟨Nat.le_of_ble_eq_true rfl, Nat.le_of_ble_eq_true rfl⟩) rfl (by decide) hM.A rfl rfl (Nat.le_of_ble_eq_true rfl) dX3_select_6 ⟨Nat.le_of_ble_eq_true rfl, Nat.le_of_ble_eq_true rfl⟩ (fun r6 S6 h6 => ?_)
  obtain ⟨h6a, h6b⟩ := h6
  have hM : nZ t0 X S0 ad W (mHt M (fBz v Fr Fs + (fh Fr - 2))) S6 := ⟨hM.1, hM.2.1, h6b⟩
  rw [show M.2.2.2.1 (fBz v Fr Fs + (fh Fr - 2)) = fv Fr (fh Fr - 2) from hC.va (j := fh Fr - 2) (show fh Fr - 2 < (fh Fr - 1) by omega)] at h6a
  subst h6a
  have hC : cRp v (fDr Fr 2 :: Fs, U) (mHt M (fBz v Fr Fs + (fh Fr - 2))) := hC.dr (m := 1) (show 1 ≤ (fh Fr - 1) by omega)
  have hKp := hKp.ht (h := fBz v Fr Fs + (fh Fr - 2))
  generalize mHt M (fBz v Fr Fs + (fh Fr - 2)) = M at hM hC hKp
  refine r_lstore_n F dX3_select_9 (by decide) ?_
  refine r_aload_n F dX3_select_10 rfl ?_
  refine c_Vl (ci := 4) F G (c_mpop hM.1 hM.2.1 hM.2.2 (h := fBz v Fr Fs + (fh Fr - 3)) (by rw [show M.1 406 = nI (fBz v Fr Fs + (fh Fr - 2)) from hC.H, show fBz v Fr Fs + (fh Fr - 2) = fBz v Fr Fs + (fh Fr - 3) + 1 from by omega]) (by omega)) (cwV 0 F.2.2.2.2 (zgV km_X3_128 ki_X3_pop ke_X3_X3_pop kn_X3 ko_X3_pop) rfl rfl rfl ⟨rfl, hd_yX3_pop⟩ ⟨Nat.le_of_ble_eq_true rfl, Nat.le_of_ble_eq_true rfl⟩) rfl (by decide) hM.A rfl rfl (Nat.le_of_ble_eq_true rfl) dX3_select_11 ⟨Nat.le_of_ble_eq_true rfl, Nat.le_of_ble_eq_true rfl⟩ (fun r11 S11 h11 => ?_)
  obtain ⟨h11a, h11b⟩ := h11
  have hM : nZ t0 X S0 ad W (mHt M (fBz v Fr Fs + (fh Fr - 3))) S11 := ⟨hM.1, hM.2.1, h11b⟩
  rw [show M.2.2.2.1 (fBz v Fr Fs + (fh Fr - 3)) = fv Fr (fh Fr - 3) from hC.va (j := fh Fr - 3) (show fh Fr - 3 < (fh Fr - 2) by omega)] at h11a
  subst h11a
  have hC : cRp v (fDr Fr 3 :: Fs, U) (mHt M (fBz v Fr Fs + (fh Fr - 3))) := hC.dr (m := 1) (show 1 ≤ (fh Fr - 2) by omega)
  have hKp := hKp.ht (h := fBz v Fr Fs + (fh Fr - 3))
  generalize mHt M (fBz v Fr Fs + (fh Fr - 3)) = M at hM hC hKp
  refine r_lstore F dX3_select_14 (by decide) ?_
  refine r_aload_n F dX3_select_16 rfl ?_
  refine r_lload_n F dX3_select_17 rfl ?_
  refine r_lconst (v := 0) F dX3_select_18 (by decide) ?_
  refine r_lcmp F dX3_select_19 ?_
  refine r_if_eq (tgt := 28) F dX3_select_20 (by decide) (fun c20 => ?_) (fun c20 => ?_)
  · refine r_lload_n F dX3_select_28 rfl ?_
    refine c_Vv (ci := 4) F G (c_mpush hM.1 hM.2.1 hM.2.2 (h := fBz v Fr Fs + (fh Fr - 3)) (x := (fv Fr (fh Fr - 2))) hC.H (by omega)) (cwV 1 F.2.2.2.2 (zgV km_X3_93 ki_X3_push ke_X3_X3_push kn_X3 ko_X3_push) rfl rfl rfl ⟨rfl, hd_yX3_push⟩ ⟨Nat.le_of_ble_eq_true rfl, Nat.le_of_ble_eq_true rfl⟩) rfl (by decide) hM.A rfl rfl (Nat.le_of_ble_eq_true rfl) dX3_select_29 ⟨Nat.le_of_ble_eq_true rfl, Nat.le_of_ble_eq_true rfl⟩ (fun S29 h29 => ?_)
    have hM : nZ t0 X S0 ad W (mPu M (fBz v Fr Fs + (fh Fr - 3)) (fv Fr (fh Fr - 2))) S29 := ⟨hM.1, hM.2.1, h29⟩
    have hC : cRp v (fPu (fDr Fr 3) (fv Fr (fh Fr - 2)) :: Fs, U) (mPu M (fBz v Fr Fs + (fh Fr - 3)) (fv Fr (fh Fr - 2))) := hC.pu
    have hKp := hKp.pu (h := fBz v Fr Fs + (fh Fr - 3)) (x := (fv Fr (fh Fr - 2)))
    generalize mPu M (fBz v Fr Fs + (fh Fr - 3)) (fv Fr (fh Fr - 2)) = M at hM hC hKp
    refine e_vret F hr hlk ⟨_, hM, ?_, hKp⟩ (by decide) (by decide) dX3_select_32
    rw [if_pos ((lg_cmp_eq _ _).mp c20)]
    exact hC
  · refine r_lload F dX3_select_23 rfl ?_
    refine r_goto (tgt := 29) F dX3_select_25 (by decide) ?_
    refine c_Vv (ci := 4) F G (c_mpush hM.1 hM.2.1 hM.2.2 (h := fBz v Fr Fs + (fh Fr - 3)) (x := (fv Fr (fh Fr - 3))) hC.H (by omega)) (cwV 1 F.2.2.2.2 (zgV km_X3_93 ki_X3_push ke_X3_X3_push kn_X3 ko_X3_push) rfl rfl rfl ⟨rfl, hd_yX3_push⟩ ⟨Nat.le_of_ble_eq_true rfl, Nat.le_of_ble_eq_true rfl⟩) rfl (by decide) hM.A rfl rfl (Nat.le_of_ble_eq_true rfl) dX3_select_29 ⟨Nat.le_of_ble_eq_true rfl, Nat.le_of_ble_eq_true rfl⟩ (fun S29 h29 => ?_)
    have hM : nZ t0 X S0 ad W (mPu M (fBz v Fr Fs + (fh Fr - 3)) (fv Fr (fh Fr - 3))) S29 := ⟨hM.1, hM.2.1, h29⟩
    have hC : cRp v (fPu (fDr Fr 3) (fv Fr (fh Fr - 3)) :: Fs, U) (mPu M (fBz v Fr Fs + (fh Fr - 3)) (fv Fr (fh Fr - 3))) := hC.pu
    have hKp := hKp.pu (h := fBz v Fr Fs + (fh Fr - 3)) (x := (fv Fr (fh Fr - 3)))
    generalize mPu M (fBz v Fr Fs + (fh Fr - 3)) (fv Fr (fh Fr - 3)) = M at hM hC hKp
    refine e_vret F hr hlk ⟨_, hM, ?_, hKp⟩ (by decide) (by decide) dX3_select_32
    rw [if_neg (fun h9 => c20 ((lg_cmp_eq _ _).mpr h9))]
    exact hC
set_option maxRecDepth 100000 in
set_option maxHeartbeats 4000000 in
theorem c_lcmp9 {l : Launch} {N0 t0 : Nat} {D : va_G} {cy : Nat → ClassId} {S : zS} {x y : Int64} : zMi l yJ13_compare_74951 (zws yJ13_compare_74951 cJ13_compare_74951 4 (some .int)) { frames := 0, cells := 0, slots := 0, locals := 0 } N0 t0 D cy S [.long x, .long y] (fun r S' => ((x < y ∧ r < 0) ∨ (¬ x < y ∧ 0 ≤ r)) ∧ S' = S) 0 0 := by
  refine zMi.of (cc := cJ13_compare_74951) (maxL := 4) (ret := (some .int)) (by decide) rfl (Nat.le_of_ble_eq_true rfl) ?_
  intro p e s m args below meth c F G hr hlk hnm
  refine r_lload_n F dJ13_compare_74951_0 rfl ?_
  refine r_lload_n F dJ13_compare_74951_1 rfl ?_
  refine r_lcmp F dJ13_compare_74951_2 ?_
  refine r_if_ge (tgt := 10) F dJ13_compare_74951_3 (by decide) (fun c3 => ?_) (fun c3 => ?_)
  · refine r_lload_n F dJ13_compare_74951_10 rfl ?_
    refine r_lload_n F dJ13_compare_74951_11 rfl ?_
    refine r_lcmp F dJ13_compare_74951_12 ?_
    refine r_if_ne (tgt := 20) F dJ13_compare_74951_13 (by decide) (fun c13 => ?_) (fun c13 => ?_)
    · refine r_iconst (v := 1) F dJ13_compare_74951_20 (by decide) ?_
      exact e_iret F hr hlk ⟨Or.inr ⟨(by have c9 := c3; rw [lg_cmp_ge] at c9; exact Int64.not_lt.mpr c9), by decide⟩, rfl⟩ (by decide) (by decide) dJ13_compare_74951_21
    · refine r_iconst (v := 0) F dJ13_compare_74951_16 (by decide) ?_
      refine r_goto (tgt := 21) F dJ13_compare_74951_17 (by decide) ?_
      exact e_iret F hr hlk ⟨Or.inr ⟨(by have c9 := c3; rw [lg_cmp_ge] at c9; exact Int64.not_lt.mpr c9), by decide⟩, rfl⟩ (by decide) (by decide) dJ13_compare_74951_21
  · refine r_iconst (v := -1) F dJ13_compare_74951_6 (by decide) ?_
    refine r_goto (tgt := 21) F dJ13_compare_74951_7 (by decide) ?_
    exact e_iret F hr hlk ⟨Or.inl ⟨(by have c9 := c3; rw [lg_cmp_ge] at c9; exact Int64.not_le.mp c9), by decide⟩, rfl⟩ (by decide) (by decide) dJ13_compare_74951_21
set_option maxRecDepth 100000 in
set_option maxHeartbeats 4000000 in
theorem c_lcmpU {l : Launch} {N0 t0 : Nat} {D : va_G} {cy : Nat → ClassId} {S : zS} {x y : Int64} : zMi l yJ13_compareUnsigned_74951 (zws yJ13_compareUnsigned_74951 cJ13_compareUnsigned_74951 4 (some .int)) { frames := 1, cells := 0, slots := 0, locals := 23 } N0 t0 D cy S [.long x, .long y] (fun r S' => ((x + -9223372036854775808 < y + -9223372036854775808 ∧ r < 0) ∨ (¬ x + -9223372036854775808 < y + -9223372036854775808 ∧ 0 ≤ r)) ∧ S' = S) 0 0 := by
  refine zMi.of (cc := cJ13_compareUnsigned_74951) (maxL := 4) (ret := (some .int)) (by decide) rfl (Nat.le_of_ble_eq_true rfl) ?_
  intro p e s m args below meth c F G hr hlk hnm
  refine r_lload_n F dJ13_compareUnsigned_74951_0 rfl ?_
  refine r_ldcL (v := -9223372036854775808) F (zin kv_J13_168) dJ13_compareUnsigned_74951_1 ?_
  refine r_ladd F dJ13_compareUnsigned_74951_4 ?_
  refine r_lload_n F dJ13_compareUnsigned_74951_5 rfl ?_
  refine r_ldcL (v := -9223372036854775808) F (zin kv_J13_168) dJ13_compareUnsigned_74951_6 ?_
  refine r_ladd F dJ13_compareUnsigned_74951_9 ?_
  refine c_Si F G c_lcmp9 (va_cwS 2 F.2.2.2.2 (zgS km_J13_302 ks_J13_compare_74951 kn_J13 ko_J13_compare_74951) rfl rfl rfl hd_yJ13_compare_74951 ⟨Nat.le_of_ble_eq_true rfl, Nat.le_of_ble_eq_true rfl⟩) rfl rfl (Nat.le_of_ble_eq_true rfl) dJ13_compareUnsigned_74951_10 ⟨Nat.le_of_ble_eq_true rfl, Nat.le_of_ble_eq_true rfl⟩ (fun r10 S10 h10 => ?_)
  exact e_iret F hr hlk h10 (by decide) (by decide) dJ13_compareUnsigned_74951_13
set_option maxRecDepth 100000 in
set_option maxHeartbeats 4000000 in
theorem c_wreckon {l : Launch} {N0 t0 : Nat} {D : va_G} {cy : Nat → ClassId} {S : zS} {w : Nat} {x y : Int64} (hw3 : 3 ≤ w) (hw16 : w ≤ 16) (h67 : ¬ (w = 6 ∨ w = 7)) : zMl l yX10_reckon (zws yX10_reckon cX10_reckon 5 (some .long)) { frames := 2, cells := 0, slots := 0, locals := 46 } N0 t0 D cy S [.int (nI w), .long x, .long y] (fun r S' => r = wkd w x y ∧ S' = S) 0 0 := by
  refine zMl.of (cc := cX10_reckon) (maxL := 5) (ret := (some .long)) (by decide) rfl (Nat.le_of_ble_eq_true rfl) ?_
  intro p e s m args below meth c F G hr hlk hnm
  refine r_iload_n F dX10_reckon_0 rfl ?_
  rcases (show (w = 16) ∨ (w = 3) ∨ (w = 4) ∨ (w = 5) ∨ (w = 8) ∨ (w = 9) ∨ (w = 10) ∨ (w = 11) ∨ (w = 12) ∨ (w = 13) ∨ (w = 14) ∨ (w = 15) by omega) with w1 | w1 | w1 | w1 | w1 | w1 | w1 | w1 | w1 | w1 | w1 | w1
  · refine r_table (off := 130) (tgt := 131) F dX10_reckon_1 ((show ∀ w : Nat, w < 36 → (w = 16) → (if (nI w).toInt < 3 ∨ 15 < (nI w).toInt then some (130 : Int) else (#[67, 71, 75, 130, 130, 79, 83, 87, 91, 96, 101, 106, 118] : Array Int)[((nI w).toInt - 3).toNat]?) = some (130 : Int) from by decide) (w) (by omega) w1) (by decide) ?_
    refine r_lload_n F dX10_reckon_131 rfl ?_
    refine r_lload_n F dX10_reckon_132 rfl ?_
    refine c_Si F G c_lcmpU (va_cwS 2 F.2.2.2.2 (zgS km_X10_7 ks_J13_compareUnsigned_74951 kn_J13 ko_J13_compareUnsigned_74951) rfl rfl rfl hd_yJ13_compareUnsigned_74951 ⟨Nat.le_of_ble_eq_true rfl, Nat.le_of_ble_eq_true rfl⟩) rfl rfl (Nat.le_of_ble_eq_true rfl) dX10_reckon_133 ⟨Nat.le_of_ble_eq_true rfl, Nat.le_of_ble_eq_true rfl⟩ (fun r133 S133 h133 => ?_)
    obtain ⟨h133a, h133b⟩ := h133
    have h133c := h133b.symm
    subst h133c
    refine r_if_ge (tgt := 143) F dX10_reckon_136 (by decide) (fun c136 => ?_) (fun c136 => ?_)
    · refine r_lconst (v := 0) F dX10_reckon_143 (by decide) ?_
      refine e_lret F hr hlk ⟨?_, rfl⟩ (by decide) (by decide) dX10_reckon_144
      unfold wkd
      rw [if_neg (by omega), if_neg (by omega), if_neg (by omega), if_neg (by omega), if_neg (by omega), if_neg (by omega), if_neg (by omega), if_neg (by omega), if_neg (by omega), if_neg (by omega), if_neg (by omega), if_neg (by omega), if_neg (by omega)]
      rw [if_neg (h133a.elim (fun h9 => absurd c136 (Int32.not_le.mpr h9.2)) (fun h9 => h9.1))]
    · refine r_lconst (v := 1) F dX10_reckon_139 (by decide) ?_
      refine r_goto (tgt := 144) F dX10_reckon_140 (by decide) ?_
      refine e_lret F hr hlk ⟨?_, rfl⟩ (by decide) (by decide) dX10_reckon_144
      unfold wkd
      rw [if_neg (by omega), if_neg (by omega), if_neg (by omega), if_neg (by omega), if_neg (by omega), if_neg (by omega), if_neg (by omega), if_neg (by omega), if_neg (by omega), if_neg (by omega), if_neg (by omega), if_neg (by omega), if_neg (by omega)]
      rw [if_pos (h133a.elim (fun h9 => h9.1) (fun h9 => absurd h9.2 c136))]
  · refine r_table (off := 67) (tgt := 68) F dX10_reckon_1 ((show ∀ w : Nat, w < 36 → (w = 3) → (if (nI w).toInt < 3 ∨ 15 < (nI w).toInt then some (130 : Int) else (#[67, 71, 75, 130, 130, 79, 83, 87, 91, 96, 101, 106, 118] : Array Int)[((nI w).toInt - 3).toNat]?) = some (67 : Int) from by decide) (w) (by omega) w1) (by decide) ?_
    refine r_lload_n F dX10_reckon_68 rfl ?_
    refine r_lload_n F dX10_reckon_69 rfl ?_
    refine r_ladd F dX10_reckon_70 ?_
    refine e_lret F hr hlk ⟨?_, rfl⟩ (by decide) (by decide) dX10_reckon_71
    unfold wkd
    rw [if_pos w1]
  · refine r_table (off := 71) (tgt := 72) F dX10_reckon_1 ((show ∀ w : Nat, w < 36 → (w = 4) → (if (nI w).toInt < 3 ∨ 15 < (nI w).toInt then some (130 : Int) else (#[67, 71, 75, 130, 130, 79, 83, 87, 91, 96, 101, 106, 118] : Array Int)[((nI w).toInt - 3).toNat]?) = some (71 : Int) from by decide) (w) (by omega) w1) (by decide) ?_
    refine r_lload_n F dX10_reckon_72 rfl ?_
    refine r_lload_n F dX10_reckon_73 rfl ?_
    refine r_lsub F dX10_reckon_74 ?_
    refine e_lret F hr hlk ⟨?_, rfl⟩ (by decide) (by decide) dX10_reckon_75
    unfold wkd
    rw [if_neg (by omega), if_pos w1]
  · refine r_table (off := 75) (tgt := 76) F dX10_reckon_1 ((show ∀ w : Nat, w < 36 → (w = 5) → (if (nI w).toInt < 3 ∨ 15 < (nI w).toInt then some (130 : Int) else (#[67, 71, 75, 130, 130, 79, 83, 87, 91, 96, 101, 106, 118] : Array Int)[((nI w).toInt - 3).toNat]?) = some (75 : Int) from by decide) (w) (by omega) w1) (by decide) ?_
    refine r_lload_n F dX10_reckon_76 rfl ?_
    refine r_lload_n F dX10_reckon_77 rfl ?_
    refine r_lmul F dX10_reckon_78 ?_
    refine e_lret F hr hlk ⟨?_, rfl⟩ (by decide) (by decide) dX10_reckon_79
    unfold wkd
    rw [if_neg (by omega), if_neg (by omega), if_pos w1]
  · refine r_table (off := 79) (tgt := 80) F dX10_reckon_1 ((show ∀ w : Nat, w < 36 → (w = 8) → (if (nI w).toInt < 3 ∨ 15 < (nI w).toInt then some (130 : Int) else (#[67, 71, 75, 130, 130, 79, 83, 87, 91, 96, 101, 106, 118] : Array Int)[((nI w).toInt - 3).toNat]?) = some (79 : Int) from by decide) (w) (by omega) w1) (by decide) ?_
    refine r_lload_n F dX10_reckon_80 rfl ?_
    refine r_lload_n F dX10_reckon_81 rfl ?_
    refine r_land F dX10_reckon_82 ?_
    refine e_lret F hr hlk ⟨?_, rfl⟩ (by decide) (by decide) dX10_reckon_83
    unfold wkd
    rw [if_neg (by omega), if_neg (by omega), if_neg (by omega), if_neg (by omega), if_neg (by omega), if_pos w1]
  · refine r_table (off := 83) (tgt := 84) F dX10_reckon_1 ((show ∀ w : Nat, w < 36 → (w = 9) → (if (nI w).toInt < 3 ∨ 15 < (nI w).toInt then some (130 : Int) else (#[67, 71, 75, 130, 130, 79, 83, 87, 91, 96, 101, 106, 118] : Array Int)[((nI w).toInt - 3).toNat]?) = some (83 : Int) from by decide) (w) (by omega) w1) (by decide) ?_
    refine r_lload_n F dX10_reckon_84 rfl ?_
    refine r_lload_n F dX10_reckon_85 rfl ?_
    refine r_lor F dX10_reckon_86 ?_
    refine e_lret F hr hlk ⟨?_, rfl⟩ (by decide) (by decide) dX10_reckon_87
    unfold wkd
    rw [if_neg (by omega), if_neg (by omega), if_neg (by omega), if_neg (by omega), if_neg (by omega), if_neg (by omega), if_pos w1]
  · refine r_table (off := 87) (tgt := 88) F dX10_reckon_1 ((show ∀ w : Nat, w < 36 → (w = 10) → (if (nI w).toInt < 3 ∨ 15 < (nI w).toInt then some (130 : Int) else (#[67, 71, 75, 130, 130, 79, 83, 87, 91, 96, 101, 106, 118] : Array Int)[((nI w).toInt - 3).toNat]?) = some (87 : Int) from by decide) (w) (by omega) w1) (by decide) ?_
    refine r_lload_n F dX10_reckon_88 rfl ?_
    refine r_lload_n F dX10_reckon_89 rfl ?_
    refine r_lxor F dX10_reckon_90 ?_
    refine e_lret F hr hlk ⟨?_, rfl⟩ (by decide) (by decide) dX10_reckon_91
    unfold wkd
    rw [if_neg (by omega), if_neg (by omega), if_neg (by omega), if_neg (by omega), if_neg (by omega), if_neg (by omega), if_neg (by omega), if_pos w1]
  · refine r_table (off := 91) (tgt := 92) F dX10_reckon_1 ((show ∀ w : Nat, w < 36 → (w = 11) → (if (nI w).toInt < 3 ∨ 15 < (nI w).toInt then some (130 : Int) else (#[67, 71, 75, 130, 130, 79, 83, 87, 91, 96, 101, 106, 118] : Array Int)[((nI w).toInt - 3).toNat]?) = some (91 : Int) from by decide) (w) (by omega) w1) (by decide) ?_
    refine r_lload_n F dX10_reckon_92 rfl ?_
    refine r_lload_n F dX10_reckon_93 rfl ?_
    refine r_l2i F dX10_reckon_94 ?_
    refine r_lshl F dX10_reckon_95 ?_
    refine e_lret F hr hlk ⟨?_, rfl⟩ (by decide) (by decide) dX10_reckon_96
    unfold wkd
    rw [if_neg (by omega), if_neg (by omega), if_neg (by omega), if_neg (by omega), if_neg (by omega), if_neg (by omega), if_neg (by omega), if_neg (by omega), if_pos w1]
    rw [l_sh]
  · refine r_table (off := 96) (tgt := 97) F dX10_reckon_1 ((show ∀ w : Nat, w < 36 → (w = 12) → (if (nI w).toInt < 3 ∨ 15 < (nI w).toInt then some (130 : Int) else (#[67, 71, 75, 130, 130, 79, 83, 87, 91, 96, 101, 106, 118] : Array Int)[((nI w).toInt - 3).toNat]?) = some (96 : Int) from by decide) (w) (by omega) w1) (by decide) ?_
    refine r_lload_n F dX10_reckon_97 rfl ?_
    refine r_lload_n F dX10_reckon_98 rfl ?_
    refine r_l2i F dX10_reckon_99 ?_
    refine r_lshr F dX10_reckon_100 ?_
    refine e_lret F hr hlk ⟨?_, rfl⟩ (by decide) (by decide) dX10_reckon_101
    unfold wkd
    rw [if_neg (by omega), if_neg (by omega), if_neg (by omega), if_neg (by omega), if_neg (by omega), if_neg (by omega), if_neg (by omega), if_neg (by omega), if_neg (by omega), if_pos w1]
    rw [l_sh]
  · refine r_table (off := 101) (tgt := 102) F dX10_reckon_1 ((show ∀ w : Nat, w < 36 → (w = 13) → (if (nI w).toInt < 3 ∨ 15 < (nI w).toInt then some (130 : Int) else (#[67, 71, 75, 130, 130, 79, 83, 87, 91, 96, 101, 106, 118] : Array Int)[((nI w).toInt - 3).toNat]?) = some (101 : Int) from by decide) (w) (by omega) w1) (by decide) ?_
    refine r_lload_n F dX10_reckon_102 rfl ?_
    refine r_lload_n F dX10_reckon_103 rfl ?_
    refine r_l2i F dX10_reckon_104 ?_
    refine r_lushr F dX10_reckon_105 ?_
    refine e_lret F hr hlk ⟨?_, rfl⟩ (by decide) (by decide) dX10_reckon_106
    unfold wkd
    rw [if_neg (by omega), if_neg (by omega), if_neg (by omega), if_neg (by omega), if_neg (by omega), if_neg (by omega), if_neg (by omega), if_neg (by omega), if_neg (by omega), if_neg (by omega), if_pos w1]
    rw [l_shU]
  · refine r_table (off := 106) (tgt := 107) F dX10_reckon_1 ((show ∀ w : Nat, w < 36 → (w = 14) → (if (nI w).toInt < 3 ∨ 15 < (nI w).toInt then some (130 : Int) else (#[67, 71, 75, 130, 130, 79, 83, 87, 91, 96, 101, 106, 118] : Array Int)[((nI w).toInt - 3).toNat]?) = some (106 : Int) from by decide) (w) (by omega) w1) (by decide) ?_
    refine r_lload_n F dX10_reckon_107 rfl ?_
    refine r_lload_n F dX10_reckon_108 rfl ?_
    refine r_lcmp F dX10_reckon_109 ?_
    refine r_if_ne (tgt := 117) F dX10_reckon_110 (by decide) (fun c110 => ?_) (fun c110 => ?_)
    · refine r_lconst (v := 0) F dX10_reckon_117 (by decide) ?_
      refine e_lret F hr hlk ⟨?_, rfl⟩ (by decide) (by decide) dX10_reckon_118
      unfold wkd
      rw [if_neg (by omega), if_neg (by omega), if_neg (by omega), if_neg (by omega), if_neg (by omega), if_neg (by omega), if_neg (by omega), if_neg (by omega), if_neg (by omega), if_neg (by omega), if_neg (by omega), if_pos w1]
      rw [if_neg (fun h9 => c110 ((lg_cmp_eq _ _).mpr h9))]
    · refine r_lconst (v := 1) F dX10_reckon_113 (by decide) ?_
      refine r_goto (tgt := 118) F dX10_reckon_114 (by decide) ?_
      refine e_lret F hr hlk ⟨?_, rfl⟩ (by decide) (by decide) dX10_reckon_118
      unfold wkd
      rw [if_neg (by omega), if_neg (by omega), if_neg (by omega), if_neg (by omega), if_neg (by omega), if_neg (by omega), if_neg (by omega), if_neg (by omega), if_neg (by omega), if_neg (by omega), if_neg (by omega), if_pos w1]
      rw [if_pos ((lg_cmp_eq _ _).mp c110)]
  · refine r_table (off := 118) (tgt := 119) F dX10_reckon_1 ((show ∀ w : Nat, w < 36 → (w = 15) → (if (nI w).toInt < 3 ∨ 15 < (nI w).toInt then some (130 : Int) else (#[67, 71, 75, 130, 130, 79, 83, 87, 91, 96, 101, 106, 118] : Array Int)[((nI w).toInt - 3).toNat]?) = some (118 : Int) from by decide) (w) (by omega) w1) (by decide) ?_
    refine r_lload_n F dX10_reckon_119 rfl ?_
    refine r_lload_n F dX10_reckon_120 rfl ?_
    refine r_lcmp F dX10_reckon_121 ?_
    refine r_if_ge (tgt := 129) F dX10_reckon_122 (by decide) (fun c122 => ?_) (fun c122 => ?_)
    · refine r_lconst (v := 0) F dX10_reckon_129 (by decide) ?_
      refine e_lret F hr hlk ⟨?_, rfl⟩ (by decide) (by decide) dX10_reckon_130
      unfold wkd
      rw [if_neg (by omega), if_neg (by omega), if_neg (by omega), if_neg (by omega), if_neg (by omega), if_neg (by omega), if_neg (by omega), if_neg (by omega), if_neg (by omega), if_neg (by omega), if_neg (by omega), if_neg (by omega), if_pos w1]
      rw [if_neg (Int64.not_lt.mpr ((lg_cmp_ge _ _).mp c122))]
    · refine r_lconst (v := 1) F dX10_reckon_125 (by decide) ?_
      refine r_goto (tgt := 130) F dX10_reckon_126 (by decide) ?_
      refine e_lret F hr hlk ⟨?_, rfl⟩ (by decide) (by decide) dX10_reckon_130
      unfold wkd
      rw [if_neg (by omega), if_neg (by omega), if_neg (by omega), if_neg (by omega), if_neg (by omega), if_neg (by omega), if_neg (by omega), if_neg (by omega), if_neg (by omega), if_neg (by omega), if_neg (by omega), if_neg (by omega), if_pos w1]
      rw [if_pos (Int64.not_le.mp (fun h9 => c122 ((lg_cmp_ge _ _).mpr h9)))]
set_option maxRecDepth 100000 in
set_option maxHeartbeats 4000000 in
theorem c_mdivide {l : Launch} {N0 t0 : Nat} {D : va_G} {cy : Nat → ClassId} {S : zS} {X : Nat → Prop} {S0 : zS} {ad : Nat → Nat} {W : zO} {M : mKt} (hM : nZ t0 X S0 ad W M S) {v : zV} {Fr : aF} {Fs : List aF} {U : aU} (hC : cRp v (Fr :: Fs, U) M) (hB : fBz v Fr Fs + fh Fr ≤ 2719) {w : Nat} {x y : Int64} {A9 : aM} (hw : w = 6 ∨ w = 7) : zMv l yX3_divide (zws yX3_divide cX3_divide 6 none) { frames := 1, cells := 0, slots := 0, locals := 22 } N0 t0 D cy S [.ref (ad 14), .int (nI w), .long x, .long y] (fun S' => ∃ M', nZ t0 X S0 ad W M' S' ∧ cP v U M M' (if badQ w x y then (2, A9) else (0, fPu Fr (wkd w x y) :: Fs, U))) 0 0 := by
  refine zMv.of (cc := cX3_divide) (maxL := 6) (ret := none) (by decide) rfl (Nat.le_of_ble_eq_true rfl) ?_
  intro p e s m args below meth c F G hr hlk hnm
  obtain ⟨M0, eM0⟩ : ∃ M0, M0 = M := ⟨_, rfl⟩
  have hKp : mKp M0 M := by rw [eM0]; exact mKp.rf
  rw [← eM0]
  clear eM0
  have hwi : ∀ a, a < 100 → (nI w = nI a ↔ w = a) := fun a ha => nI_eq (by omega) (by omega)
  refine r_lload F dX3_divide_0 rfl ?_
  refine r_lconst (v := 0) F dX3_divide_2 (by decide) ?_
  refine r_lcmp F dX3_divide_3 ?_
  refine r_if_eq (tgt := 30) F dX3_divide_4 (by decide) (fun c4 => ?_) (fun c4 => ?_)
  · refine r_aload_n F dX3_divide_30 rfl ?_
    refine r_iconst (v := 2) F dX3_divide_31 (by decide) ?_
    refine pm_end F G hM dX3_divide_32 (fun S hM => ?_)
    refine r_goto (tgt := 59) F dX3_divide_35 (by decide) ?_
    refine e_vret F hr hlk ⟨_, hM, ?_⟩ (by decide) (by decide) dX3_divide_59
    rw [if_pos (show badQ w x y from Or.inl ⟨hw, (lg_cmp_eq _ _).mp c4⟩)]
    exact cP.no (by decide) rfl hC hKp
  · refine r_iload_n F dX3_divide_7 rfl ?_
    refine r_bipush (v := 6) F dX3_divide_8 (by decide) ?_
    refine r_icmp_ne (tgt := 38) F dX3_divide_10 (by decide) (fun c10 => ?_) (fun c10 => ?_)
    · have hnb : ¬ badQ w x y := fun h9 => h9.elim (fun h8 => c4 ((lg_cmp_eq _ _).mpr h8.2)) (fun h8 => c10 ((hwi 6 (by decide)).mpr h8.1))
      have hy0 : ¬ y = 0 := fun h9 => c4 ((lg_cmp_eq _ _).mpr h9)
      refine r_aload_n F dX3_divide_38 rfl ?_
      refine r_iload_n F dX3_divide_39 rfl ?_
      refine r_bipush (v := 6) F dX3_divide_40 (by decide) ?_
      refine r_icmp_ne (tgt := 52) F dX3_divide_42 (by decide) (fun c42 => ?_) (fun c42 => ?_)
      · refine r_lload_n F dX3_divide_52 rfl ?_
        refine r_lload F dX3_divide_53 rfl ?_
        refine r_lrem F dX3_divide_55 hy0 ?_
        have e7 : w = 7 := hw.resolve_left (fun h9 => c42 ((hwi 6 (by decide)).mpr h9))
        have ev : x - x / y * y = wkd w x y := by
          unfold wkd
          rw [if_neg (by omega), if_neg (by omega), if_neg (by omega), if_neg (by omega), if_pos e7]
          by_cases h9 : y = -1
          · rw [if_pos h9, h9]
            exact l_div1 x
          · rw [if_neg h9]
        rw [ev]
        refine c_Vv (ci := 4) F G (c_mpush hM.1 hM.2.1 hM.2.2 (h := fBz v Fr Fs + fh Fr) (x := (wkd w x y)) hC.H (by omega)) (cwV 1 F.2.2.2.2 (zgV km_X3_93 ki_X3_push ke_X3_X3_push kn_X3 ko_X3_push) rfl rfl rfl ⟨rfl, hd_yX3_push⟩ ⟨Nat.le_of_ble_eq_true rfl, Nat.le_of_ble_eq_true rfl⟩) rfl (by decide) hM.A rfl rfl (Nat.le_of_ble_eq_true rfl) dX3_divide_56 ⟨Nat.le_of_ble_eq_true rfl, Nat.le_of_ble_eq_true rfl⟩ (fun S56 h56 => ?_)
        have hM : nZ t0 X S0 ad W (mPu M (fBz v Fr Fs + fh Fr) (wkd w x y)) S56 := ⟨hM.1, hM.2.1, h56⟩
        have hC : cRp v (fPu Fr (wkd w x y) :: Fs, U) (mPu M (fBz v Fr Fs + fh Fr) (wkd w x y)) := hC.pu
        have hKp := hKp.pu (h := fBz v Fr Fs + fh Fr) (x := (wkd w x y))
        generalize mPu M (fBz v Fr Fs + fh Fr) (wkd w x y) = M at hM hC hKp
        refine e_vret F hr hlk ⟨_, hM, ?_⟩ (by decide) (by decide) dX3_divide_59
        rw [if_neg hnb]
        exact cP.go hC hKp
      · refine r_lload_n F dX3_divide_45 rfl ?_
        refine r_lload F dX3_divide_46 rfl ?_
        refine r_ldiv F dX3_divide_48 hy0 ?_
        refine r_goto (tgt := 56) F dX3_divide_49 (by decide) ?_
        have e6 : w = 6 := (hwi 6 (by decide)).mp c42
        have ev : x / y = wkd w x y := by
          unfold wkd
          rw [if_neg (by omega), if_neg (by omega), if_neg (by omega), if_pos e6]
        rw [ev]
        refine c_Vv (ci := 4) F G (c_mpush hM.1 hM.2.1 hM.2.2 (h := fBz v Fr Fs + fh Fr) (x := (wkd w x y)) hC.H (by omega)) (cwV 1 F.2.2.2.2 (zgV km_X3_93 ki_X3_push ke_X3_X3_push kn_X3 ko_X3_push) rfl rfl rfl ⟨rfl, hd_yX3_push⟩ ⟨Nat.le_of_ble_eq_true rfl, Nat.le_of_ble_eq_true rfl⟩) rfl (by decide) hM.A rfl rfl (Nat.le_of_ble_eq_true rfl) dX3_divide_56 ⟨Nat.le_of_ble_eq_true rfl, Nat.le_of_ble_eq_true rfl⟩ (fun S56 h56 => ?_)
        have hM : nZ t0 X S0 ad W (mPu M (fBz v Fr Fs + fh Fr) (wkd w x y)) S56 := ⟨hM.1, hM.2.1, h56⟩
        have hC : cRp v (fPu Fr (wkd w x y) :: Fs, U) (mPu M (fBz v Fr Fs + fh Fr) (wkd w x y)) := hC.pu
        have hKp := hKp.pu (h := fBz v Fr Fs + fh Fr) (x := (wkd w x y))
        generalize mPu M (fBz v Fr Fs + fh Fr) (wkd w x y) = M at hM hC hKp
        refine e_vret F hr hlk ⟨_, hM, ?_⟩ (by decide) (by decide) dX3_divide_59
        rw [if_neg hnb]
        exact cP.go hC hKp
    · refine r_lload_n F dX3_divide_13 rfl ?_
      refine r_ldcL (v := -9223372036854775808) F (zin kv_X3_183) dX3_divide_14 ?_
      refine r_lcmp F dX3_divide_17 ?_
      refine r_if_ne (tgt := 38) F dX3_divide_18 (by decide) (fun c18 => ?_) (fun c18 => ?_)
      · have hnb : ¬ badQ w x y := fun h9 => h9.elim (fun h8 => c4 ((lg_cmp_eq _ _).mpr h8.2)) (fun h8 => c18 ((lg_cmp_eq _ _).mpr h8.2.1))
        have hy0 : ¬ y = 0 := fun h9 => c4 ((lg_cmp_eq _ _).mpr h9)
        refine r_aload_n F dX3_divide_38 rfl ?_
        refine r_iload_n F dX3_divide_39 rfl ?_
        refine r_bipush (v := 6) F dX3_divide_40 (by decide) ?_
        refine r_icmp_ne (tgt := 52) F dX3_divide_42 (by decide) (fun c42 => ?_) (fun c42 => ?_)
        · refine r_lload_n F dX3_divide_52 rfl ?_
          refine r_lload F dX3_divide_53 rfl ?_
          refine r_lrem F dX3_divide_55 hy0 ?_
          have e7 : w = 7 := hw.resolve_left (fun h9 => c42 ((hwi 6 (by decide)).mpr h9))
          have ev : x - x / y * y = wkd w x y := by
            unfold wkd
            rw [if_neg (by omega), if_neg (by omega), if_neg (by omega), if_neg (by omega), if_pos e7]
            by_cases h9 : y = -1
            · rw [if_pos h9, h9]
              exact l_div1 x
            · rw [if_neg h9]
          rw [ev]
          refine c_Vv (ci := 4) F G (c_mpush hM.1 hM.2.1 hM.2.2 (h := fBz v Fr Fs + fh Fr) (x := (wkd w x y)) hC.H (by omega)) (cwV 1 F.2.2.2.2 (zgV km_X3_93 ki_X3_push ke_X3_X3_push kn_X3 ko_X3_push) rfl rfl rfl ⟨rfl, hd_yX3_push⟩ ⟨Nat.le_of_ble_eq_true rfl, Nat.le_of_ble_eq_true rfl⟩) rfl (by decide) hM.A rfl rfl (Nat.le_of_ble_eq_true rfl) dX3_divide_56 ⟨Nat.le_of_ble_eq_true rfl, Nat.le_of_ble_eq_true rfl⟩ (fun S56 h56 => ?_)
          have hM : nZ t0 X S0 ad W (mPu M (fBz v Fr Fs + fh Fr) (wkd w x y)) S56 := ⟨hM.1, hM.2.1, h56⟩
          have hC : cRp v (fPu Fr (wkd w x y) :: Fs, U) (mPu M (fBz v Fr Fs + fh Fr) (wkd w x y)) := hC.pu
          have hKp := hKp.pu (h := fBz v Fr Fs + fh Fr) (x := (wkd w x y))
          generalize mPu M (fBz v Fr Fs + fh Fr) (wkd w x y) = M at hM hC hKp
          refine e_vret F hr hlk ⟨_, hM, ?_⟩ (by decide) (by decide) dX3_divide_59
          rw [if_neg hnb]
          exact cP.go hC hKp
        · refine r_lload_n F dX3_divide_45 rfl ?_
          refine r_lload F dX3_divide_46 rfl ?_
          refine r_ldiv F dX3_divide_48 hy0 ?_
          refine r_goto (tgt := 56) F dX3_divide_49 (by decide) ?_
          have e6 : w = 6 := (hwi 6 (by decide)).mp c42
          have ev : x / y = wkd w x y := by
            unfold wkd
            rw [if_neg (by omega), if_neg (by omega), if_neg (by omega), if_pos e6]
          rw [ev]
          refine c_Vv (ci := 4) F G (c_mpush hM.1 hM.2.1 hM.2.2 (h := fBz v Fr Fs + fh Fr) (x := (wkd w x y)) hC.H (by omega)) (cwV 1 F.2.2.2.2 (zgV km_X3_93 ki_X3_push ke_X3_X3_push kn_X3 ko_X3_push) rfl rfl rfl ⟨rfl, hd_yX3_push⟩ ⟨Nat.le_of_ble_eq_true rfl, Nat.le_of_ble_eq_true rfl⟩) rfl (by decide) hM.A rfl rfl (Nat.le_of_ble_eq_true rfl) dX3_divide_56 ⟨Nat.le_of_ble_eq_true rfl, Nat.le_of_ble_eq_true rfl⟩ (fun S56 h56 => ?_)
          have hM : nZ t0 X S0 ad W (mPu M (fBz v Fr Fs + fh Fr) (wkd w x y)) S56 := ⟨hM.1, hM.2.1, h56⟩
          have hC : cRp v (fPu Fr (wkd w x y) :: Fs, U) (mPu M (fBz v Fr Fs + fh Fr) (wkd w x y)) := hC.pu
          have hKp := hKp.pu (h := fBz v Fr Fs + fh Fr) (x := (wkd w x y))
          generalize mPu M (fBz v Fr Fs + fh Fr) (wkd w x y) = M at hM hC hKp
          refine e_vret F hr hlk ⟨_, hM, ?_⟩ (by decide) (by decide) dX3_divide_59
          rw [if_neg hnb]
          exact cP.go hC hKp
      · refine r_lload F dX3_divide_21 rfl ?_
        refine r_ldcL (v := -1) F (zin kv_X3_185) dX3_divide_23 ?_
        refine r_lcmp F dX3_divide_26 ?_
        refine r_if_ne (tgt := 38) F dX3_divide_27 (by decide) (fun c27 => ?_) (fun c27 => ?_)
        · have hnb : ¬ badQ w x y := fun h9 => h9.elim (fun h8 => c4 ((lg_cmp_eq _ _).mpr h8.2)) (fun h8 => c27 ((lg_cmp_eq _ _).mpr h8.2.2))
          have hy0 : ¬ y = 0 := fun h9 => c4 ((lg_cmp_eq _ _).mpr h9)
          refine r_aload_n F dX3_divide_38 rfl ?_
          refine r_iload_n F dX3_divide_39 rfl ?_
          refine r_bipush (v := 6) F dX3_divide_40 (by decide) ?_
          refine r_icmp_ne (tgt := 52) F dX3_divide_42 (by decide) (fun c42 => ?_) (fun c42 => ?_)
          · refine r_lload_n F dX3_divide_52 rfl ?_
            refine r_lload F dX3_divide_53 rfl ?_
            refine r_lrem F dX3_divide_55 hy0 ?_
            have e7 : w = 7 := hw.resolve_left (fun h9 => c42 ((hwi 6 (by decide)).mpr h9))
            have ev : x - x / y * y = wkd w x y := by
              unfold wkd
              rw [if_neg (by omega), if_neg (by omega), if_neg (by omega), if_neg (by omega), if_pos e7]
              by_cases h9 : y = -1
              · rw [if_pos h9, h9]
                exact l_div1 x
              · rw [if_neg h9]
            rw [ev]
            refine c_Vv (ci := 4) F G (c_mpush hM.1 hM.2.1 hM.2.2 (h := fBz v Fr Fs + fh Fr) (x := (wkd w x y)) hC.H (by omega)) (cwV 1 F.2.2.2.2 (zgV km_X3_93 ki_X3_push ke_X3_X3_push kn_X3 ko_X3_push) rfl rfl rfl ⟨rfl, hd_yX3_push⟩ ⟨Nat.le_of_ble_eq_true rfl, Nat.le_of_ble_eq_true rfl⟩) rfl (by decide) hM.A rfl rfl (Nat.le_of_ble_eq_true rfl) dX3_divide_56 ⟨Nat.le_of_ble_eq_true rfl, Nat.le_of_ble_eq_true rfl⟩ (fun S56 h56 => ?_)
            have hM : nZ t0 X S0 ad W (mPu M (fBz v Fr Fs + fh Fr) (wkd w x y)) S56 := ⟨hM.1, hM.2.1, h56⟩
            have hC : cRp v (fPu Fr (wkd w x y) :: Fs, U) (mPu M (fBz v Fr Fs + fh Fr) (wkd w x y)) := hC.pu
            have hKp := hKp.pu (h := fBz v Fr Fs + fh Fr) (x := (wkd w x y))
            generalize mPu M (fBz v Fr Fs + fh Fr) (wkd w x y) = M at hM hC hKp
            refine e_vret F hr hlk ⟨_, hM, ?_⟩ (by decide) (by decide) dX3_divide_59
            rw [if_neg hnb]
            exact cP.go hC hKp
          · refine r_lload_n F dX3_divide_45 rfl ?_
            refine r_lload F dX3_divide_46 rfl ?_
            refine r_ldiv F dX3_divide_48 hy0 ?_
            refine r_goto (tgt := 56) F dX3_divide_49 (by decide) ?_
            have e6 : w = 6 := (hwi 6 (by decide)).mp c42
            have ev : x / y = wkd w x y := by
              unfold wkd
              rw [if_neg (by omega), if_neg (by omega), if_neg (by omega), if_pos e6]
            rw [ev]
            refine c_Vv (ci := 4) F G (c_mpush hM.1 hM.2.1 hM.2.2 (h := fBz v Fr Fs + fh Fr) (x := (wkd w x y)) hC.H (by omega)) (cwV 1 F.2.2.2.2 (zgV km_X3_93 ki_X3_push ke_X3_X3_push kn_X3 ko_X3_push) rfl rfl rfl ⟨rfl, hd_yX3_push⟩ ⟨Nat.le_of_ble_eq_true rfl, Nat.le_of_ble_eq_true rfl⟩) rfl (by decide) hM.A rfl rfl (Nat.le_of_ble_eq_true rfl) dX3_divide_56 ⟨Nat.le_of_ble_eq_true rfl, Nat.le_of_ble_eq_true rfl⟩ (fun S56 h56 => ?_)
            have hM : nZ t0 X S0 ad W (mPu M (fBz v Fr Fs + fh Fr) (wkd w x y)) S56 := ⟨hM.1, hM.2.1, h56⟩
            have hC : cRp v (fPu Fr (wkd w x y) :: Fs, U) (mPu M (fBz v Fr Fs + fh Fr) (wkd w x y)) := hC.pu
            have hKp := hKp.pu (h := fBz v Fr Fs + fh Fr) (x := (wkd w x y))
            generalize mPu M (fBz v Fr Fs + fh Fr) (wkd w x y) = M at hM hC hKp
            refine e_vret F hr hlk ⟨_, hM, ?_⟩ (by decide) (by decide) dX3_divide_59
            rw [if_neg hnb]
            exact cP.go hC hKp
        · refine r_aload_n F dX3_divide_30 rfl ?_
          refine r_iconst (v := 2) F dX3_divide_31 (by decide) ?_
          refine pm_end F G hM dX3_divide_32 (fun S hM => ?_)
          refine r_goto (tgt := 59) F dX3_divide_35 (by decide) ?_
          refine e_vret F hr hlk ⟨_, hM, ?_⟩ (by decide) (by decide) dX3_divide_59
          rw [if_pos (show badQ w x y from Or.inr ⟨(hwi 6 (by decide)).mp c10, (lg_cmp_eq _ _).mp c18, (lg_cmp_eq _ _).mp c27⟩)]
          exact cP.no (by decide) rfl hC hKp
set_option maxRecDepth 100000 in
set_option maxHeartbeats 4000000 in
theorem c_mreckon {l : Launch} {N0 t0 : Nat} {D : va_G} {cy : Nat → ClassId} {S : zS} {X : Nat → Prop} {S0 : zS} {ad : Nat → Nat} {W : zO} {M : mKt} (hM : nZ t0 X S0 ad W M S) {v : zV} {Fr : aF} {Fs : List aF} {U : aU} (hC : cRp v (Fr :: Fs, U) M) (hB : fBz v Fr Fs + fh Fr ≤ 2719) {w : Nat} {A9 : aM} (hw3 : 3 ≤ w) (hw16 : w ≤ 16) (h2 : 2 ≤ fh Fr) : zMv l yX3_reckon (zws yX3_reckon cX3_reckon 6 none) { frames := 3, cells := 0, slots := 0, locals := 70 } N0 t0 D cy S [.ref (ad 14), .int (nI w)] (fun S' => ∃ M', nZ t0 X S0 ad W M' S' ∧ cP v U M M' (if badQ w (fv Fr (fh Fr - 2)) (fv Fr (fh Fr - 1)) then (2, A9) else (0, fPu (fDr Fr 2) (wkd w (fv Fr (fh Fr - 2)) (fv Fr (fh Fr - 1))) :: Fs, U))) 0 0 := by
  refine zMv.of (cc := cX3_reckon) (maxL := 6) (ret := none) (by decide) rfl (Nat.le_of_ble_eq_true rfl) ?_
  intro p e s m args below meth c F G hr hlk hnm
  obtain ⟨M0, eM0⟩ : ∃ M0, M0 = M := ⟨_, rfl⟩
  have hKp : mKp M0 M := by rw [eM0]; exact mKp.rf
  rw [← eM0]
  clear eM0
  have hwi : ∀ a, a < 100 → (nI w = nI a ↔ w = a) := fun a ha => nI_eq (by omega) (by omega)
  refine r_aload_n F dX3_reckon_0 rfl ?_
  refine c_Vl (ci := 4) F G (c_mpop hM.1 hM.2.1 hM.2.2 (h := fBz v Fr Fs + (fh Fr - 1)) (by rw [show M.1 406 = nI (fBz v Fr Fs + fh Fr) from hC.H, show fBz v Fr Fs + fh Fr = fBz v Fr Fs + (fh Fr - 1) + 1 from by omega]) (by omega)) (cwV 0 F.2.2.2.2 (zgV km_X3_128 ki_X3_pop ke_X3_X3_pop kn_X3 ko_X3_pop) rfl rfl rfl ⟨rfl, hd_yX3_pop⟩ ⟨Nat.le_of_ble_eq_true rfl, Nat.le_of_ble_eq_true rfl⟩) rfl (by decide) hM.A rfl rfl (Nat.le_of_ble_eq_true rfl) dX3_reckon_1 ⟨Nat.le_of_ble_eq_true rfl, Nat.le_of_ble_eq_true rfl⟩ (fun r1 S1 h1 => ?_)
  obtain ⟨h1a, h1b⟩ := h1
  have hM : nZ t0 X S0 ad W (mHt M (fBz v Fr Fs + (fh Fr - 1))) S1 := ⟨hM.1, hM.2.1, h1b⟩
  rw [show M.2.2.2.1 (fBz v Fr Fs + (fh Fr - 1)) = fv Fr (fh Fr - 1) from hC.va (j := fh Fr - 1) (show fh Fr - 1 < fh Fr by omega)] at h1a
  subst h1a
  have hC : cRp v (fDr Fr 1 :: Fs, U) (mHt M (fBz v Fr Fs + (fh Fr - 1))) := hC.dr (m := 1) (show 1 ≤ fh Fr by omega)
  have hKp := hKp.ht (h := fBz v Fr Fs + (fh Fr - 1))
  generalize mHt M (fBz v Fr Fs + (fh Fr - 1)) = M at hM hC hKp
  refine r_lstore_n F dX3_reckon_4 (by decide) ?_
  refine r_aload_n F dX3_reckon_5 rfl ?_
  refine c_Vl (ci := 4) F G (c_mpop hM.1 hM.2.1 hM.2.2 (h := fBz v Fr Fs + (fh Fr - 2)) (by rw [show M.1 406 = nI (fBz v Fr Fs + (fh Fr - 1)) from hC.H, show fBz v Fr Fs + (fh Fr - 1) = fBz v Fr Fs + (fh Fr - 2) + 1 from by omega]) (by omega)) (cwV 0 F.2.2.2.2 (zgV km_X3_128 ki_X3_pop ke_X3_X3_pop kn_X3 ko_X3_pop) rfl rfl rfl ⟨rfl, hd_yX3_pop⟩ ⟨Nat.le_of_ble_eq_true rfl, Nat.le_of_ble_eq_true rfl⟩) rfl (by decide) hM.A rfl rfl (Nat.le_of_ble_eq_true rfl) dX3_reckon_6 ⟨Nat.le_of_ble_eq_true rfl, Nat.le_of_ble_eq_true rfl⟩ (fun r6 S6 h6 => ?_)
  obtain ⟨h6a, h6b⟩ := h6
  have hM : nZ t0 X S0 ad W (mHt M (fBz v Fr Fs + (fh Fr - 2))) S6 := ⟨hM.1, hM.2.1, h6b⟩
  rw [show M.2.2.2.1 (fBz v Fr Fs + (fh Fr - 2)) = fv Fr (fh Fr - 2) from hC.va (j := fh Fr - 2) (show fh Fr - 2 < (fh Fr - 1) by omega)] at h6a
  subst h6a
  have hC : cRp v (fDr Fr 2 :: Fs, U) (mHt M (fBz v Fr Fs + (fh Fr - 2))) := hC.dr (m := 1) (show 1 ≤ (fh Fr - 1) by omega)
  have hKp := hKp.ht (h := fBz v Fr Fs + (fh Fr - 2))
  generalize mHt M (fBz v Fr Fs + (fh Fr - 2)) = M at hM hC hKp
  refine r_lstore F dX3_reckon_9 (by decide) ?_
  refine r_iload_n F dX3_reckon_11 rfl ?_
  refine r_bipush (v := 6) F dX3_reckon_12 (by decide) ?_
  refine r_icmp_eq (tgt := 23) F dX3_reckon_14 (by decide) (fun c14 => ?_) (fun c14 => ?_)
  · refine r_aload_n F dX3_reckon_23 rfl ?_
    refine r_iload_n F dX3_reckon_24 rfl ?_
    refine r_lload F dX3_reckon_25 rfl ?_
    refine r_lload_n F dX3_reckon_27 rfl ?_
    refine c_Vv (ci := 4) F G (c_mdivide hM (Fr := fDr Fr 2) hC (show fBz v Fr Fs + (fh Fr - 2) ≤ 2719 by omega) (A9 := A9) (Or.inl ((hwi 6 (by decide)).mp c14))) (cwV 3 F.2.2.2.2 (zgV km_X3_176 ki_X3_divide ke_X3_X3_divide kn_X3 ko_X3_divide) rfl rfl rfl ⟨rfl, hd_yX3_divide⟩ ⟨Nat.le_of_ble_eq_true rfl, Nat.le_of_ble_eq_true rfl⟩) rfl (by decide) hM.A rfl rfl (Nat.le_of_ble_eq_true rfl) dX3_reckon_28 ⟨Nat.le_of_ble_eq_true rfl, Nat.le_of_ble_eq_true rfl⟩ (fun S28 h28 => ?_)
    obtain ⟨M1, hM, hP⟩ := h28
    refine r_goto (tgt := 45) F dX3_reckon_31 (by decide) ?_
    refine e_vret F hr hlk ⟨M1, hM, ?_⟩ (by decide) (by decide) dX3_reckon_45
    exact ⟨fun h9 => ⟨(hP.1 h9).1, hKp.tr (hP.1 h9).2⟩, fun h9 => ⟨(hP.2 h9).1, (hP.2 h9).2.1.trans (hKp.1 410 (Or.inr rfl)), (hP.2 h9).2.2.1.trans hKp.2.1, (hP.2 h9).2.2.2.1.trans hKp.2.2, (hP.2 h9).2.2.2.2⟩⟩
  · refine r_iload_n F dX3_reckon_17 rfl ?_
    refine r_bipush (v := 7) F dX3_reckon_18 (by decide) ?_
    refine r_icmp_ne (tgt := 34) F dX3_reckon_20 (by decide) (fun c20 => ?_) (fun c20 => ?_)
    · have h67 : ¬ (w = 6 ∨ w = 7) := fun h9 => h9.elim (fun h8 => c14 ((hwi 6 (by decide)).mpr h8)) (fun h8 => c20 ((hwi 7 (by decide)).mpr h8))
      refine r_aload_n F dX3_reckon_34 rfl ?_
      refine r_iload_n F dX3_reckon_35 rfl ?_
      refine r_lload F dX3_reckon_36 rfl ?_
      refine r_lload_n F dX3_reckon_38 rfl ?_
      refine c_Sl F G (c_wreckon (w := w) (x := (fv Fr (fh Fr - 2))) (y := (fv Fr (fh Fr - 1))) hw3 hw16 h67) (va_cwS 3 F.2.2.2.2 (zgS km_X3_180 ks_X10_reckon kn_X10 ko_X10_reckon) rfl rfl rfl hd_yX10_reckon ⟨Nat.le_of_ble_eq_true rfl, Nat.le_of_ble_eq_true rfl⟩) rfl rfl (Nat.le_of_ble_eq_true rfl) dX3_reckon_39 ⟨Nat.le_of_ble_eq_true rfl, Nat.le_of_ble_eq_true rfl⟩ (fun r39 S39 h39 => ?_)
      obtain ⟨h39a, h39b⟩ := h39
      have h39c := h39b.symm
      subst h39c
      subst h39a
      refine c_Vv (ci := 4) F G (c_mpush hM.1 hM.2.1 hM.2.2 (h := fBz v Fr Fs + (fh Fr - 2)) (x := (wkd w (fv Fr (fh Fr - 2)) (fv Fr (fh Fr - 1)))) hC.H (by omega)) (cwV 1 F.2.2.2.2 (zgV km_X3_93 ki_X3_push ke_X3_X3_push kn_X3 ko_X3_push) rfl rfl rfl ⟨rfl, hd_yX3_push⟩ ⟨Nat.le_of_ble_eq_true rfl, Nat.le_of_ble_eq_true rfl⟩) rfl (by decide) hM.A rfl rfl (Nat.le_of_ble_eq_true rfl) dX3_reckon_42 ⟨Nat.le_of_ble_eq_true rfl, Nat.le_of_ble_eq_true rfl⟩ (fun S42 h42 => ?_)
      have hM : nZ t0 X S0 ad W (mPu M (fBz v Fr Fs + (fh Fr - 2)) (wkd w (fv Fr (fh Fr - 2)) (fv Fr (fh Fr - 1)))) S42 := ⟨hM.1, hM.2.1, h42⟩
      have hC : cRp v (fPu (fDr Fr 2) (wkd w (fv Fr (fh Fr - 2)) (fv Fr (fh Fr - 1))) :: Fs, U) (mPu M (fBz v Fr Fs + (fh Fr - 2)) (wkd w (fv Fr (fh Fr - 2)) (fv Fr (fh Fr - 1)))) := hC.pu
      have hKp := hKp.pu (h := fBz v Fr Fs + (fh Fr - 2)) (x := (wkd w (fv Fr (fh Fr - 2)) (fv Fr (fh Fr - 1))))
      generalize mPu M (fBz v Fr Fs + (fh Fr - 2)) (wkd w (fv Fr (fh Fr - 2)) (fv Fr (fh Fr - 1))) = M at hM hC hKp
      refine e_vret F hr hlk ⟨M, hM, ?_⟩ (by decide) (by decide) dX3_reckon_45
      rw [if_neg (show ¬ badQ w (fv Fr (fh Fr - 2)) (fv Fr (fh Fr - 1)) from fun h9 => h9.elim (fun h8 => h67 h8.1) (fun h8 => h67 (Or.inl h8.1)))]
      exact cP.go hC hKp
    · refine r_aload_n F dX3_reckon_23 rfl ?_
      refine r_iload_n F dX3_reckon_24 rfl ?_
      refine r_lload F dX3_reckon_25 rfl ?_
      refine r_lload_n F dX3_reckon_27 rfl ?_
      refine c_Vv (ci := 4) F G (c_mdivide hM (Fr := fDr Fr 2) hC (show fBz v Fr Fs + (fh Fr - 2) ≤ 2719 by omega) (A9 := A9) (Or.inr ((hwi 7 (by decide)).mp c20))) (cwV 3 F.2.2.2.2 (zgV km_X3_176 ki_X3_divide ke_X3_X3_divide kn_X3 ko_X3_divide) rfl rfl rfl ⟨rfl, hd_yX3_divide⟩ ⟨Nat.le_of_ble_eq_true rfl, Nat.le_of_ble_eq_true rfl⟩) rfl (by decide) hM.A rfl rfl (Nat.le_of_ble_eq_true rfl) dX3_reckon_28 ⟨Nat.le_of_ble_eq_true rfl, Nat.le_of_ble_eq_true rfl⟩ (fun S28 h28 => ?_)
      obtain ⟨M1, hM, hP⟩ := h28
      refine r_goto (tgt := 45) F dX3_reckon_31 (by decide) ?_
      refine e_vret F hr hlk ⟨M1, hM, ?_⟩ (by decide) (by decide) dX3_reckon_45
      exact ⟨fun h9 => ⟨(hP.1 h9).1, hKp.tr (hP.1 h9).2⟩, fun h9 => ⟨(hP.2 h9).1, (hP.2 h9).2.1.trans (hKp.1 410 (Or.inr rfl)), (hP.2 h9).2.2.1.trans hKp.2.1, (hP.2 h9).2.2.2.1.trans hKp.2.2, (hP.2 h9).2.2.2.2⟩⟩
set_option maxRecDepth 100000 in
set_option maxHeartbeats 4000000 in
theorem c_mloaded {l : Launch} {N0 t0 : Nat} {D : va_G} {cy : Nat → ClassId} {S : zS} {X : Nat → Prop} {S0 : zS} {ad : Nat → Nat} {W : zO} {M : mKt} (hM : nZ t0 X S0 ad W M S) {a n : Nat} (hn : n ≤ 8) (ha : a + n ≤ 1024) : zMl l yX3_loaded (zws yX3_loaded cX3_loaded 6 (some .long)) { frames := 0, cells := 0, slots := 0, locals := 0 } N0 t0 D cy S [.ref (ad 14), .int (nI a), .int (nI n)] (fun r S' => r = ldC (mBy M) a n ∧ S' = S) 0 0 := by
  refine zMl.of (cc := cX3_loaded) (maxL := 6) (ret := (some .long)) (by decide) rfl (Nat.le_of_ble_eq_true rfl) ?_
  intro p e s m args below meth c F G hr hlk hnm
  refine r_lconst (v := 0) F dX3_loaded_0 (by decide) ?_
  refine r_lstore_n F dX3_loaded_1 (by decide) ?_
  refine r_iconst (v := 0) F dX3_loaded_2 (by decide) ?_
  refine r_istore F dX3_loaded_3 (by decide) ?_
  refine zsub (lv' := [(3, .long 0), (5, .int (nI 0)), (0, .ref (ad 14)), (1, .int (nI a)), (2, .int (nI n))]) (by simp [zs1, zs2, lv_args, Value.category, show ((1 : Fin 4) : Nat) = 1 from rfl, show ((2 : Fin 4) : Nat) = 2 from rfl, show ((3 : Fin 4) : Nat) = 3 from rfl, show nI 0 = (0 : Int32) from rfl]) ?_
  refine z_loop (fun c9 S9 lv => ∃ j, j + c9 = n ∧ S = S9 ∧ lv = [(3, .long (ldC (mBy M) a j)), (5, .int (nI j)), (0, .ref (ad 14)), (1, .int (nI a)), (2, .int (nI n))]) n ?_ ⟨0, Nat.zero_add _, rfl, rfl⟩
  rintro c9 S9 lv ⟨j, hjc, rfl, rfl⟩ ih
  refine r_iload F dX3_loaded_5 rfl ?_
  refine r_iload_n F dX3_loaded_7 rfl ?_
  refine r_icmp_ge (tgt := 40) F dX3_loaded_8 (by decide) (fun c8 => ?_) (fun c8 => ?_)
  · have hj : j = n := by have c9 := c8; rw [nI_leI (by omega) (by omega)] at c9; omega
    subst hj
    refine r_lload_n F dX3_loaded_40 rfl ?_
    exact e_lret F hr hlk ⟨rfl, rfl⟩ (by decide) (by decide) dX3_loaded_41
  · have hj : j < n := by have c9 := c8; rw [nI_leI (by omega) (by omega)] at c9; omega
    refine r_lload_n F dX3_loaded_11 rfl ?_
    refine r_aload_n F dX3_loaded_12 rfl ?_
    refine gm_bytes F G hM dX3_loaded_13 ?_
    refine r_iload_n F dX3_loaded_16 rfl ?_
    refine r_iload F dX3_loaded_17 rfl ?_
    refine r_iadd F dX3_loaded_19 ?_
    rw [nI_add]
    refine lm_bytes F G hM (by omega) dX3_loaded_20 ?_
    refine r_i2l F dX3_loaded_21 ?_
    refine r_ldcL (v := 255) F (zin kv_X3_195) dX3_loaded_22 ?_
    refine r_land F dX3_loaded_25 ?_
    refine r_bipush (v := 8) F dX3_loaded_26 (by decide) ?_
    refine r_iload F dX3_loaded_28 rfl ?_
    refine r_imul F dX3_loaded_30 ?_
    refine r_lshl F dX3_loaded_31 ?_
    refine r_lor F dX3_loaded_32 ?_
    refine r_lstore_n F dX3_loaded_33 (by decide) ?_
    refine r_iinc F dX3_loaded_34 rfl (by decide) ?_
    refine r_goto (tgt := 5) F dX3_loaded_37 (by decide) ?_
    refine zsub (lv' := [(3, .long (ldC (mBy M) a (j + 1))), (5, .int (nI (j + 1))), (0, .ref (ad 14)), (1, .int (nI a)), (2, .int (nI n))]) (by rw [show nI (j + 1) = nI j + Int32.ofInt 1 from (nI_add j 1).symm, show ldC (mBy M) a (j + 1) = ldC (mBy M) a j ||| (((mBy M (a + j)).toInt64 &&& 255) <<< ((8 * nI j).toInt64 &&& 63)) from rfl]; simp [zs1, zs2, lv_args, Value.category, show ((1 : Fin 4) : Nat) = 1 from rfl, show ((2 : Fin 4) : Nat) = 2 from rfl, show ((3 : Fin 4) : Nat) = 3 from rfl, show nI 0 = (0 : Int32) from rfl]) ?_
    exact ih (c9 - 1) _ _ (by omega) ⟨j + 1, by omega, rfl, rfl⟩
