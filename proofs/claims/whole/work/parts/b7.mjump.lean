/-- what a run reads of the linker's world -/
def cW (v : zV) (W : zO) (Ss : List Nat) : Prop := Bld v W ∧ SrcOK v W ∧ nuS v W Ss ∧ adK v W ∧ (∀ f, f < 48 → f % 8 < cn v 1202 (f / 8) → xR v W f) ∧ cn v 1201 0 ≤ 6 ∧ oa W 14
section ZCW
variable {v : zV} {W : zO} {Ss : List Nat} {M : mKt} {f : Nat} {F : aF}
theorem cW.b (h : cW v W Ss) : Bld v (mW W M) := h.1.ext h.2.2.2.2.2.1 (mW_wr h.1.1) (fun c hc _ => mW_n ⟨by omega, by omega, by omega, by omega, by omega, by omega⟩)
theorem cW.r (h : cW v W Ss) (hf : tF v f) : rpR v W f := h.1.2.2.1 f hf.1 hf.2
theorem cW.s (h : cW v W Ss) : SrcOK v (mW W M) := fun y hy ht => by
  show (mW W M (900 + 2 * y)).2.2.1 907 = _
  rw [mW_n ⟨by omega, by omega, by omega, by omega, by omega, by omega⟩]
  exact h.2.1 y hy ht
theorem cW.n (h : cW v W Ss) : nuS v (mW W M) Ss := ⟨h.2.2.1.1.same (mW_n (by decide)) (mW_n (by decide)), fun f hf ht => by
  show (mW W M (200 + 12 * f)).2.1 712 = _
  rw [mW_n ⟨by omega, by omega, by omega, by omega, by omega, by omega⟩]
  exact h.2.2.1.2 f hf ht⟩
theorem cW.a (h : cW v W Ss) : adK v (mW W M) := fun g hg ht => by
  show (mW W M (800 + 4 * g)).2.1 802 = _
  rw [mW_n ⟨by omega, by omega, by omega, by omega, by omega, by omega⟩]
  exact h.2.2.2.1 g hg ht
theorem cW.w (h : cW v W Ss) (hs : sOK v Ss) (hf : tF v f) {k : Nat} (hk : k < cn v 1208 f) : ori W (200 + 12 * f + 2) k = nI (kw v f k) := by
  have hsz := hs.sz hf
  have hf4 := hf.1
  exact ((h.r hf).2.2.2.2.2.2.2.1 k (by omega)).trans (rg_1209 hs.1 (k := 60 * f + k) (by omega)).1
theorem cW.nu (h : cW v W Ss) (hs : sOK v Ss) (hf : tF v f) {k : Nat} (hk : k < cn v 1208 f) : ori W (200 + 12 * f + 4) k = v.1 1210 (60 * f + k) := by
  have hsz := hs.sz hf
  exact (h.r hf).2.2.2.2.2.2.2.2 k (by omega)
theorem cW.e (h : cW v W Ss) (hs : sOK v Ss) (hf : tF v f) {p e : Nat} (hc : kCl v f p e) : ori W (200 + 12 * f + 6) p = nI e := by
  obtain ⟨E, G, B, x1, x2, x3⟩ := h.2.2.2.2.1 f hf.1 hf.2
  rw [x1]
  exact xE_p (hs.c hf) hc
theorem cW.ex (h : cW v W Ss) (hs : sOK v Ss) (hf : tF v f) {p e x : Nat} (hc : kCl v f p e) (hx : ke (kq v f e) (kn (kq v f p)) = some x) : ori W (200 + 12 * f + 6) x = nI e := by
  obtain ⟨E, G, B, x1, x2, x3⟩ := h.2.2.2.2.1 f hf.1 hf.2
  rw [x1]
  exact xE_x (hs.c hf) hc hx
theorem cW.g (h : cW v W Ss) (hs : sOK v Ss) (hf : tF v f) {p : Nat} (hp : p < cn v 1208 f) (hw : 23 ≤ kw v f p ∧ kw v f p ≤ 25) : ori W (200 + 12 * f + 8) p = nI (clT v f p + 1) := by
  obtain ⟨E, G, B, x1, x2, x3⟩ := h.2.2.2.2.1 f hf.1 hf.2
  rw [x2, xG_p (hs.c hf) (clE_c (hs.c hf) hp hw)]
  unfold clT clX
  cases ke (kq v f (clE v f p)) (kn (kq v f p)) <;> rfl
theorem cW.gb (h : cW v W Ss) (hs : sOK v Ss) (hF : fOK v F 0) (hk : fa F < cn v 1208 (ff F)) (hw : kw v (ff F) (fa F) = 28 ∨ kw v (ff F) (fa F) = 29) (ha : ka v (ff F) (fa F) ≤ fn F) : ori W (200 + 12 * ff F + 8) (fa F) = if ka v (ff F) (fa F) = fn F then -1 else nI (fo F (fn F - 1 - ka v (ff F) (fa F))) := by
  obtain ⟨E, G, B, x1, x2, x3⟩ := h.2.2.2.2.1 (ff F) hF.1.1 hF.1.2
  obtain ⟨hl, hh⟩ := hF.w hk (by omega)
  have hn := hl.1.1
  rw [x2, xG_b (hs.c hF.1) hk hw, show kn (kq v (ff F) (fa F)) - 1 = fn F by omega]
  by_cases e : ka v (ff F) (fa F) = fn F
  · rw [if_pos e, if_pos (by omega)]
  · rw [if_neg e, if_neg (by omega), show fn F - ka v (ff F) (fa F) = fn F - 1 - ka v (ff F) (fa F) + 1 by omega, (hl.1.2 _ (by omega)).1]
theorem cW.ba (h : cW v W Ss) (hs : sOK v Ss) (hf : tF v f) {p : Nat} (hp : p < cn v 1208 f) (hw : 23 ≤ kw v f p ∧ kw v f p ≤ 25) : ori W (200 + 12 * f + 10) p = nI (kX (kq v f p) (pTb.getD (kw v f p) 0)) := by
  obtain ⟨E, G, B, x1, x2, x3⟩ := h.2.2.2.2.1 f hf.1 hf.2
  rw [x3]
  exact xB_p (hs.c hf) hp hw
theorem fOK.bX (hF : fOK v F 0) (hs : sOK v Ss) (hk : fa F < cn v 1208 (ff F)) {j : Nat} (hj : j < fn F) : kX (kq v (ff F) (fo F j)) (pTb.getD (kw v (ff F) (fo F j)) 0) = fb F j := by
  have hb := (hF.2.2.2.2.1 hk).1
  have b1 := (hb.back (hs.c hF.1) hF.2.1 hj).1
  exact b1.2.2.2.2.1.symm.trans (hb.2 j hj).2.1
/-- an ELSE that is reached: which block it ends -/
theorem fOK.ex (hF : fOK v F 0) (hs : sOK v Ss) (hk : fa F < cn v 1208 (ff F)) (hw : kw v (ff F) (fa F) = 26) : ke (kq v (ff F) (clE v (ff F) (fo F (fn F - 1)))) (kn (kq v (ff F) (fo F (fn F - 1)))) = some (fa F) := by
  obtain ⟨e1, e2, e3, e4⟩ := hF.el hs hk hw
  obtain ⟨hl, hh⟩ := hF.w hk (by omega)
  obtain ⟨b1, b2⟩ := hl.1.back (hs.c hF.1) hF.2.1 (show fn F - 1 < fn F by omega)
  have hC := clE_c (hs.c hF.1) e2 (by omega)
  have hun := hC.un (hs.c hF.1) b1
  have hlt : fa F < clE v (ff F) (fo F (fn F - 1)) := by
    rcases Nat.lt_or_ge (fa F) (clE v (ff F) (fo F (fn F - 1))) with h9 | h9
    · exact h9
    · have h7 := hC.2.2.1
      rw [show clE v (ff F) (fo F (fn F - 1)) = fa F by omega] at h7
      omega
  have hkn : kn (kq v (ff F) (fa F)) = kn (kq v (ff F) (fo F (fn F - 1))) + 1 := by rw [hl.1.1, b2.1.1]; omega
  have ho := hC.2.2.2.2
  cases hx : ke (kq v (ff F) (clE v (ff F) (fo F (fn F - 1)))) (kn (kq v (ff F) (fo F (fn F - 1)))) with
  | none => exact absurd ⟨hw, hkn⟩ (ho.2.2.2.2.2.2.2.2.1 hx _ b1.1 hlt)
  | some x =>
    have := kEl_1 (hs.c hF.1) ho hx b1.1 hlt (by have := hC.2.1; omega) hw hkn
    rw [this]
end ZCW
set_option maxRecDepth 100000 in
set_option maxHeartbeats 4000000 in
theorem c_mended0 {l : Launch} {N0 t0 : Nat} {D : va_G} {cy : Nat → ClassId} {S : zS} {X : Nat → Prop} {S0 : zS} {ad : Nat → Nat} {W : zO} {M : mKt} (hM : nZ t0 X S0 ad W M S) (hE : ¬ M.1 408 = -1) : zMv l yX3_leaveEnded (zws yX3_leaveEnded cX3_leaveEnded 2 none) { frames := 3, cells := 0, slots := 0, locals := 66 } N0 t0 D cy S [.ref (ad 14)] (fun S' => S' = S) 0 0 := by
  refine zMv.of (cc := cX3_leaveEnded) (maxL := 2) (ret := none) (by decide) rfl (Nat.le_of_ble_eq_true rfl) ?_
  intro p e s m args below meth c F G hr hlk hnm
  refine r_aload_n F dX3_leaveEnded_0 rfl ?_
  refine gm_depth F G hM dX3_leaveEnded_1 ?_
  refine r_istore_n F dX3_leaveEnded_4 (by decide) ?_
  refine r_iload_n F dX3_leaveEnded_5 rfl ?_
  refine r_if_le (tgt := 50) F dX3_leaveEnded_6 (by decide) (fun c6 => ?_) (fun c6 => ?_)
  · exact e_vret F hr hlk rfl (by decide) (by decide) dX3_leaveEnded_50
  · refine r_aload_n F dX3_leaveEnded_9 rfl ?_
    refine gm_end F G hM dX3_leaveEnded_10 ?_
    refine r_iconst (v := -1) F dX3_leaveEnded_13 (by decide) ?_
    refine r_icmp_ne (tgt := 50) F dX3_leaveEnded_14 (by decide) (fun _ => ?_) (fun h9 => absurd h9 hE)
    exact e_vret F hr hlk rfl (by decide) (by decide) dX3_leaveEnded_50
set_option maxRecDepth 100000 in
set_option maxHeartbeats 4000000 in
theorem c_mended {l : Launch} {N0 t0 : Nat} {D : va_G} {cy : Nat → ClassId} {S : zS} {X : Nat → Prop} {S0 : zS} {ad : Nat → Nat} {W : zO} {M : mKt} (hM : nZ t0 X S0 ad W M S) {v : zV} {Ss : List Nat} (hW : cW v W Ss) (hs : sOK v Ss) {A : aM} (hC : cRp v A M) (hO : aOK v A) (hE : M.1 408 = -1) (hne : A.1 ≠ []) : zMv l yX3_leaveEnded (zws yX3_leaveEnded cX3_leaveEnded 2 none) { frames := 3, cells := 0, slots := 0, locals := 67 } N0 t0 D cy S [.ref (ad 14)] (fun S' => ∃ A2 M', nZ t0 X S0 ad W M' S' ∧ cRp v A2 M' ∧ aOK v A2 ∧ (∀ n R, aRn v Ss n A2 R → aRn v Ss n A R) ∧ M'.1 410 = M.1 410 ∧ M'.2.2.1 = M.2.2.1 ∧ ((∃ F9 Fs9 U9, A2 = (F9 :: Fs9, U9) ∧ fa F9 < cn v 1208 (ff F9) ∧ M'.1 408 = -1 ∧ M'.2.1 = M.2.1) ∨ (A2.1 = [] ∧ M'.1 408 = 0 ∧ M'.2.1 = A2.2.2.2))) 0 0 := by
  refine zMv.of (cc := cX3_leaveEnded) (maxL := 2) (ret := none) (by decide) rfl (Nat.le_of_ble_eq_true rfl) ?_
  intro p e s m args below meth c F G hr hlk hnm
  refine r_aload_n F dX3_leaveEnded_0 rfl ?_
  refine gm_depthS F G hM hC.2.1 dX3_leaveEnded_1 ?_
  refine r_istore_n F dX3_leaveEnded_4 (by decide) ?_
  refine zsub (lv' := [(1, .int (nI A.1.length)), (0, .ref (ad 14))]) (by simp [zs1, zs2, lv_args, Value.category, show ((1 : Fin 4) : Nat) = 1 from rfl, show ((2 : Fin 4) : Nat) = 2 from rfl, show ((3 : Fin 4) : Nat) = 3 from rfl, show nI 0 = (0 : Int32) from rfl]) ?_
  refine z_loop (fun n9 S9 lv => ∃ (A1 : aM) (M1 : mKt), A1.1.length = n9 ∧ nZ t0 X S0 ad W M1 S9 ∧ cRp v A1 M1 ∧ aOK v A1 ∧ (∀ n R, aRn v Ss n A1 R → aRn v Ss n A R) ∧ M1.1 410 = M.1 410 ∧ M1.2.2.1 = M.2.2.1 ∧ ((0 < A1.1.length ∧ M1.1 408 = -1 ∧ M1.2.1 = M.2.1) ∨ (A1.1 = [] ∧ M1.1 408 = 0 ∧ M1.2.1 = A1.2.2.2)) ∧ lv = [(1, .int (nI A1.1.length)), (0, .ref (ad 14))]) A.1.length ?_ ⟨A, M, rfl, hM, hC, hO, fun _ _ h9 => h9, rfl, rfl, Or.inl ⟨List.length_pos_iff.mpr hne, hE, rfl⟩, rfl⟩
  clear hM hC hO hne
  rintro n9 S lv ⟨A1, M1, rfl, hM, hC1, hO1, hco, h10, hsl, hst, rfl⟩ ih
  have hl40 := hO1.2.1
  rcases hst with ⟨hl1, hE1, hvl⟩ | ⟨hA0, hz0, hz1⟩
  · refine r_iload_n F dX3_leaveEnded_5 rfl ?_
    refine r_if_le (tgt := 50) F dX3_leaveEnded_6 (by decide) (fun h9 => absurd h9 (by rw [nl0, nI_leI (by omega) (by omega)]; omega)) (fun _ => ?_)
    refine r_aload_n F dX3_leaveEnded_9 rfl ?_
    refine gm_endS F G hM hE1 dX3_leaveEnded_10 ?_
    refine r_iconst (v := -1) F dX3_leaveEnded_13 (by decide) ?_
    refine r_icmp_ne (tgt := 50) F dX3_leaveEnded_14 (by decide) (fun h9 => absurd rfl h9) (fun _ => ?_)
    obtain ⟨L9, U⟩ := A1
    cases L9 with
    | nil => exact absurd hl1 (show ¬ 0 < 0 by decide)
    | cons Fr Fs =>
      have hF := hO1.1.1
      have hf := hF.1
      have hf48 := hf.1
      have hRd := (hW.r hf).1
      have hlen : Fs.length + 1 ≤ 40 := hO1.2.1
      have hsz := hs.sz hf
      have hfa := hF.2.1
      have hfh : fh Fr + 0 ≤ fa Fr := hF.2.2.1
      have hbs := sC_b hs Fs _ hO1.1.2
      have hp4 := (rg_1205 hs.1 hf.1).2
      have hl4 := (rg_1207 hs.1 hf.1).2
      have hsB : fBz v Fr Fs = sC v Fs + (cn v 1205 (ff Fr) + cn v 1207 (ff Fr)) := rfl
      have e710 : oi W (200 + 12 * ff Fr) 710 = nI (cn v 1208 (ff Fr)) := (hW.r hf).2.2.2.2.2.2.1.trans (rg_1208 hs.1 hf.1).1
      rw [show ((Fr :: Fs, U) : aM).1.length = Fs.length + 1 from rfl]
      refine r_aload_n F dX3_leaveEnded_17 rfl ?_
      refine gm_nexts F G hM dX3_leaveEnded_18 ?_
      refine r_iload_n F dX3_leaveEnded_21 rfl ?_
      refine r_iconst (v := 1) F dX3_leaveEnded_22 (by decide) ?_
      refine r_isub F dX3_leaveEnded_23 ?_
      rw [show nI (Fs.length + 1) - 1 = nI Fs.length from by rw [nl1, nI_sub (by omega), Nat.add_sub_cancel]]
      refine lm_nexts F G hM (by omega) dX3_leaveEnded_24 ?_
      rw [show M1.2.2.2.2.2.1 Fs.length = nI (fa Fr) from hC1.F1.2.1]
      refine r_aload_n F dX3_leaveEnded_25 rfl ?_
      refine gm_routines F G hM dX3_leaveEnded_26 ?_
      refine r_iload_n F dX3_leaveEnded_29 rfl ?_
      refine r_iconst (v := 1) F dX3_leaveEnded_30 (by decide) ?_
      refine r_isub F dX3_leaveEnded_31 ?_
      rw [show nI (Fs.length + 1) - 1 = nI Fs.length from by rw [nl1, nI_sub (by omega), Nat.add_sub_cancel]]
      refine lm_routines F G hM (by omega) hC1.F1.1 dX3_leaveEnded_32 ?_
      refine gr_size F G hM hf48 hRd dX3_leaveEnded_33 ?_
      rw [e710]
      refine r_icmp_ge (tgt := 40) F dX3_leaveEnded_36 (by decide) (fun c36 => ?_) (fun c36 => ?_)
      · have hend : cn v 1208 (ff Fr) ≤ fa Fr := by have c9 := c36; rw [nI_leI (by omega) (by omega)] at c9; exact c9
        have hcr : cn v 1206 (ff Fr) ≤ fh Fr := by have h9 := hF.2.2.2.2.2 (by omega); omega
        refine r_aload_n F dX3_leaveEnded_40 rfl ?_
        refine c_Vv (ci := 4) F G (c_mleave hM hC1 (by omega) hs.1 hf (hW.r hf) hlen hcr) (cwV 0 F.2.2.2.2 (zgV km_X3_118 ki_X3_leave ke_X3_X3_leave kn_X3 ko_X3_leave) rfl rfl rfl ⟨rfl, hd_yX3_leave⟩ ⟨Nat.le_of_ble_eq_true rfl, Nat.le_of_ble_eq_true rfl⟩) rfl (by decide) hM.A rfl rfl (Nat.le_of_ble_eq_true rfl) dX3_leaveEnded_41 ⟨Nat.le_of_ble_eq_true rfl, Nat.le_of_ble_eq_true rfl⟩ (fun S41 h41 => ?_)
        obtain ⟨M2, hM, hC2, k10, ksl, kne, kem⟩ := h41
        refine r_iinc F dX3_leaveEnded_44 rfl (by decide) ?_
        refine r_goto (tgt := 5) F dX3_leaveEnded_47 (by decide) ?_
        refine zsub (lv' := [(1, .int (nI Fs.length)), (0, .ref (ad 14))]) (by rw [show nI Fs.length = nI (Fs.length + 1) + Int32.ofInt (-1) from by rw [show nI (Fs.length + 1) = nI Fs.length + 1 from (nI_add Fs.length 1).symm]; exact (Int32.add_sub_cancel (nI Fs.length) 1).symm.trans (Int32.sub_eq_add_neg _ 1)]; simp [zs1, zs2, lv_args, Value.category, show ((1 : Fin 4) : Nat) = 1 from rfl, show ((2 : Fin 4) : Nat) = 2 from rfl, show ((3 : Fin 4) : Nat) = 3 from rfl, show nI 0 = (0 : Int32) from rfl]) ?_
        have hm9 := congrArg List.length (aLv_m (v := v) (F := Fr) (Fs := Fs) (U := U))
        rw [List.length_map, List.length_map] at hm9
        refine ih Fs.length _ _ (Nat.lt_succ_self _) ⟨aLv v Fr Fs U, M2, hm9, hM, hC2, hO1.lv hs hend, fun n R h9 => hco n R (aRn.st (aMi_l hend) h9), k10.trans h10, ksl.trans hsl, ?_, by rw [hm9]⟩
        cases Fs with
        | nil => exact Or.inr ⟨rfl, kem rfl⟩
        | cons G9 Gs => exact Or.inl ⟨by rw [hm9]; exact Nat.succ_pos _, (kne (List.cons_ne_nil _ _)).1.trans hE1, (kne (List.cons_ne_nil _ _)).2.trans hvl⟩
      · have hlt : fa Fr < cn v 1208 (ff Fr) := by have c9 := c36; rw [nI_leI (by omega) (by omega)] at c9; omega
        exact e_vret F hr hlk ⟨(Fr :: Fs, U), M1, hM, hC1, hO1, hco, h10, hsl, Or.inl ⟨Fr, Fs, U, rfl, hlt, hE1, hvl⟩⟩ (by decide) (by decide) dX3_leaveEnded_39
  · have hl0 : A1.1.length = 0 := by rw [hA0]; rfl
    refine r_iload_n F dX3_leaveEnded_5 rfl ?_
    refine r_if_le (tgt := 50) F dX3_leaveEnded_6 (by decide) (fun _ => ?_) (fun h9 => absurd (by rw [hl0]; decide) h9)
    exact e_vret F hr hlk ⟨A1, M1, hM, hC1, hO1, hco, h10, hsl, Or.inr ⟨hA0, hz0, hz1⟩⟩ (by decide) (by decide) dX3_leaveEnded_50
set_option maxRecDepth 100000 in
set_option maxHeartbeats 4000000 in
theorem c_mjump {l : Launch} {N0 t0 : Nat} {D : va_G} {cy : Nat → ClassId} {S : zS} {X : Nat → Prop} {S0 : zS} {ad : Nat → Nat} {W : zO} {M : mKt} (hM : nZ t0 X S0 ad W M S) {v : zV} {Fr : aF} {Fs : List aF} {U : aU} (hC : cRp v (Fr :: Fs, U) M) (hB : fBz v Fr Fs + fh Fr ≤ 2719) {Ss : List Nat} (hW : cW v W Ss) (hs : sOK v Ss) (hf : tF v (ff Fr)) (hlen : Fs.length + 1 ≤ 40) {a : Nat} {o3 : Int32} (ho3 : o3 = if a = fn Fr then -1 else nI (fo Fr (fn Fr - 1 - a))) (ha : a ≤ fn Fr) (ha2 : a < fn Fr → (fo Fr (fn Fr - 1 - a)) < cn v 1208 (ff Fr) ∧ (23 ≤ kw v (ff Fr) (fo Fr (fn Fr - 1 - a)) ∧ kw v (ff Fr) (fo Fr (fn Fr - 1 - a)) ≤ 25) ∧ ka v (ff Fr) (fo Fr (fn Fr - 1 - a)) ≤ 1 ∧ fb Fr (fn Fr - 1 - a) + (if kw v (ff Fr) (fo Fr (fn Fr - 1 - a)) = 24 then 0 else ka v (ff Fr) (fo Fr (fn Fr - 1 - a))) ≤ fh Fr ∧ kX (kq v (ff Fr) (fo Fr (fn Fr - 1 - a))) (pTb.getD (kw v (ff Fr) (fo Fr (fn Fr - 1 - a))) 0) = fb Fr (fn Fr - 1 - a)) : zMv l yX3_jump (zws yX3_jump cX3_jump 5 none) { frames := 2, cells := 0, slots := 0, locals := 46 } N0 t0 D cy S [.ref (ad 14), .ref (ad (200 + 12 * ff Fr)), .int o3] (fun S' => ∃ M', nZ t0 X S0 ad W M' S' ∧ cRp v (aBr v Fr a :: Fs, U) M' ∧ mKp M M') 0 0 := by
  refine zMv.of (cc := cX3_jump) (maxL := 5) (ret := none) (by decide) rfl (Nat.le_of_ble_eq_true rfl) ?_
  intro p e s m args below meth c F G hr hlk hnm
  obtain ⟨M0, eM0⟩ : ∃ M0, M0 = M := ⟨_, rfl⟩
  have hKp : mKp M0 M := by rw [eM0]; exact mKp.rf
  rw [← eM0]
  clear eM0
  have hf48 := hf.1
  have hRd := (hW.r hf).1
  have hsz := hs.sz hf
  have hp4 := (rg_1205 hs.1 hf.1).2
  have hl4 := (rg_1207 hs.1 hf.1).2
  have hsB : fBz v Fr Fs = sC v Fs + (cn v 1205 (ff Fr) + cn v 1207 (ff Fr)) := rfl
  have e710 : oi W (200 + 12 * ff Fr) 710 = nI (cn v 1208 (ff Fr)) := (hW.r hf).2.2.2.2.2.2.1.trans (rg_1208 hs.1 hf.1).1
  have e702 : oi W (200 + 12 * ff Fr) 702 = nI (cn v 1205 (ff Fr)) := (hW.r hf).2.2.2.1.trans (rg_1205 hs.1 hf.1).1
  have e704 : oi W (200 + 12 * ff Fr) 704 = nI (cn v 1207 (ff Fr)) := (hW.r hf).2.2.2.2.2.1.trans (rg_1207 hs.1 hf.1).1
  refine r_iload_n F dX3_jump_0 rfl ?_
  refine r_iconst (v := -1) F dX3_jump_1 (by decide) ?_
  refine r_icmp_ne (tgt := 21) F dX3_jump_2 (by decide) (fun c2 => ?_) (fun c2 => ?_)
  · have hne : ¬ a = fn Fr := fun h9 => c2 (by rw [ho3, if_pos h9])
    rw [if_neg hne] at ho3
    obtain ⟨p1, p2, p3, p4, p5⟩ := ha2 (by omega)
    have hC9 := clE_c (hs.c hf) p1 p2
    have hce := hC9.2.1
    rw [ho3]
    refine r_aload_n F dX3_jump_21 rfl ?_
    refine gr_words F G hM hf48 hRd dX3_jump_22 ?_
    refine r_iload_n F dX3_jump_25 rfl ?_
    refine lr_words F G hM hf48 hRd (by omega) dX3_jump_26 ?_
    rw [hW.w hs hf p1]
    refine r_bipush (v := 24) F dX3_jump_27 (by decide) ?_
    refine r_icmp_ne (tgt := 36) F dX3_jump_29 (by decide) (fun c29 => ?_) (fun c29 => ?_)
    · have h24 : ¬ kw v (ff Fr) (fo Fr (fn Fr - 1 - a)) = 24 := fun h9 => c29 (by rw [h9]; rfl)
      rw [if_neg h24] at p4
      refine r_iconst (v := 0) F dX3_jump_36 (by decide) ?_
      refine r_istore_n F dX3_jump_37 (by decide) ?_
      refine r_aload_n F dX3_jump_38 rfl ?_
      refine gm_floors F G hM dX3_jump_39 ?_
      refine r_aload_n F dX3_jump_42 rfl ?_
      refine gm_depthS F G hM hC.N dX3_jump_43 ?_
      refine r_iconst (v := 1) F dX3_jump_46 (by decide) ?_
      refine r_isub F dX3_jump_47 ?_
      rw [show nI (Fs.length + 1) - 1 = nI Fs.length from by rw [nl1, nI_sub (by omega), Nat.add_sub_cancel]]
      refine lm_floors F G hM (by omega) dX3_jump_48 ?_
      rw [show M.2.2.2.2.2.2.1 Fs.length = nI (sC v Fs) from hC.F1.2.2.1]
      refine r_aload_n F dX3_jump_49 rfl ?_
      refine gr_parameters F G hM hf48 hRd dX3_jump_50 ?_
      rw [e702]
      refine r_iadd F dX3_jump_53 ?_
      refine r_aload_n F dX3_jump_54 rfl ?_
      refine gr_locals F G hM hf48 hRd dX3_jump_55 ?_
      rw [e704]
      refine r_iadd F dX3_jump_58 ?_
      refine r_aload_n F dX3_jump_59 rfl ?_
      refine gr_bases F G hM hf48 hRd dX3_jump_60 ?_
      refine r_iload_n F dX3_jump_63 rfl ?_
      refine lr_bases F G hM hf48 hRd (by omega) dX3_jump_64 ?_
      rw [hW.ba hs hf p1 p2, p5]
      refine r_iadd F dX3_jump_65 ?_
      rw [nI_add, nI_add, nI_add, show sC v Fs + cn v 1205 (ff Fr) + cn v 1207 (ff Fr) + fb Fr (fn Fr - 1 - a) = fBz v Fr Fs + fb Fr (fn Fr - 1 - a) from by omega]
      refine r_istore F dX3_jump_66 (by decide) ?_
      refine r_aload_n F dX3_jump_68 rfl ?_
      refine r_iload F dX3_jump_69 rfl ?_
      refine r_iload_n F dX3_jump_71 rfl ?_
      refine r_if_eq (tgt := 79) F dX3_jump_72 (by decide) (fun _ => ?_) (fun h9 => absurd rfl h9)
      refine r_aload_n F dX3_jump_79 rfl ?_
      refine gr_numbers F G hM hf48 hRd dX3_jump_80 ?_
      refine r_iload_n F dX3_jump_83 rfl ?_
      refine lr_numbers F G hM hf48 hRd (by omega) dX3_jump_84 ?_
      rw [hW.nu hs hf p1, show v.1 1210 (60 * ff Fr + (fo Fr (fn Fr - 1 - a))) = nI (ka v (ff Fr) (fo Fr (fn Fr - 1 - a))) from by obtain ⟨j8, z1, z2⟩ := (hs.g hf p1).2.2.1 p2; exact (ka_of z2 (by omega)).1]
      refine c_Vv (ci := 4) F G (c_mkeep hM (b := fBz v Fr Fs + fb Fr (fn Fr - 1 - a)) (h := fBz v Fr Fs + fh Fr) (k := (ka v (ff Fr) (fo Fr (fn Fr - 1 - a)))) hC.H p3 (by omega) (by omega) (by omega)) (cwV 2 F.2.2.2.2 (zgV km_X3_124 ki_X3_keep ke_X3_X3_keep kn_X3 ko_X3_keep) rfl rfl rfl ⟨rfl, hd_yX3_keep⟩ ⟨Nat.le_of_ble_eq_true rfl, Nat.le_of_ble_eq_true rfl⟩) rfl (by decide) hM.A rfl rfl (Nat.le_of_ble_eq_true rfl) dX3_jump_85 ⟨Nat.le_of_ble_eq_true rfl, Nat.le_of_ble_eq_true rfl⟩ (fun S85 h85 => ?_)
      obtain ⟨M2, hM, hKe⟩ := h85
      have hC : cRp v ((fCu Fr (fn Fr - 1 - a)) :: Fs, U) M := hC.bk rfl rfl rfl rfl rfl
      have hC : cRp v (fKe (fCu Fr (fn Fr - 1 - a)) (fb Fr (fn Fr - 1 - a)) (ka v (ff Fr) (fo Fr (fn Fr - 1 - a))) :: Fs, U) M2 := hC.ke p3 (show fb Fr (fn Fr - 1 - a) + (ka v (ff Fr) (fo Fr (fn Fr - 1 - a))) ≤ fh Fr by omega) hKe
      have hKp := hKp.ke hKe
      refine r_aload_n F dX3_jump_88 rfl ?_
      refine gm_nexts F G hM dX3_jump_89 ?_
      refine r_aload_n F dX3_jump_92 rfl ?_
      refine gm_depthS F G hM hC.N dX3_jump_93 ?_
      refine r_iconst (v := 1) F dX3_jump_96 (by decide) ?_
      refine r_isub F dX3_jump_97 ?_
      rw [show nI (Fs.length + 1) - 1 = nI Fs.length from by rw [nl1, nI_sub (by omega), Nat.add_sub_cancel]]
      refine r_iload_n F dX3_jump_98 rfl ?_
      refine r_if_eq (tgt := 106) F dX3_jump_99 (by decide) (fun _ => ?_) (fun h9 => absurd rfl h9)
      refine r_aload_n F dX3_jump_106 rfl ?_
      refine gr_ends F G hM hf48 hRd dX3_jump_107 ?_
      refine r_iload_n F dX3_jump_110 rfl ?_
      refine lr_ends F G hM hf48 hRd (by omega) dX3_jump_111 ?_
      rw [hW.e hs hf hC9]
      refine r_iconst (v := 1) F dX3_jump_112 (by decide) ?_
      refine r_iadd F dX3_jump_113 ?_
      rw [show nI (clE v (ff Fr) (fo Fr (fn Fr - 1 - a))) + 1 = nI ((clE v (ff Fr) (fo Fr (fn Fr - 1 - a))) + 1) from nI_add _ 1]
      refine sm_nexts F G hM (by omega) dX3_jump_114 (fun S hM => ?_)
      have hC := hC.go (k := (clE v (ff Fr) (fo Fr (fn Fr - 1 - a))) + 1)
      refine e_vret F hr hlk ⟨_, hM, ?_, ⟨hKp.1, hKp.2.1, hKp.2.2⟩⟩ (by decide) (by decide) dX3_jump_115
      unfold aBr
      rw [if_neg hne, if_neg h24]
      exact hC
    · have h24 : kw v (ff Fr) (fo Fr (fn Fr - 1 - a)) = 24 := by have c9 := c29; rw [nl24, nI_eq (by omega) (by omega)] at c9; exact c9
      rw [if_pos h24] at p4
      refine r_iconst (v := 1) F dX3_jump_32 (by decide) ?_
      refine r_goto (tgt := 37) F dX3_jump_33 (by decide) ?_
      refine r_istore_n F dX3_jump_37 (by decide) ?_
      refine r_aload_n F dX3_jump_38 rfl ?_
      refine gm_floors F G hM dX3_jump_39 ?_
      refine r_aload_n F dX3_jump_42 rfl ?_
      refine gm_depthS F G hM hC.N dX3_jump_43 ?_
      refine r_iconst (v := 1) F dX3_jump_46 (by decide) ?_
      refine r_isub F dX3_jump_47 ?_
      rw [show nI (Fs.length + 1) - 1 = nI Fs.length from by rw [nl1, nI_sub (by omega), Nat.add_sub_cancel]]
      refine lm_floors F G hM (by omega) dX3_jump_48 ?_
      rw [show M.2.2.2.2.2.2.1 Fs.length = nI (sC v Fs) from hC.F1.2.2.1]
      refine r_aload_n F dX3_jump_49 rfl ?_
      refine gr_parameters F G hM hf48 hRd dX3_jump_50 ?_
      rw [e702]
      refine r_iadd F dX3_jump_53 ?_
      refine r_aload_n F dX3_jump_54 rfl ?_
      refine gr_locals F G hM hf48 hRd dX3_jump_55 ?_
      rw [e704]
      refine r_iadd F dX3_jump_58 ?_
      refine r_aload_n F dX3_jump_59 rfl ?_
      refine gr_bases F G hM hf48 hRd dX3_jump_60 ?_
      refine r_iload_n F dX3_jump_63 rfl ?_
      refine lr_bases F G hM hf48 hRd (by omega) dX3_jump_64 ?_
      rw [hW.ba hs hf p1 p2, p5]
      refine r_iadd F dX3_jump_65 ?_
      rw [nI_add, nI_add, nI_add, show sC v Fs + cn v 1205 (ff Fr) + cn v 1207 (ff Fr) + fb Fr (fn Fr - 1 - a) = fBz v Fr Fs + fb Fr (fn Fr - 1 - a) from by omega]
      refine r_istore F dX3_jump_66 (by decide) ?_
      refine r_aload_n F dX3_jump_68 rfl ?_
      refine r_iload F dX3_jump_69 rfl ?_
      refine r_iload_n F dX3_jump_71 rfl ?_
      refine r_if_eq (tgt := 79) F dX3_jump_72 (by decide) (fun h9 => absurd h9 (by decide)) (fun _ => ?_)
      refine r_iconst (v := 0) F dX3_jump_75 (by decide) ?_
      refine r_goto (tgt := 85) F dX3_jump_76 (by decide) ?_
      rw [nl0]
      refine c_Vv (ci := 4) F G (c_mkeep hM (b := fBz v Fr Fs + fb Fr (fn Fr - 1 - a)) (h := fBz v Fr Fs + fh Fr) (k := 0) hC.H (by omega) (by omega) (by omega) (by omega)) (cwV 2 F.2.2.2.2 (zgV km_X3_124 ki_X3_keep ke_X3_X3_keep kn_X3 ko_X3_keep) rfl rfl rfl ⟨rfl, hd_yX3_keep⟩ ⟨Nat.le_of_ble_eq_true rfl, Nat.le_of_ble_eq_true rfl⟩) rfl (by decide) hM.A rfl rfl (Nat.le_of_ble_eq_true rfl) dX3_jump_85 ⟨Nat.le_of_ble_eq_true rfl, Nat.le_of_ble_eq_true rfl⟩ (fun S85 h85 => ?_)
      obtain ⟨M2, hM, hKe⟩ := h85
      have hC : cRp v ((fCu Fr ((fn Fr - 1 - a) + 1)) :: Fs, U) M := hC.bk rfl rfl rfl rfl rfl
      have hC : cRp v (fKe (fCu Fr ((fn Fr - 1 - a) + 1)) (fb Fr (fn Fr - 1 - a)) 0 :: Fs, U) M2 := hC.ke (by omega) (show fb Fr (fn Fr - 1 - a) + 0 ≤ fh Fr by omega) hKe
      have hKp := hKp.ke hKe
      refine r_aload_n F dX3_jump_88 rfl ?_
      refine gm_nexts F G hM dX3_jump_89 ?_
      refine r_aload_n F dX3_jump_92 rfl ?_
      refine gm_depthS F G hM hC.N dX3_jump_93 ?_
      refine r_iconst (v := 1) F dX3_jump_96 (by decide) ?_
      refine r_isub F dX3_jump_97 ?_
      rw [show nI (Fs.length + 1) - 1 = nI Fs.length from by rw [nl1, nI_sub (by omega), Nat.add_sub_cancel]]
      refine r_iload_n F dX3_jump_98 rfl ?_
      refine r_if_eq (tgt := 106) F dX3_jump_99 (by decide) (fun h9 => absurd h9 (by decide)) (fun _ => ?_)
      refine r_iload_n F dX3_jump_102 rfl ?_
      refine r_goto (tgt := 112) F dX3_jump_103 (by decide) ?_
      refine r_iconst (v := 1) F dX3_jump_112 (by decide) ?_
      refine r_iadd F dX3_jump_113 ?_
      rw [show nI (fo Fr (fn Fr - 1 - a)) + 1 = nI ((fo Fr (fn Fr - 1 - a)) + 1) from nI_add _ 1]
      refine sm_nexts F G hM (by omega) dX3_jump_114 (fun S hM => ?_)
      have hC := hC.go (k := (fo Fr (fn Fr - 1 - a)) + 1)
      refine e_vret F hr hlk ⟨_, hM, ?_, ⟨hKp.1, hKp.2.1, hKp.2.2⟩⟩ (by decide) (by decide) dX3_jump_115
      unfold aBr
      rw [if_neg hne, if_pos h24]
      exact hC
  · have he : a = fn Fr := by
      by_cases h9 : a = fn Fr
      · exact h9
      · have c9 := c2
        rw [ho3, if_neg h9] at c9
        have hp := (ha2 (by omega)).1
        exact absurd c9 (fun h8 => nI_pos (n := (fo Fr (fn Fr - 1 - a))) (by omega) (by rw [h8]; decide))
    refine r_aload_n F dX3_jump_5 rfl ?_
    refine gm_nexts F G hM dX3_jump_6 ?_
    refine r_aload_n F dX3_jump_9 rfl ?_
    refine gm_depthS F G hM hC.N dX3_jump_10 ?_
    refine r_iconst (v := 1) F dX3_jump_13 (by decide) ?_
    refine r_isub F dX3_jump_14 ?_
    refine r_aload_n F dX3_jump_15 rfl ?_
    refine gr_size F G hM hf48 hRd dX3_jump_16 ?_
    rw [e710]
    rw [show nI (Fs.length + 1) - 1 = nI Fs.length from by rw [nl1, nI_sub (by omega), Nat.add_sub_cancel]]
    refine sm_nexts F G hM (by omega) dX3_jump_19 (fun S hM => ?_)
    have hC := hC.go (k := cn v 1208 (ff Fr))
    refine e_vret F hr hlk ⟨_, hM, ?_, ⟨hKp.1, hKp.2.1, hKp.2.2⟩⟩ (by decide) (by decide) dX3_jump_20
    unfold aBr
    rw [if_pos he]
    exact hC
