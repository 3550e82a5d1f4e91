theorem ki_T {o : Option ckS} {q2 : ckS} (h : o = some q2) : o = if True then some q2 else none := h.trans (if_pos True.intro).symm
set_option maxRecDepth 100000 in
set_option maxHeartbeats 4000000 in
theorem c_kword {l : Launch} {N0 t0 : Nat} {D : va_G} {cy : Nat → ClassId} {S : zS} {X : Nat → Prop} {S0 : zS} {ad : Nat → Nat} {W : zO} {K : kS} (hw : wr W) (a8 : oa W 8) (hH : zH t0 X S0 ad (wK W K) S) {v : zV} {f : Nat} {q : ckS} {k H : Nat} (hv : vRg v) (hf : f < 48) (hR : rpR v W f) (hQ : cR q K) (hI : kI k H q) (hk : k < 60) (hH30 : H < 2 ^ 29) (hEl : kEl q k) (hB : Bld v W) (hA : vA v) (hD : vD v) (hO : cn v 1201 0 ≤ 6) (ht : f % 8 < cn v 1202 (f / 8)) {w : Nat} {a : Int32} (hw9 : cn v 1209 (60 * f + k) = w) (ha : v.1 1210 (60 * f + k) = a) (hg : gW v f w a) : zMi l yX1_wordFits (zws yX1_wordFits cX1_wordFits 7 (some .boolean)) { frames := 4, cells := 0, slots := 0, locals := 86 } N0 t0 D cy S [.ref (ad 8), .ref (ad (200 + 12 * f)), .int (nI k)] (fun r S' => zbo r ((kSt v f k q).isSome = true) ∧ ∃ (W' : zO) (K' : kS), zH t0 X S0 ad (wK W' K') S' ∧ (∀ q', kSt v f k q = some q' → cR q' K' ∧ rtX W W' f (sE w q k (ori W ((200 + 12 * f) + 6))) (sG w a.toNatClampNeg q k (ori W ((200 + 12 * f) + 8))) (sB w q k (ori W ((200 + 12 * f) + 10)))) ∧ ∃ E2 G2 B2, rtX W W' f E2 G2 B2) 0 0 := by
  refine zMi.of (cc := cX1_wordFits) (maxL := 7) (ret := (some .boolean)) (by decide) rfl (Nat.le_of_ble_eq_true rfl) ?_
  intro p e s m args below meth c F G hr hlk hnm
  have hkr := kd_r f hf
  have hn1 := hI.1
  have hn2 := hI.2.1
  have hhH := hI.2.2.1
  have hT := hQ.2.2 (kn q - 1) (by omega)
  have hl1 := (hI.2.2.2.1 (kn q - 1) (by omega)).1
  have a8k : oa (wK W K) 8 := wK_a.mpr a8
  have A8 : zA S (ad 8) 2 := hH.al a8k rfl rfl
  have JO : zi S 205 (ad 8) = (K).1 := hH.i a8k rfl (by decide)
  have IH : zi S 206 (ad 8) = (K).2.1 := hH.i a8k rfl (by decide)
  have Q22 : zq S 200 (ad 8) = some (ad 22) := hH.qS a8k rfl (by decide) ((wK_wr hw).q a8k (by decide) rfl) rfl
  have a22 : oa (wK W K) 22 := (wK_wr hw).a a8k (id := 200) (by decide) rfl
  have n22 : onn (wK W K) 22 = 61 := (wK_wr hw).n a8k (id := 200) (by decide) rfl (by decide)
  have Q24 : zq S 201 (ad 8) = some (ad 24) := hH.qS a8k rfl (by decide) ((wK_wr hw).q a8k (by decide) rfl) rfl
  have a24 : oa (wK W K) 24 := (wK_wr hw).a a8k (id := 201) (by decide) rfl
  have n24 : onn (wK W K) 24 = 61 := (wK_wr hw).n a8k (id := 201) (by decide) rfl (by decide)
  have Q26 : zq S 202 (ad 8) = some (ad 26) := hH.qS a8k rfl (by decide) ((wK_wr hw).q a8k (by decide) rfl) rfl
  have a26 : oa (wK W K) 26 := (wK_wr hw).a a8k (id := 202) (by decide) rfl
  have n26 : onn (wK W K) 26 = 61 := (wK_wr hw).n a8k (id := 202) (by decide) rfl (by decide)
  have Q28 : zq S 203 (ad 8) = some (ad 28) := hH.qS a8k rfl (by decide) ((wK_wr hw).q a8k (by decide) rfl) rfl
  have a28 : oa (wK W K) 28 := (wK_wr hw).a a8k (id := 203) (by decide) rfl
  have n28 : onn (wK W K) 28 = 61 := (wK_wr hw).n a8k (id := 203) (by decide) rfl (by decide)
  have Q30 : zq S 204 (ad 8) = some (ad 30) := hH.qS a8k rfl (by decide) ((wK_wr hw).q a8k (by decide) rfl) rfl
  have a30 : oa (wK W K) 30 := (wK_wr hw).a a8k (id := 204) (by decide) rfl
  have n30 : onn (wK W K) 30 = 61 := (wK_wr hw).n a8k (id := 204) (by decide) rfl (by decide)
  have R0 : zA S (ad (200 + 12 * f)) 7 := hH.al (wK_a.mpr hR.1) rfl hkr.1
  have Qw : zq S 705 (ad (200 + 12 * f)) = some (ad ((200 + 12 * f) + 2)) := hH.qS (wK_a.mpr hR.1) rfl (by rw [hkr.1]; decide) ((wK_wr hw).q (wK_a.mpr hR.1) (by decide) hkr.1) rfl
  have rw_ : oa (wK W K) ((200 + 12 * f) + 2) := (wK_wr hw).a (wK_a.mpr hR.1) (id := 705) (by decide) hkr.1
  have mw : onn (wK W K) ((200 + 12 * f) + 2) = 60 := (wK_wr hw).n (wK_a.mpr hR.1) (id := 705) (by decide) hkr.1 (by decide)
  have Qn : zq S 706 (ad (200 + 12 * f)) = some (ad ((200 + 12 * f) + 4)) := hH.qS (wK_a.mpr hR.1) rfl (by rw [hkr.1]; decide) ((wK_wr hw).q (wK_a.mpr hR.1) (by decide) hkr.1) rfl
  have rn : oa (wK W K) ((200 + 12 * f) + 4) := (wK_wr hw).a (wK_a.mpr hR.1) (id := 706) (by decide) hkr.1
  have mn : onn (wK W K) ((200 + 12 * f) + 4) = 60 := (wK_wr hw).n (wK_a.mpr hR.1) (id := 706) (by decide) hkr.1 (by decide)
  have Qe : zq S 707 (ad (200 + 12 * f)) = some (ad ((200 + 12 * f) + 6)) := hH.qS (wK_a.mpr hR.1) rfl (by rw [hkr.1]; decide) ((wK_wr hw).q (wK_a.mpr hR.1) (by decide) hkr.1) rfl
  have re : oa (wK W K) ((200 + 12 * f) + 6) := (wK_wr hw).a (wK_a.mpr hR.1) (id := 707) (by decide) hkr.1
  have me : onn (wK W K) ((200 + 12 * f) + 6) = 60 := (wK_wr hw).n (wK_a.mpr hR.1) (id := 707) (by decide) hkr.1 (by decide)
  have Qg : zq S 708 (ad (200 + 12 * f)) = some (ad ((200 + 12 * f) + 8)) := hH.qS (wK_a.mpr hR.1) rfl (by rw [hkr.1]; decide) ((wK_wr hw).q (wK_a.mpr hR.1) (by decide) hkr.1) rfl
  have rg_ : oa (wK W K) ((200 + 12 * f) + 8) := (wK_wr hw).a (wK_a.mpr hR.1) (id := 708) (by decide) hkr.1
  have mg : onn (wK W K) ((200 + 12 * f) + 8) = 60 := (wK_wr hw).n (wK_a.mpr hR.1) (id := 708) (by decide) hkr.1 (by decide)
  have Qb : zq S 709 (ad (200 + 12 * f)) = some (ad ((200 + 12 * f) + 10)) := hH.qS (wK_a.mpr hR.1) rfl (by rw [hkr.1]; decide) ((wK_wr hw).q (wK_a.mpr hR.1) (by decide) hkr.1) rfl
  have rb : oa (wK W K) ((200 + 12 * f) + 10) := (wK_wr hw).a (wK_a.mpr hR.1) (id := 709) (by decide) hkr.1
  have mb : onn (wK W K) ((200 + 12 * f) + 10) = 60 := (wK_wr hw).n (wK_a.mpr hR.1) (id := 709) (by decide) hkr.1 (by decide)
  have vw : ∀ j, j < 60 → ∀ K2, ori (wK W K2) ((200 + 12 * f) + 2) j = nI (cn v 1209 (60 * f + j)) := fun j hj K2 => by
    show (wK W K2 ((200 + 12 * f) + 2)).2.2.2.2.2.1 j = _
    rw [wK_n (rcell (by omega))]
    exact (hR.2.2.2.2.2.2.2.1 j hj).trans (rg_1209 hv (by omega)).1
  have vn : ∀ j, j < 60 → ∀ K2, ori (wK W K2) ((200 + 12 * f) + 4) j = v.1 1210 (60 * f + j) := fun j hj K2 => by
    show (wK W K2 ((200 + 12 * f) + 4)).2.2.2.2.2.1 j = _
    rw [wK_n (rcell (by omega))]
    exact hR.2.2.2.2.2.2.2.2 j hj
  rw [hQ.1] at JO
  rw [hQ.2.1] at IH
  have hbT := hI.2.2.2.2.2
  have w36 : w < 36 := by have := (rg_1209 hv (k := 60 * f + k) (by omega)).2; omega
  have hst := kSt_x v f k q hw9 ha
  have hp1 : pTb.getD w 0 ≤ 3 ∧ puTb.getD w 0 ≤ 1 := (show ∀ w : Nat, w < 36 → pTb.getD w 0 ≤ 3 ∧ puTb.getD w 0 ≤ 1 from by decide) w w36
  have hx1 := kX_b hI (pTb.getD w 0)
  have hI1 : kI k H (setH q (kX q (pTb.getD w 0))) := hI.sH hx1.1 (by omega)
  have hQ1 := hQ.sH (kX q (pTb.getD w 0))
  have hra := hR.1
  have hrt0 : rtX W W f (ori W (200 + 12 * f + 6)) (ori W (200 + 12 * f + 8)) (ori W (200 + 12 * f + 10)) := rtX.rf
  refine r_aload_n F dX1_wordFits_0 rfl ?_
  refine r_getS (ci := 7) (k := 5) (id := 705) (C := RX6) (T := TX6) (N := 13) F G rfl (by decide) (by decide) rfl (zinL inG7) (zin kf_X1_71) (fun _ h9 => h9) dX1_wordFits_1 R0 Qw ?_
  refine r_iload_n F dX1_wordFits_4 rfl ?_
  refine v_iald F G hH (n := k) rw_ rfl hkr.2.1 (by omega) (by omega) dX1_wordFits_5 ?_
  rw [vw _ (by omega), hw9]
  refine r_istore_n F dX1_wordFits_6 (by decide) ?_
  refine r_aload_n F dX1_wordFits_7 rfl ?_
  refine r_getS (ci := 7) (k := 6) (id := 706) (C := RX6) (T := TX6) (N := 13) F G rfl (by decide) (by decide) rfl (zinL inG7) (zin kf_X1_74) (fun _ h9 => h9) dX1_wordFits_8 R0 Qn ?_
  refine r_iload_n F dX1_wordFits_11 rfl ?_
  refine v_iald F G hH (n := k) rn rfl hkr.2.2.1 (by omega) (by omega) dX1_wordFits_12 ?_
  rw [vn _ (by omega), ha]
  refine r_istore F dX1_wordFits_13 (by decide) ?_
  refine r_aload_n F dX1_wordFits_15 rfl ?_
  refine r_getTab F G (q := zTab[0]) (List.getElem_mem _) (zin kf_X1_77) dX1_wordFits_16 (fun tb hT0 => ?_)
  refine r_iload_n F dX1_wordFits_19 rfl ?_
  refine r_tabI F hT0 w36 ((show ∀ w : Nat, w < 36 → Value.int ((zTab[0]).2.getD w 0) = .int (nI (pTb.getD w 0)) from by decide) w w36) dX1_wordFits_20 ?_
  refine c_Vi (ci := 2) F G (c_kpop hw a8 hH (t := (kn q - 1)) (h := kh q) (b := kb q (kn q - 1)) (dd := kdd q (kn q - 1)) (w := pTb.getD w 0) hQ.1 (by omega) hQ.2.1 hT.2.2.1 hbT (by omega) hT.2.2.2.2 (by omega)) (cwV 1 F.2.2.2.2 (zgV km_X1_82 ki_X1_pop ke_X1_X1_pop kn_X1 ko_X1_pop) rfl rfl rfl ⟨rfl, hd_yX1_pop⟩ ⟨Nat.le_of_ble_eq_true rfl, Nat.le_of_ble_eq_true rfl⟩) rfl (by decide) A8 rfl rfl (Nat.le_of_ble_eq_true rfl) dX1_wordFits_21 ⟨Nat.le_of_ble_eq_true rfl, Nat.le_of_ble_eq_true rfl⟩ (fun r21 S21 h21 => ?_)
  obtain ⟨e21, hH⟩ := h21
  subst e21
  refine zgen (P := zH t0 X S0 ad (wK W (K.1, nI (kX q (pTb.getD w 0)), K.2.2))) hH (fun S hH => ?_)
  clear A8 JO IH Q22 Q24 Q26 Q28 Q30
  clear R0 Qw rw_ mw Qn rn mn Qe re me Qg rg_ mg Qb rb mb
  have a8k : oa (wK W (K.1, nI (kX q (pTb.getD w 0)), K.2.2)) 8 := wK_a.mpr a8
  have A8 : zA S (ad 8) 2 := hH.al a8k rfl rfl
  have JO : zi S 205 (ad 8) = ((K.1, nI (kX q (pTb.getD w 0)), K.2.2)).1 := hH.i a8k rfl (by decide)
  have IH : zi S 206 (ad 8) = ((K.1, nI (kX q (pTb.getD w 0)), K.2.2)).2.1 := hH.i a8k rfl (by decide)
  have Q22 : zq S 200 (ad 8) = some (ad 22) := hH.qS a8k rfl (by decide) ((wK_wr hw).q a8k (by decide) rfl) rfl
  have a22 : oa (wK W (K.1, nI (kX q (pTb.getD w 0)), K.2.2)) 22 := (wK_wr hw).a a8k (id := 200) (by decide) rfl
  have n22 : onn (wK W (K.1, nI (kX q (pTb.getD w 0)), K.2.2)) 22 = 61 := (wK_wr hw).n a8k (id := 200) (by decide) rfl (by decide)
  have Q24 : zq S 201 (ad 8) = some (ad 24) := hH.qS a8k rfl (by decide) ((wK_wr hw).q a8k (by decide) rfl) rfl
  have a24 : oa (wK W (K.1, nI (kX q (pTb.getD w 0)), K.2.2)) 24 := (wK_wr hw).a a8k (id := 201) (by decide) rfl
  have n24 : onn (wK W (K.1, nI (kX q (pTb.getD w 0)), K.2.2)) 24 = 61 := (wK_wr hw).n a8k (id := 201) (by decide) rfl (by decide)
  have Q26 : zq S 202 (ad 8) = some (ad 26) := hH.qS a8k rfl (by decide) ((wK_wr hw).q a8k (by decide) rfl) rfl
  have a26 : oa (wK W (K.1, nI (kX q (pTb.getD w 0)), K.2.2)) 26 := (wK_wr hw).a a8k (id := 202) (by decide) rfl
  have n26 : onn (wK W (K.1, nI (kX q (pTb.getD w 0)), K.2.2)) 26 = 61 := (wK_wr hw).n a8k (id := 202) (by decide) rfl (by decide)
  have Q28 : zq S 203 (ad 8) = some (ad 28) := hH.qS a8k rfl (by decide) ((wK_wr hw).q a8k (by decide) rfl) rfl
  have a28 : oa (wK W (K.1, nI (kX q (pTb.getD w 0)), K.2.2)) 28 := (wK_wr hw).a a8k (id := 203) (by decide) rfl
  have n28 : onn (wK W (K.1, nI (kX q (pTb.getD w 0)), K.2.2)) 28 = 61 := (wK_wr hw).n a8k (id := 203) (by decide) rfl (by decide)
  have Q30 : zq S 204 (ad 8) = some (ad 30) := hH.qS a8k rfl (by decide) ((wK_wr hw).q a8k (by decide) rfl) rfl
  have a30 : oa (wK W (K.1, nI (kX q (pTb.getD w 0)), K.2.2)) 30 := (wK_wr hw).a a8k (id := 204) (by decide) rfl
  have n30 : onn (wK W (K.1, nI (kX q (pTb.getD w 0)), K.2.2)) 30 = 61 := (wK_wr hw).n a8k (id := 204) (by decide) rfl (by decide)
  have R0 : zA S (ad (200 + 12 * f)) 7 := hH.al (wK_a.mpr hra) rfl hkr.1
  have Qw : zq S 705 (ad (200 + 12 * f)) = some (ad ((200 + 12 * f) + 2)) := hH.qS (wK_a.mpr hra) rfl (by rw [hkr.1]; decide) ((wK_wr hw).q (wK_a.mpr hra) (by decide) hkr.1) rfl
  have rw_ : oa (wK W (K.1, nI (kX q (pTb.getD w 0)), K.2.2)) ((200 + 12 * f) + 2) := (wK_wr hw).a (wK_a.mpr hra) (id := 705) (by decide) hkr.1
  have mw : onn (wK W (K.1, nI (kX q (pTb.getD w 0)), K.2.2)) ((200 + 12 * f) + 2) = 60 := (wK_wr hw).n (wK_a.mpr hra) (id := 705) (by decide) hkr.1 (by decide)
  have Qn : zq S 706 (ad (200 + 12 * f)) = some (ad ((200 + 12 * f) + 4)) := hH.qS (wK_a.mpr hra) rfl (by rw [hkr.1]; decide) ((wK_wr hw).q (wK_a.mpr hra) (by decide) hkr.1) rfl
  have rn : oa (wK W (K.1, nI (kX q (pTb.getD w 0)), K.2.2)) ((200 + 12 * f) + 4) := (wK_wr hw).a (wK_a.mpr hra) (id := 706) (by decide) hkr.1
  have mn : onn (wK W (K.1, nI (kX q (pTb.getD w 0)), K.2.2)) ((200 + 12 * f) + 4) = 60 := (wK_wr hw).n (wK_a.mpr hra) (id := 706) (by decide) hkr.1 (by decide)
  have Qe : zq S 707 (ad (200 + 12 * f)) = some (ad ((200 + 12 * f) + 6)) := hH.qS (wK_a.mpr hra) rfl (by rw [hkr.1]; decide) ((wK_wr hw).q (wK_a.mpr hra) (by decide) hkr.1) rfl
  have re : oa (wK W (K.1, nI (kX q (pTb.getD w 0)), K.2.2)) ((200 + 12 * f) + 6) := (wK_wr hw).a (wK_a.mpr hra) (id := 707) (by decide) hkr.1
  have me : onn (wK W (K.1, nI (kX q (pTb.getD w 0)), K.2.2)) ((200 + 12 * f) + 6) = 60 := (wK_wr hw).n (wK_a.mpr hra) (id := 707) (by decide) hkr.1 (by decide)
  have Qg : zq S 708 (ad (200 + 12 * f)) = some (ad ((200 + 12 * f) + 8)) := hH.qS (wK_a.mpr hra) rfl (by rw [hkr.1]; decide) ((wK_wr hw).q (wK_a.mpr hra) (by decide) hkr.1) rfl
  have rg_ : oa (wK W (K.1, nI (kX q (pTb.getD w 0)), K.2.2)) ((200 + 12 * f) + 8) := (wK_wr hw).a (wK_a.mpr hra) (id := 708) (by decide) hkr.1
  have mg : onn (wK W (K.1, nI (kX q (pTb.getD w 0)), K.2.2)) ((200 + 12 * f) + 8) = 60 := (wK_wr hw).n (wK_a.mpr hra) (id := 708) (by decide) hkr.1 (by decide)
  have Qb : zq S 709 (ad (200 + 12 * f)) = some (ad ((200 + 12 * f) + 10)) := hH.qS (wK_a.mpr hra) rfl (by rw [hkr.1]; decide) ((wK_wr hw).q (wK_a.mpr hra) (by decide) hkr.1) rfl
  have rb : oa (wK W (K.1, nI (kX q (pTb.getD w 0)), K.2.2)) ((200 + 12 * f) + 10) := (wK_wr hw).a (wK_a.mpr hra) (id := 709) (by decide) hkr.1
  have mb : onn (wK W (K.1, nI (kX q (pTb.getD w 0)), K.2.2)) ((200 + 12 * f) + 10) = 60 := (wK_wr hw).n (wK_a.mpr hra) (id := 709) (by decide) hkr.1 (by decide)
  refine r_if_ne (tgt := 29) F dX1_wordFits_24 (by decide) (fun c24 => ?_) (fun c24 => ?_)
  · refine r_iload_n F dX1_wordFits_29 rfl ?_
    have hy1 : kY q (pTb.getD w 0) := if10 c24
    by_cases hwm : (23 ≤ w ∧ w ≤ 25)
    · refine r_table (off := 54) (tgt := 84) F dX1_wordFits_30 ((show ∀ w : Nat, w < 36 → ((23 ≤ w ∧ w ≤ 25)) → (if (nI w).toInt < 23 ∨ 32 < (nI w).toInt then some (152 : Int) else (#[54, 54, 54, 73, 80, 87, 87, 94, 111, 145] : Array Int)[((nI w).toInt - 23).toNat]?) = some (54 : Int) from by decide) w w36 hwm) (by decide) ?_
      refine r_aload_n F dX1_wordFits_84 rfl ?_
      refine r_getS (ci := 7) (k := 9) (id := 709) (C := RX6) (T := TX6) (N := 13) F G rfl (by decide) (by decide) rfl (zinL inG7) (zin kf_X1_86) (fun _ h9 => h9) dX1_wordFits_85 R0 Qb ?_
      refine r_iload_n F dX1_wordFits_88 rfl ?_
      refine r_aload_n F dX1_wordFits_89 rfl ?_
      refine r_getiS (ci := 2) (k := 6) (id := 206) (C := RX1) (T := TX1) (N := 7) F G rfl (by decide) (by decide) rfl (zinL inG2) (zin kf_X1_51) (fun _ h9 => h9) dX1_wordFits_90 A8 IH ?_
      refine v_iast F G hH (n := k) rb rfl hkr.2.2.2.2.2 (by omega) (by omega) dX1_wordFits_93 (fun S hH => ?_)
      rw [hrt0.sb, hrt0.kb] at hH
      obtain ⟨W1, hrt1, hH⟩ : ∃ W1, rtX W W1 f (ori W ((200 + 12 * f) + 6)) (ori W ((200 + 12 * f) + 8)) (upd (ori W ((200 + 12 * f) + 10)) k (nI (kX q (pTb.getD w 0)))) ∧ zH t0 X S0 ad (wK W1 (K.1, nI (kX q (pTb.getD w 0)), K.2.2)) S := ⟨_, hrt0.b, hH⟩
      have hw1 := hrt1.wr hw
      have a81 := hrt1.oa.mpr a8
      have hra1 := hrt1.oa.mpr hR.1
      clear A8 JO IH Q22 Q24 Q26 Q28 Q30
      clear R0 Qw rw_ mw Qn rn mn Qe re me Qg rg_ mg Qb rb mb
      have a8k : oa (wK W1 (K.1, nI (kX q (pTb.getD w 0)), K.2.2)) 8 := wK_a.mpr a81
      have A8 : zA S (ad 8) 2 := hH.al a8k rfl rfl
      have JO : zi S 205 (ad 8) = ((K.1, nI (kX q (pTb.getD w 0)), K.2.2)).1 := hH.i a8k rfl (by decide)
      have IH : zi S 206 (ad 8) = ((K.1, nI (kX q (pTb.getD w 0)), K.2.2)).2.1 := hH.i a8k rfl (by decide)
      have Q22 : zq S 200 (ad 8) = some (ad 22) := hH.qS a8k rfl (by decide) ((wK_wr hw1).q a8k (by decide) rfl) rfl
      have a22 : oa (wK W1 (K.1, nI (kX q (pTb.getD w 0)), K.2.2)) 22 := (wK_wr hw1).a a8k (id := 200) (by decide) rfl
      have n22 : onn (wK W1 (K.1, nI (kX q (pTb.getD w 0)), K.2.2)) 22 = 61 := (wK_wr hw1).n a8k (id := 200) (by decide) rfl (by decide)
      have Q24 : zq S 201 (ad 8) = some (ad 24) := hH.qS a8k rfl (by decide) ((wK_wr hw1).q a8k (by decide) rfl) rfl
      have a24 : oa (wK W1 (K.1, nI (kX q (pTb.getD w 0)), K.2.2)) 24 := (wK_wr hw1).a a8k (id := 201) (by decide) rfl
      have n24 : onn (wK W1 (K.1, nI (kX q (pTb.getD w 0)), K.2.2)) 24 = 61 := (wK_wr hw1).n a8k (id := 201) (by decide) rfl (by decide)
      have Q26 : zq S 202 (ad 8) = some (ad 26) := hH.qS a8k rfl (by decide) ((wK_wr hw1).q a8k (by decide) rfl) rfl
      have a26 : oa (wK W1 (K.1, nI (kX q (pTb.getD w 0)), K.2.2)) 26 := (wK_wr hw1).a a8k (id := 202) (by decide) rfl
      have n26 : onn (wK W1 (K.1, nI (kX q (pTb.getD w 0)), K.2.2)) 26 = 61 := (wK_wr hw1).n a8k (id := 202) (by decide) rfl (by decide)
      have Q28 : zq S 203 (ad 8) = some (ad 28) := hH.qS a8k rfl (by decide) ((wK_wr hw1).q a8k (by decide) rfl) rfl
      have a28 : oa (wK W1 (K.1, nI (kX q (pTb.getD w 0)), K.2.2)) 28 := (wK_wr hw1).a a8k (id := 203) (by decide) rfl
      have n28 : onn (wK W1 (K.1, nI (kX q (pTb.getD w 0)), K.2.2)) 28 = 61 := (wK_wr hw1).n a8k (id := 203) (by decide) rfl (by decide)
      have Q30 : zq S 204 (ad 8) = some (ad 30) := hH.qS a8k rfl (by decide) ((wK_wr hw1).q a8k (by decide) rfl) rfl
      have a30 : oa (wK W1 (K.1, nI (kX q (pTb.getD w 0)), K.2.2)) 30 := (wK_wr hw1).a a8k (id := 204) (by decide) rfl
      have n30 : onn (wK W1 (K.1, nI (kX q (pTb.getD w 0)), K.2.2)) 30 = 61 := (wK_wr hw1).n a8k (id := 204) (by decide) rfl (by decide)
      have R0 : zA S (ad (200 + 12 * f)) 7 := hH.al (wK_a.mpr hra1) rfl hkr.1
      have Qw : zq S 705 (ad (200 + 12 * f)) = some (ad ((200 + 12 * f) + 2)) := hH.qS (wK_a.mpr hra1) rfl (by rw [hkr.1]; decide) ((wK_wr hw1).q (wK_a.mpr hra1) (by decide) hkr.1) rfl
      have rw_ : oa (wK W1 (K.1, nI (kX q (pTb.getD w 0)), K.2.2)) ((200 + 12 * f) + 2) := (wK_wr hw1).a (wK_a.mpr hra1) (id := 705) (by decide) hkr.1
      have mw : onn (wK W1 (K.1, nI (kX q (pTb.getD w 0)), K.2.2)) ((200 + 12 * f) + 2) = 60 := (wK_wr hw1).n (wK_a.mpr hra1) (id := 705) (by decide) hkr.1 (by decide)
      have Qn : zq S 706 (ad (200 + 12 * f)) = some (ad ((200 + 12 * f) + 4)) := hH.qS (wK_a.mpr hra1) rfl (by rw [hkr.1]; decide) ((wK_wr hw1).q (wK_a.mpr hra1) (by decide) hkr.1) rfl
      have rn : oa (wK W1 (K.1, nI (kX q (pTb.getD w 0)), K.2.2)) ((200 + 12 * f) + 4) := (wK_wr hw1).a (wK_a.mpr hra1) (id := 706) (by decide) hkr.1
      have mn : onn (wK W1 (K.1, nI (kX q (pTb.getD w 0)), K.2.2)) ((200 + 12 * f) + 4) = 60 := (wK_wr hw1).n (wK_a.mpr hra1) (id := 706) (by decide) hkr.1 (by decide)
      have Qe : zq S 707 (ad (200 + 12 * f)) = some (ad ((200 + 12 * f) + 6)) := hH.qS (wK_a.mpr hra1) rfl (by rw [hkr.1]; decide) ((wK_wr hw1).q (wK_a.mpr hra1) (by decide) hkr.1) rfl
      have re : oa (wK W1 (K.1, nI (kX q (pTb.getD w 0)), K.2.2)) ((200 + 12 * f) + 6) := (wK_wr hw1).a (wK_a.mpr hra1) (id := 707) (by decide) hkr.1
      have me : onn (wK W1 (K.1, nI (kX q (pTb.getD w 0)), K.2.2)) ((200 + 12 * f) + 6) = 60 := (wK_wr hw1).n (wK_a.mpr hra1) (id := 707) (by decide) hkr.1 (by decide)
      have Qg : zq S 708 (ad (200 + 12 * f)) = some (ad ((200 + 12 * f) + 8)) := hH.qS (wK_a.mpr hra1) rfl (by rw [hkr.1]; decide) ((wK_wr hw1).q (wK_a.mpr hra1) (by decide) hkr.1) rfl
      have rg_ : oa (wK W1 (K.1, nI (kX q (pTb.getD w 0)), K.2.2)) ((200 + 12 * f) + 8) := (wK_wr hw1).a (wK_a.mpr hra1) (id := 708) (by decide) hkr.1
      have mg : onn (wK W1 (K.1, nI (kX q (pTb.getD w 0)), K.2.2)) ((200 + 12 * f) + 8) = 60 := (wK_wr hw1).n (wK_a.mpr hra1) (id := 708) (by decide) hkr.1 (by decide)
      have Qb : zq S 709 (ad (200 + 12 * f)) = some (ad ((200 + 12 * f) + 10)) := hH.qS (wK_a.mpr hra1) rfl (by rw [hkr.1]; decide) ((wK_wr hw1).q (wK_a.mpr hra1) (by decide) hkr.1) rfl
      have rb : oa (wK W1 (K.1, nI (kX q (pTb.getD w 0)), K.2.2)) ((200 + 12 * f) + 10) := (wK_wr hw1).a (wK_a.mpr hra1) (id := 709) (by decide) hkr.1
      have mb : onn (wK W1 (K.1, nI (kX q (pTb.getD w 0)), K.2.2)) ((200 + 12 * f) + 10) = 60 := (wK_wr hw1).n (wK_a.mpr hra1) (id := 709) (by decide) hkr.1 (by decide)
      refine r_aload_n F dX1_wordFits_94 rfl ?_
      refine r_iload_n F dX1_wordFits_95 rfl ?_
      refine r_iload F dX1_wordFits_96 rfl ?_
      obtain ⟨aj, haj, eaj⟩ := hg.2.2.1 hwm
      have hnk := hI.2.1
      subst eaj
      refine c_Vv (ci := 2) F G (c_kbegin hw1 a81 hH (t := kn q) (by show K.1 + 1 = _; rw [hQ.1, show nI (kn q - 1) + 1 = nI ((kn q - 1) + 1) from nI_add _ 1, show (kn q - 1) + 1 = kn q by omega]) (by omega)) (cwV 2 F.2.2.2.2 (zgV km_X1_57 ki_X1_begin ke_X1_X1_begin kn_X1 ko_X1_begin) rfl rfl rfl ⟨rfl, hd_yX1_begin⟩ ⟨Nat.le_of_ble_eq_true rfl, Nat.le_of_ble_eq_true rfl⟩) rfl (by decide) A8 rfl rfl (Nat.le_of_ble_eq_true rfl) dX1_wordFits_98 ⟨Nat.le_of_ble_eq_true rfl, Nat.le_of_ble_eq_true rfl⟩ (fun S98 hH => ?_)
      refine r_iconst (v := 1) F dX1_wordFits_101 (by decide) ?_
      have n31 : ¬ w = 31 := by omega
      have n32 : ¬ w = 32 := by omega
      rw [(pp_t n31 n32).1, (pp_t n31 n32).2, if_pos hy1] at hst
      have u0 : puTb.getD w 0 = 0 := (show ∀ w : Nat, w < 36 → (23 ≤ w ∧ w ≤ 25) → puTb.getD w 0 = 0 from by decide) w w36 hwm
      rw [u0, kS2_o hwm, nI_clamp (by omega)] at hst
      have he : kSt v f k q = _ := ki_T hst
      have h7 := ki_some he (zbo.y (True.intro : True))
      exact e_zret F hr rfl hlk ⟨h7.1, W1, _, hH, fun q' hq' => by
        obtain ⟨h8, e8⟩ := h7.2 q' hq'
        subst e8
        exact ⟨hQ1.op hI1.1, by unfold sE sG sB; rw [if_neg (by omega), if_neg (by omega), if_neg (by omega), if_neg (by omega), if_pos hwm]; exact hrt1⟩, _, _, _, hrt1⟩ (by decide) (by decide) dX1_wordFits_102
    · have hwn : ¬ ((23 ≤ w ∧ w ≤ 25)) := hwm
      clear hwm
      by_cases hwm : w = 26
      · refine r_table (off := 73) (tgt := 103) F dX1_wordFits_30 ((show ∀ w : Nat, w < 36 → (w = 26) → (if (nI w).toInt < 23 ∨ 32 < (nI w).toInt then some (152 : Int) else (#[54, 54, 54, 73, 80, 87, 87, 94, 111, 145] : Array Int)[((nI w).toInt - 23).toNat]?) = some (73 : Int) from by decide) w w36 hwm) (by decide) ?_
        refine r_aload_n F dX1_wordFits_103 rfl ?_
        refine r_aload_n F dX1_wordFits_104 rfl ?_
        refine r_iload_n F dX1_wordFits_105 rfl ?_
        refine c_Vi (ci := 2) F G (c_kturn hw a8 hH hv hf hR hQ1 hI1 hk hH30 hEl) (cwV 2 F.2.2.2.2 (zgV km_X1_87 ki_X1_turn ke_X1_X1_turn kn_X1 ko_X1_turn) rfl rfl rfl ⟨rfl, hd_yX1_turn⟩ ⟨Nat.le_of_ble_eq_true rfl, Nat.le_of_ble_eq_true rfl⟩) rfl (by decide) A8 rfl rfl (Nat.le_of_ble_eq_true rfl) dX1_wordFits_106 ⟨Nat.le_of_ble_eq_true rfl, Nat.le_of_ble_eq_true rfl⟩ (fun r106 S106 h106 => ?_)
        obtain ⟨z106, W1, K9, hH, hc, E2, G2, B2, hrt9⟩ := h106
        have n31 : ¬ w = 31 := by omega
        have n32 : ¬ w = 32 := by omega
        rw [(pp_t n31 n32).1, (pp_t n31 n32).2, if_pos hy1] at hst
        have u0 : puTb.getD w 0 = 0 := by rw [hwm]; rfl
        rw [u0, hwm, kS2_e, ← hwm] at hst
        have he : kSt v f k q = _ := hst
        have h7 := ki_some he z106
        exact e_zret F hr z106.nar hlk ⟨h7.1, W1, K9, hH, fun q' hq' => by
          obtain ⟨h8, e8⟩ := h7.2 q' hq'
          subst e8
          exact ⟨(hc h8).1, by unfold sE sG sB; rw [if_neg (by omega), if_pos hwm, if_neg (by omega)]; exact (hc h8).2⟩, _, _, _, hrt9⟩ (by decide) (by decide) dX1_wordFits_109
      · have hwn : ¬ (w = 26) := hwm
        clear hwm
        by_cases hwm : w = 27
        · refine r_table (off := 80) (tgt := 110) F dX1_wordFits_30 ((show ∀ w : Nat, w < 36 → (w = 27) → (if (nI w).toInt < 23 ∨ 32 < (nI w).toInt then some (152 : Int) else (#[54, 54, 54, 73, 80, 87, 87, 94, 111, 145] : Array Int)[((nI w).toInt - 23).toNat]?) = some (80 : Int) from by decide) w w36 hwm) (by decide) ?_
          refine r_aload_n F dX1_wordFits_110 rfl ?_
          refine r_aload_n F dX1_wordFits_111 rfl ?_
          refine r_iload_n F dX1_wordFits_112 rfl ?_
          refine c_Vi (ci := 2) F G (c_kfinish hw a8 hH hv hf hR hQ1 hI1 hk hH30 hEl) (cwV 2 F.2.2.2.2 (zgV km_X1_90 ki_X1_finish ke_X1_X1_finish kn_X1 ko_X1_finish) rfl rfl rfl ⟨rfl, hd_yX1_finish⟩ ⟨Nat.le_of_ble_eq_true rfl, Nat.le_of_ble_eq_true rfl⟩) rfl (by decide) A8 rfl rfl (Nat.le_of_ble_eq_true rfl) dX1_wordFits_113 ⟨Nat.le_of_ble_eq_true rfl, Nat.le_of_ble_eq_true rfl⟩ (fun r106 S106 h106 => ?_)
          obtain ⟨z106, W1, K9, hH, hc, E2, G2, B2, hrt9⟩ := h106
          have n31 : ¬ w = 31 := by omega
          have n32 : ¬ w = 32 := by omega
          rw [(pp_t n31 n32).1, (pp_t n31 n32).2, if_pos hy1] at hst
          have u0 : puTb.getD w 0 = 0 := by rw [hwm]; rfl
          rw [u0, hwm, kS2_n, ← hwm] at hst
          have he : kSt v f k q = _ := hst
          have h7 := ki_some he z106
          exact e_zret F hr z106.nar hlk ⟨h7.1, W1, K9, hH, fun q' hq' => by
            obtain ⟨h8, e8⟩ := h7.2 q' hq'
            subst e8
            exact ⟨(hc h8).1, by unfold sE sG sB; rw [if_pos hwm, if_neg (by omega), if_pos hwm, if_neg (by omega)]; exact (hc h8).2⟩, _, _, _, hrt9⟩ (by decide) (by decide) dX1_wordFits_116
        · have hwn : ¬ (w = 27) := hwm
          clear hwm
          by_cases hwm : (28 ≤ w ∧ w ≤ 29)
          · refine r_table (off := 87) (tgt := 117) F dX1_wordFits_30 ((show ∀ w : Nat, w < 36 → ((28 ≤ w ∧ w ≤ 29)) → (if (nI w).toInt < 23 ∨ 32 < (nI w).toInt then some (152 : Int) else (#[54, 54, 54, 73, 80, 87, 87, 94, 111, 145] : Array Int)[((nI w).toInt - 23).toNat]?) = some (87 : Int) from by decide) w w36 hwm) (by decide) ?_
            refine r_aload_n F dX1_wordFits_117 rfl ?_
            refine r_aload_n F dX1_wordFits_118 rfl ?_
            refine r_iload_n F dX1_wordFits_119 rfl ?_
            obtain ⟨aj, haj, eaj⟩ := hg.2.2.2.1 (show w = 28 ∨ w = 29 by omega)
            refine c_Vi (ci := 2) F G (c_kjump hw a8 hH hv hf hR hQ1 hI1 hk hH30 (a := aj) (w := w) (ha.trans eaj) (by omega) hw9) (cwV 2 F.2.2.2.2 (zgV km_X1_93 ki_X1_jump ke_X1_X1_jump kn_X1 ko_X1_jump) rfl rfl rfl ⟨rfl, hd_yX1_jump⟩ ⟨Nat.le_of_ble_eq_true rfl, Nat.le_of_ble_eq_true rfl⟩) rfl (by decide) A8 rfl rfl (Nat.le_of_ble_eq_true rfl) dX1_wordFits_120 ⟨Nat.le_of_ble_eq_true rfl, Nat.le_of_ble_eq_true rfl⟩ (fun r106 S106 h106 => ?_)
            obtain ⟨z106, W1, K9, hH, hc, E2, G2, B2, hrt9⟩ := h106
            have n31 : ¬ w = 31 := by omega
            have n32 : ¬ w = 32 := by omega
            rw [(pp_t n31 n32).1, (pp_t n31 n32).2, if_pos hy1] at hst
            have hw2 : w = 28 ∨ w = 29 := by omega
            have u0 : puTb.getD w 0 = 0 := (show ∀ w : Nat, w < 36 → (w = 28 ∨ w = 29) → puTb.getD w 0 = 0 from by decide) w w36 hw2
            subst eaj
            rw [u0, kS2_b hw2 (nI_clamp (by omega))] at hst
            have he : kSt v f k q = _ := hst
            have h7 := ki_some he z106
            exact e_zret F hr z106.nar hlk ⟨h7.1, W1, K9, hH, fun q' hq' => by
              obtain ⟨h8, e8⟩ := h7.2 q' hq'
              subst e8
              exact ⟨(hc h8).1, by unfold sE sG sB; rw [if_neg (by omega), if_neg (by omega), if_neg (by omega), if_pos hw2, if_neg (show ¬ (23 ≤ w ∧ w ≤ 25) by omega), nI_clamp (by omega)]; exact (hc h8).2⟩, _, _, _, hrt9⟩ (by decide) (by decide) dX1_wordFits_123
          · have hwn : ¬ ((28 ≤ w ∧ w ≤ 29)) := hwm
            clear hwm
            by_cases hwm : w = 30
            · refine r_table (off := 94) (tgt := 124) F dX1_wordFits_30 ((show ∀ w : Nat, w < 36 → (w = 30) → (if (nI w).toInt < 23 ∨ 32 < (nI w).toInt then some (152 : Int) else (#[54, 54, 54, 73, 80, 87, 87, 94, 111, 145] : Array Int)[((nI w).toInt - 23).toNat]?) = some (94 : Int) from by decide) w w36 hwm) (by decide) ?_
              have hres := rg_1206 hv (k := f) hf
              have Ires : zi S 703 (ad (200 + 12 * f)) = nI (cn v 1206 f) := (hH.i (wK_a.mpr hR.1) rfl (by rw [hkr.1]; decide)).trans (by show (wK W (K.1, nI (kX q (pTb.getD w 0)), K.2.2) (200 + 12 * f)).2.1 703 = _; rw [wK_n (c := 200 + 12 * f) (rcell (k := 0) (by omega))]; exact hR.2.2.2.2.1.trans hres.1)
              refine r_aload_n F dX1_wordFits_124 rfl ?_
              refine r_aload_n F dX1_wordFits_125 rfl ?_
              refine r_getiS (ci := 7) (k := 3) (id := 703) (C := RX6) (T := TX6) (N := 13) F G rfl (by decide) (by decide) rfl (zinL inG7) (zin kf_X1_54) (fun _ h9 => h9) dX1_wordFits_126 R0 Ires ?_
              refine c_Vi (ci := 2) F G (c_kpop hw a8 hH (t := (kn q - 1)) (h := (kX q (pTb.getD w 0))) (b := kb q (kn q - 1)) (dd := kdd q (kn q - 1)) (w := cn v 1206 f) hQ.1 (by omega) rfl hT.2.2.1 hx1.1 (by omega) hT.2.2.2.2 (by have := hres.2; omega)) (cwV 1 F.2.2.2.2 (zgV km_X1_82 ki_X1_pop ke_X1_X1_pop kn_X1 ko_X1_pop) rfl rfl rfl ⟨rfl, hd_yX1_pop⟩ ⟨Nat.le_of_ble_eq_true rfl, Nat.le_of_ble_eq_true rfl⟩) rfl (by decide) A8 rfl rfl (Nat.le_of_ble_eq_true rfl) dX1_wordFits_129 ⟨Nat.le_of_ble_eq_true rfl, Nat.le_of_ble_eq_true rfl⟩ (fun r129 S129 h129 => ?_)
              obtain ⟨e129, hH⟩ := h129
              subst e129
              refine zgen (P := zH t0 X S0 ad (wK W (K.1, nI (kX (setH q (kX q (pTb.getD w 0))) (cn v 1206 f)), K.2.2))) hH (fun S hH => ?_)
              clear Ires
              clear A8 JO IH Q22 Q24 Q26 Q28 Q30
              clear R0 Qw rw_ mw Qn rn mn Qe re me Qg rg_ mg Qb rb mb
              have a8k : oa (wK W (K.1, nI (kX (setH q (kX q (pTb.getD w 0))) (cn v 1206 f)), K.2.2)) 8 := wK_a.mpr a8
              have A8 : zA S (ad 8) 2 := hH.al a8k rfl rfl
              have JO : zi S 205 (ad 8) = ((K.1, nI (kX (setH q (kX q (pTb.getD w 0))) (cn v 1206 f)), K.2.2)).1 := hH.i a8k rfl (by decide)
              have IH : zi S 206 (ad 8) = ((K.1, nI (kX (setH q (kX q (pTb.getD w 0))) (cn v 1206 f)), K.2.2)).2.1 := hH.i a8k rfl (by decide)
              have Q22 : zq S 200 (ad 8) = some (ad 22) := hH.qS a8k rfl (by decide) ((wK_wr hw).q a8k (by decide) rfl) rfl
              have a22 : oa (wK W (K.1, nI (kX (setH q (kX q (pTb.getD w 0))) (cn v 1206 f)), K.2.2)) 22 := (wK_wr hw).a a8k (id := 200) (by decide) rfl
              have n22 : onn (wK W (K.1, nI (kX (setH q (kX q (pTb.getD w 0))) (cn v 1206 f)), K.2.2)) 22 = 61 := (wK_wr hw).n a8k (id := 200) (by decide) rfl (by decide)
              have Q24 : zq S 201 (ad 8) = some (ad 24) := hH.qS a8k rfl (by decide) ((wK_wr hw).q a8k (by decide) rfl) rfl
              have a24 : oa (wK W (K.1, nI (kX (setH q (kX q (pTb.getD w 0))) (cn v 1206 f)), K.2.2)) 24 := (wK_wr hw).a a8k (id := 201) (by decide) rfl
              have n24 : onn (wK W (K.1, nI (kX (setH q (kX q (pTb.getD w 0))) (cn v 1206 f)), K.2.2)) 24 = 61 := (wK_wr hw).n a8k (id := 201) (by decide) rfl (by decide)
              have Q26 : zq S 202 (ad 8) = some (ad 26) := hH.qS a8k rfl (by decide) ((wK_wr hw).q a8k (by decide) rfl) rfl
              have a26 : oa (wK W (K.1, nI (kX (setH q (kX q (pTb.getD w 0))) (cn v 1206 f)), K.2.2)) 26 := (wK_wr hw).a a8k (id := 202) (by decide) rfl
              have n26 : onn (wK W (K.1, nI (kX (setH q (kX q (pTb.getD w 0))) (cn v 1206 f)), K.2.2)) 26 = 61 := (wK_wr hw).n a8k (id := 202) (by decide) rfl (by decide)
              have Q28 : zq S 203 (ad 8) = some (ad 28) := hH.qS a8k rfl (by decide) ((wK_wr hw).q a8k (by decide) rfl) rfl
              have a28 : oa (wK W (K.1, nI (kX (setH q (kX q (pTb.getD w 0))) (cn v 1206 f)), K.2.2)) 28 := (wK_wr hw).a a8k (id := 203) (by decide) rfl
              have n28 : onn (wK W (K.1, nI (kX (setH q (kX q (pTb.getD w 0))) (cn v 1206 f)), K.2.2)) 28 = 61 := (wK_wr hw).n a8k (id := 203) (by decide) rfl (by decide)
              have Q30 : zq S 204 (ad 8) = some (ad 30) := hH.qS a8k rfl (by decide) ((wK_wr hw).q a8k (by decide) rfl) rfl
              have a30 : oa (wK W (K.1, nI (kX (setH q (kX q (pTb.getD w 0))) (cn v 1206 f)), K.2.2)) 30 := (wK_wr hw).a a8k (id := 204) (by decide) rfl
              have n30 : onn (wK W (K.1, nI (kX (setH q (kX q (pTb.getD w 0))) (cn v 1206 f)), K.2.2)) 30 = 61 := (wK_wr hw).n a8k (id := 204) (by decide) rfl (by decide)
              have R0 : zA S (ad (200 + 12 * f)) 7 := hH.al (wK_a.mpr hra) rfl hkr.1
              have Qw : zq S 705 (ad (200 + 12 * f)) = some (ad ((200 + 12 * f) + 2)) := hH.qS (wK_a.mpr hra) rfl (by rw [hkr.1]; decide) ((wK_wr hw).q (wK_a.mpr hra) (by decide) hkr.1) rfl
              have rw_ : oa (wK W (K.1, nI (kX (setH q (kX q (pTb.getD w 0))) (cn v 1206 f)), K.2.2)) ((200 + 12 * f) + 2) := (wK_wr hw).a (wK_a.mpr hra) (id := 705) (by decide) hkr.1
              have mw : onn (wK W (K.1, nI (kX (setH q (kX q (pTb.getD w 0))) (cn v 1206 f)), K.2.2)) ((200 + 12 * f) + 2) = 60 := (wK_wr hw).n (wK_a.mpr hra) (id := 705) (by decide) hkr.1 (by decide)
              have Qn : zq S 706 (ad (200 + 12 * f)) = some (ad ((200 + 12 * f) + 4)) := hH.qS (wK_a.mpr hra) rfl (by rw [hkr.1]; decide) ((wK_wr hw).q (wK_a.mpr hra) (by decide) hkr.1) rfl
              have rn : oa (wK W (K.1, nI (kX (setH q (kX q (pTb.getD w 0))) (cn v 1206 f)), K.2.2)) ((200 + 12 * f) + 4) := (wK_wr hw).a (wK_a.mpr hra) (id := 706) (by decide) hkr.1
              have mn : onn (wK W (K.1, nI (kX (setH q (kX q (pTb.getD w 0))) (cn v 1206 f)), K.2.2)) ((200 + 12 * f) + 4) = 60 := (wK_wr hw).n (wK_a.mpr hra) (id := 706) (by decide) hkr.1 (by decide)
              have Qe : zq S 707 (ad (200 + 12 * f)) = some (ad ((200 + 12 * f) + 6)) := hH.qS (wK_a.mpr hra) rfl (by rw [hkr.1]; decide) ((wK_wr hw).q (wK_a.mpr hra) (by decide) hkr.1) rfl
              have re : oa (wK W (K.1, nI (kX (setH q (kX q (pTb.getD w 0))) (cn v 1206 f)), K.2.2)) ((200 + 12 * f) + 6) := (wK_wr hw).a (wK_a.mpr hra) (id := 707) (by decide) hkr.1
              have me : onn (wK W (K.1, nI (kX (setH q (kX q (pTb.getD w 0))) (cn v 1206 f)), K.2.2)) ((200 + 12 * f) + 6) = 60 := (wK_wr hw).n (wK_a.mpr hra) (id := 707) (by decide) hkr.1 (by decide)
              have Qg : zq S 708 (ad (200 + 12 * f)) = some (ad ((200 + 12 * f) + 8)) := hH.qS (wK_a.mpr hra) rfl (by rw [hkr.1]; decide) ((wK_wr hw).q (wK_a.mpr hra) (by decide) hkr.1) rfl
              have rg_ : oa (wK W (K.1, nI (kX (setH q (kX q (pTb.getD w 0))) (cn v 1206 f)), K.2.2)) ((200 + 12 * f) + 8) := (wK_wr hw).a (wK_a.mpr hra) (id := 708) (by decide) hkr.1
              have mg : onn (wK W (K.1, nI (kX (setH q (kX q (pTb.getD w 0))) (cn v 1206 f)), K.2.2)) ((200 + 12 * f) + 8) = 60 := (wK_wr hw).n (wK_a.mpr hra) (id := 708) (by decide) hkr.1 (by decide)
              have Qb : zq S 709 (ad (200 + 12 * f)) = some (ad ((200 + 12 * f) + 10)) := hH.qS (wK_a.mpr hra) rfl (by rw [hkr.1]; decide) ((wK_wr hw).q (wK_a.mpr hra) (by decide) hkr.1) rfl
              have rb : oa (wK W (K.1, nI (kX (setH q (kX q (pTb.getD w 0))) (cn v 1206 f)), K.2.2)) ((200 + 12 * f) + 10) := (wK_wr hw).a (wK_a.mpr hra) (id := 709) (by decide) hkr.1
              have mb : onn (wK W (K.1, nI (kX (setH q (kX q (pTb.getD w 0))) (cn v 1206 f)), K.2.2)) ((200 + 12 * f) + 10) = 60 := (wK_wr hw).n (wK_a.mpr hra) (id := 709) (by decide) hkr.1 (by decide)
              refine r_istore F dX1_wordFits_132 (by decide) ?_
              refine r_aload_n F dX1_wordFits_134 rfl ?_
              refine c_Vv (ci := 2) F G (c_kabandon hw a8 hH (t := (kn q - 1)) (b := kb q (kn q - 1)) hQ.1 (by omega) hT.2.2.1) (cwV 0 F.2.2.2.2 (zgV km_X1_96 ki_X1_abandon ke_X1_X1_abandon kn_X1 ko_X1_abandon) rfl rfl rfl ⟨rfl, hd_yX1_abandon⟩ ⟨Nat.le_of_ble_eq_true rfl, Nat.le_of_ble_eq_true rfl⟩) rfl (by decide) A8 rfl rfl (Nat.le_of_ble_eq_true rfl) dX1_wordFits_135 ⟨Nat.le_of_ble_eq_true rfl, Nat.le_of_ble_eq_true rfl⟩ (fun S135 hH => ?_)
              refine r_iload F dX1_wordFits_138 rfl ?_
              have n31 : ¬ w = 31 := by omega
              have n32 : ¬ w = 32 := by omega
              rw [(pp_t n31 n32).1, (pp_t n31 n32).2, if_pos hy1] at hst
              have z129 : zbo (if cn v 1206 f ≤ (kX q (pTb.getD w 0)) - kb q (kn q - 1) ∨ kdd q (kn q - 1) = true then 1 else 0) (kY (setH q (kX q (pTb.getD w 0))) (cn v 1206 f)) := by
                by_cases h9 : cn v 1206 f ≤ (kX q (pTb.getD w 0)) - kb q (kn q - 1) ∨ kdd q (kn q - 1) = true
                · rw [if_pos h9]; exact zbo.y h9
                · rw [if_neg h9]; exact zbo.n h9
              have u0 : puTb.getD w 0 = 0 := by rw [hwm]; rfl
              rw [u0, hwm, kS2_r, ← hwm] at hst
              have he : kSt v f k q = _ := hst
              have h7 := ki_some he z129
              exact e_zret F hr if1n hlk ⟨h7.1, W, _, hH, fun q' hq' => by
                obtain ⟨h8, e8⟩ := h7.2 q' hq'
                subst e8
                exact ⟨(hQ1.sH (kX (setH q (kX q (pTb.getD w 0))) (cn v 1206 f))).die, by unfold sE sG sB; rw [if_neg (by omega), if_neg (by omega), if_neg (by omega), if_neg (by omega), if_neg (by omega)]; exact hrt0⟩, _, _, _, hrt0⟩ (by decide) (by decide) dX1_wordFits_140
            · have hwn : ¬ (w = 30) := hwm
              clear hwm
              by_cases hwm : w = 31
              · refine r_table (off := 111) (tgt := 141) F dX1_wordFits_30 ((show ∀ w : Nat, w < 36 → (w = 31) → (if (nI w).toInt < 23 ∨ 32 < (nI w).toInt then some (152 : Int) else (#[54, 54, 54, 73, 80, 87, 87, 94, 111, 145] : Array Int)[((nI w).toInt - 23).toNat]?) = some (111 : Int) from by decide) w w36 hwm) (by decide) ?_
                have hBk := hB.k (K := (K.1, nI (kX q (pTb.getD w 0)), K.2.2)) hO
                have hfo := there_o hA hf ht
                have hU := hBk.2.1 (f / 8) hfo
                have hku := kd_u (f / 8) (by omega)
                have hyb := (rg_1204 hv (k := f / 8) (by omega)).2
                have U0 : zA S (ad (100 + 8 * (f / 8))) 10 := hH.al hU.1 rfl hku.1
                have Qo : zq S 700 (ad (200 + 12 * f)) = some (ad (100 + 8 * (f / 8))) := hH.qS (wK_a.mpr hR.1) rfl (by rw [hkr.1]; decide) (by show (wK W (K.1, nI (kX q (pTb.getD w 0)), K.2.2) (200 + 12 * f)).2.2.1 700 = _; rw [wK_n (c := 200 + 12 * f) (rcell (k := 0) (by omega))]; exact hR.2.1) rfl
                obtain ⟨j, hj, ej, hk0⟩ := hg.2.2.2.2.1 (Or.inl hwm)
                refine r_aload_n F dX1_wordFits_141 rfl ?_
                refine r_getS (ci := 7) (k := 0) (id := 700) (C := RX6) (T := TX6) (N := 13) F G rfl (by decide) (by decide) rfl (zinL inG7) (zin kf_X1_99) (fun _ h9 => h9) dX1_wordFits_142 R0 Qo ?_
                refine r_iload F dX1_wordFits_145 rfl ?_
                refine c_Vq (ci := 10) F G (c_symbolAt hH hBk.1 hU.1 rfl hku.1 hU.2.2.2 hku.2.2.2.2.2.1 hku.2.2.2.2.2.2 (fun i hi => kd_y (16 * (f / 8) + i) (by omega)) (by omega)) (cwV 1 F.2.2.2.2 (zgV km_X1_103 ki_X9_symbolAt ke_X9_X9_symbolAt kn_X9 ko_X9_symbolAt) rfl rfl rfl ⟨rfl, hd_yX9_symbolAt⟩ ⟨Nat.le_of_ble_eq_true rfl, Nat.le_of_ble_eq_true rfl⟩) rfl (by decide) U0 rfl rfl (Nat.le_of_ble_eq_true rfl) dX1_wordFits_147 ⟨Nat.le_of_ble_eq_true rfl, Nat.le_of_ble_eq_true rfl⟩ (fun r147 S147 h147 => ?_)
                obtain ⟨h147a, h147⟩ := h147
                have h147c := h147a.symm
                subst h147c
                obtain ⟨i, hi, ei, h147r⟩ := h147.resolve_right (fun h9 => h9.1 j hj ej)
                have eij : i = j := (nI_eq (by omega) (by omega)).mp (ei.symm.trans ej)
                subst eij
                subst h147r
                have hY9 : (16 * (f / 8) + i) < 96 := by omega
                have hT9 : (16 * (f / 8) + i) % 16 < cn v 1204 ((16 * (f / 8) + i) / 16) := by rw [show (16 * (f / 8) + i) / 16 = f / 8 by omega]; omega
                have Y0 : zA S (ad (cY (16 * (f / 8) + i))) 9 := hH.al (hBk.2.2.2.2 _ hY9 hT9).1 rfl (kd_y _ hY9)
                have hsg := sg_le hv hD hY9 hT9
                refine r_astore (x := ad (cY (16 * (f / 8) + i))) F dX1_wordFits_150 (by decide) ?_
                refine r_aload F dX1_wordFits_152 rfl ?_
                refine r_ifnull F dX1_wordFits_154 ?_
                refine r_aload_n F dX1_wordFits_157 rfl ?_
                refine r_aload F dX1_wordFits_158 rfl ?_
                refine c_Vi (ci := 9) F G (c_Ysig hH hBk hv hD hY9 hT9 rfl hk0) (cwV 0 F.2.2.2.2 (zgV km_X1_109 ki_X8_signature ke_X8_X8_signature kn_X8 ko_X8_signature) rfl rfl rfl ⟨rfl, hd_yX8_signature⟩ ⟨Nat.le_of_ble_eq_true rfl, Nat.le_of_ble_eq_true rfl⟩) rfl (by decide) Y0 rfl rfl (Nat.le_of_ble_eq_true rfl) dX1_wordFits_160 ⟨Nat.le_of_ble_eq_true rfl, Nat.le_of_ble_eq_true rfl⟩ (fun r160 S160 h160 => ?_)
                obtain ⟨e160, s160⟩ := h160
                have s160c := s160.symm
                subst s160c
                subst e160
                refine c_Vi (ci := 2) F G (c_kpass hw a8 hH (t := (kn q - 1)) (h := (kX q (pTb.getD w 0))) (b := kb q (kn q - 1)) (dd := kdd q (kn q - 1)) (w := sg v (16 * (f / 8) + i)) hQ.1 (by omega) rfl hT.2.2.1 hx1.1 (by omega) hT.2.2.2.2 (by omega)) (cwV 1 F.2.2.2.2 (zgV km_X1_114 ki_X1_passThrough ke_X1_X1_passThrough kn_X1 ko_X1_passThrough) rfl rfl rfl ⟨rfl, hd_yX1_passThrough⟩ ⟨Nat.le_of_ble_eq_true rfl, Nat.le_of_ble_eq_true rfl⟩) rfl (by decide) A8 rfl rfl (Nat.le_of_ble_eq_true rfl) dX1_wordFits_163 ⟨Nat.le_of_ble_eq_true rfl, Nat.le_of_ble_eq_true rfl⟩ (fun r163 S163 h163 => ?_)
                obtain ⟨e163, hH⟩ := h163
                subst e163
                refine r_if_eq (tgt := 173) F dX1_wordFits_166 (by decide) (fun c166 => ?_) (fun c166 => ?_)
                · refine r_iconst (v := 0) F dX1_wordFits_173 (by decide) ?_
                  have p0 : pTb.getD w 0 = 0 := by rw [hwm]; rfl
                  have ep : pp v (f / 8) w a = pTb.getD w 0 + sg v (16 * (f / 8) + i) / 2 ∧ pu v (f / 8) w a = sg v (16 * (f / 8) + i) % 2 := by
                    unfold pp pu
                    rw [if_pos hwm, if_pos hwm, ej, nI_clamp (by omega), p0, Nat.zero_add]
                    exact ⟨rfl, rfl⟩
                  rw [ep.1, ep.2, kS2_d (by omega), ← kX_add hI] at hst
                  have he : kSt v f k q = _ := hst
                  have h7 := ki_some he (zbo.n (fun h9 => if01 c166 ((kY_add hI hy1).mpr h9)))
                  exact e_zret F hr rfl hlk ⟨h7.1, W, _, hH, fun q' hq' => by
                    obtain ⟨h8, e8⟩ := h7.2 q' hq'
                    subst e8
                    exact ⟨hQ.sH _, by unfold sE sG sB; rw [if_neg (by omega), if_neg (by omega), if_neg (by omega), if_neg (by omega), if_neg (by omega)]; exact hrt0⟩, _, _, _, hrt0⟩ (by decide) (by decide) dX1_wordFits_174
                · refine r_iconst (v := 1) F dX1_wordFits_169 (by decide) ?_
                  refine r_goto (tgt := 174) F dX1_wordFits_170 (by decide) ?_
                  have p0 : pTb.getD w 0 = 0 := by rw [hwm]; rfl
                  have ep : pp v (f / 8) w a = pTb.getD w 0 + sg v (16 * (f / 8) + i) / 2 ∧ pu v (f / 8) w a = sg v (16 * (f / 8) + i) % 2 := by
                    unfold pp pu
                    rw [if_pos hwm, if_pos hwm, ej, nI_clamp (by omega), p0, Nat.zero_add]
                    exact ⟨rfl, rfl⟩
                  rw [ep.1, ep.2, kS2_d (by omega), ← kX_add hI] at hst
                  have he : kSt v f k q = _ := hst
                  have h7 := ki_some he (zbo.y ((kY_add hI hy1).mp (if10 c166)))
                  exact e_zret F hr rfl hlk ⟨h7.1, W, _, hH, fun q' hq' => by
                    obtain ⟨h8, e8⟩ := h7.2 q' hq'
                    subst e8
                    exact ⟨hQ.sH _, by unfold sE sG sB; rw [if_neg (by omega), if_neg (by omega), if_neg (by omega), if_neg (by omega), if_neg (by omega)]; exact hrt0⟩, _, _, _, hrt0⟩ (by decide) (by decide) dX1_wordFits_174
              · have hwn : ¬ (w = 31) := hwm
                clear hwm
                by_cases hwm : w = 32
                · refine r_table (off := 145) (tgt := 175) F dX1_wordFits_30 ((show ∀ w : Nat, w < 36 → (w = 32) → (if (nI w).toInt < 23 ∨ 32 < (nI w).toInt then some (152 : Int) else (#[54, 54, 54, 73, 80, 87, 87, 94, 111, 145] : Array Int)[((nI w).toInt - 23).toNat]?) = some (145 : Int) from by decide) w w36 hwm) (by decide) ?_
                  obtain ⟨j, hj, ej⟩ := hg.2.2.2.2.2.1 hwm
                  subst ej
                  refine r_aload_n F dX1_wordFits_175 rfl ?_
                  refine r_iload F dX1_wordFits_176 rfl ?_
                  refine c_Vi (ci := 2) F G (c_kpass hw a8 hH (t := (kn q - 1)) (h := (kX q (pTb.getD w 0))) (b := kb q (kn q - 1)) (dd := kdd q (kn q - 1)) (w := j) hQ.1 (by omega) rfl hT.2.2.1 hx1.1 (by omega) hT.2.2.2.2 (by omega)) (cwV 1 F.2.2.2.2 (zgV km_X1_114 ki_X1_passThrough ke_X1_X1_passThrough kn_X1 ko_X1_passThrough) rfl rfl rfl ⟨rfl, hd_yX1_passThrough⟩ ⟨Nat.le_of_ble_eq_true rfl, Nat.le_of_ble_eq_true rfl⟩) rfl (by decide) A8 rfl rfl (Nat.le_of_ble_eq_true rfl) dX1_wordFits_178 ⟨Nat.le_of_ble_eq_true rfl, Nat.le_of_ble_eq_true rfl⟩ (fun r178 S178 h178 => ?_)
                  obtain ⟨e178, hH⟩ := h178
                  subst e178
                  have p0 : pTb.getD w 0 = 1 := by rw [hwm]; rfl
                  have ep : pp v (f / 8) w (nI j) = pTb.getD w 0 + j / 2 ∧ pu v (f / 8) w (nI j) = j % 2 := by
                    unfold pp pu
                    rw [if_neg (by omega), if_pos hwm, if_neg (by omega), if_pos hwm, nI_clamp (by omega), p0]
                    exact ⟨rfl, rfl⟩
                  rw [ep.1, ep.2, kS2_d (by omega), ← kX_add hI] at hst
                  have z178 : zbo (if j / 2 ≤ (kX q (pTb.getD w 0)) - kb q (kn q - 1) ∨ kdd q (kn q - 1) = true then 1 else 0) (kY q (pTb.getD w 0 + j / 2)) := by
                    by_cases h9 : j / 2 ≤ (kX q (pTb.getD w 0)) - kb q (kn q - 1) ∨ kdd q (kn q - 1) = true
                    · rw [if_pos h9]; exact zbo.y ((kY_add hI hy1).mp h9)
                    · rw [if_neg h9]; exact zbo.n (fun h8 => h9 ((kY_add hI hy1).mpr h8))
                  have he : kSt v f k q = _ := hst
                  have h7 := ki_some he z178
                  exact e_zret F hr if1n hlk ⟨h7.1, W, _, hH, fun q' hq' => by
                    obtain ⟨h8, e8⟩ := h7.2 q' hq'
                    subst e8
                    exact ⟨hQ.sH _, by unfold sE sG sB; rw [if_neg (by omega), if_neg (by omega), if_neg (by omega), if_neg (by omega), if_neg (by omega)]; exact hrt0⟩, _, _, _, hrt0⟩ (by decide) (by decide) dX1_wordFits_181
                · have hwn : ¬ (w = 32) := hwm
                  clear hwm
                  have hwm : (0 ≤ w ∧ w ≤ 22) ∨ (33 ≤ w ∧ w ≤ 35) := by omega
                  refine r_table (off := 152) (tgt := 182) F dX1_wordFits_30 ((show ∀ w : Nat, w < 36 → ((0 ≤ w ∧ w ≤ 22) ∨ (33 ≤ w ∧ w ≤ 35)) → (if (nI w).toInt < 23 ∨ 32 < (nI w).toInt then some (152 : Int) else (#[54, 54, 54, 73, 80, 87, 87, 94, 111, 145] : Array Int)[((nI w).toInt - 23).toNat]?) = some (152 : Int) from by decide) w w36 hwm) (by decide) ?_
                  refine r_aload_n F dX1_wordFits_182 rfl ?_
                  refine r_dup F dX1_wordFits_183 rfl ?_
                  refine r_getiS (ci := 2) (k := 6) (id := 206) (C := RX1) (T := TX1) (N := 7) F G rfl (by decide) (by decide) rfl (zinL inG2) (zin kf_X1_51) (fun _ h9 => h9) dX1_wordFits_184 A8 IH ?_
                  refine r_getTab F G (q := zTab[1]) (List.getElem_mem _) (zin kf_X1_117) dX1_wordFits_187 (fun tb hT1 => ?_)
                  refine r_iload_n F dX1_wordFits_190 rfl ?_
                  refine r_tabI F hT1 w36 ((show ∀ w : Nat, w < 36 → Value.int ((zTab[1]).2.getD w 0) = .int (nI (puTb.getD w 0)) from by decide) w w36) dX1_wordFits_191 ?_
                  refine r_iadd F dX1_wordFits_192 ?_
                  rw [show nI (kX q (pTb.getD w 0)) + nI (puTb.getD w 0) = nI ((kX q (pTb.getD w 0)) + puTb.getD w 0) from nI_add _ _]
                  refine r_puti (ci := 2) (k := 6) (id := 206) (C := RX1) (T := TX1) (N := 7) (ty := .int) (ty0 := tyX1) F G rfl (by decide) (by decide) rfl (zinL inG2) (zin kf_X1_51) (fun _ h9 => h9) tyX1_ok nmX1 rfl pd2_6 rfl rfl dX1_wordFits_193 A8 ?_
                  refine zgen (P := zH t0 X S0 ad (wK W (K.1, nI ((kX q (pTb.getD w 0)) + puTb.getD w 0), K.2.2))) (by rw [← wK_h (K := (K.1, nI (kX q (pTb.getD w 0)), K.2.2))]; exact hH.pi a8k rfl rfl (by decide) _) (fun S hH => ?_)
                  refine r_iconst (v := 1) F dX1_wordFits_196 (by decide) ?_
                  have n31 : ¬ w = 31 := by omega
                  have n32 : ¬ w = 32 := by omega
                  rw [(pp_t n31 n32).1, (pp_t n31 n32).2, if_pos hy1] at hst
                  rw [kS2_d (by omega)] at hst
                  have he : kSt v f k q = _ := ki_T hst
                  have h7 := ki_some he (zbo.y (True.intro : True))
                  exact e_zret F hr rfl hlk ⟨h7.1, W, _, hH, fun q' hq' => by
                    obtain ⟨h8, e8⟩ := h7.2 q' hq'
                    subst e8
                    exact ⟨hQ.sH _, by unfold sE sG sB; rw [if_neg (by omega), if_neg (by omega), if_neg (by omega), if_neg (by omega), if_neg (by omega)]; exact hrt0⟩, _, _, _, hrt0⟩ (by decide) (by decide) dX1_wordFits_197
  · refine r_iconst (v := 0) F dX1_wordFits_27 (by decide) ?_
    have hn1 : kSt v f k q = none := by
      rw [hst]
      refine if_neg (fun h9 => if01 c24 (kY_le (show pTb.getD w 0 ≤ pp v (f / 8) w a from ?_) h9))
      by_cases e1 : w = 31
      · rw [e1]; exact Nat.zero_le _
      · by_cases e2 : w = 32
        · unfold pp
          rw [if_neg e1, if_pos e2, e2]
          exact Nat.le_add_right 1 _
        · rw [(pp_t e1 e2).1]; exact Nat.le_refl _
    exact e_zret F hr rfl hlk ⟨zbo.n (fun h => by rw [hn1] at h; cases h), W, _, hH, fun q' h => (by rw [hn1] at h; cases h), _, _, _, hrt0⟩ (by decide) (by decide) dX1_wordFits_28
