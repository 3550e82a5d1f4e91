/-- the check's rows say what q says -/
def cR (q : ckS) (K : kS) : Prop := K.1 = nI (kn q - 1) ∧ K.2.1 = nI (kh q) ∧ ∀ b, b < kn q → K.2.2.1 b = (if b = 0 then -1 else nI (ko q b)) ∧ K.2.2.2.1 b = enc (ke q b) ∧ K.2.2.2.2.1 b = nI (kb q b) ∧ K.2.2.2.2.2.1 b = nI (kl q b) ∧ K.2.2.2.2.2.2 b = (if kdd q b then 1 else 0)
/-- the rows of the routine f: where its code goes -/
def rtX (W W' : zO) (f : Nat) (E G B : Nat → Int32) : Prop := (∀ d, d ≠ 200 + 12 * f + 6 → d ≠ 200 + 12 * f + 8 → d ≠ 200 + 12 * f + 10 → W' d = W d) ∧ W' (200 + 12 * f + 6) = eRi (W (200 + 12 * f + 6)) E ∧ W' (200 + 12 * f + 8) = eRi (W (200 + 12 * f + 8)) G ∧ W' (200 + 12 * f + 10) = eRi (W (200 + 12 * f + 10)) B
theorem rtX.rf {W : zO} {f : Nat} : rtX W W f (ori W (200 + 12 * f + 6)) (ori W (200 + 12 * f + 8)) (ori W (200 + 12 * f + 10)) := ⟨fun _ _ _ _ => rfl, rfl, rfl, rfl⟩
theorem rtX.e {W W' : zO} {f : Nat} {E G B E2 : Nat → Int32} (h : rtX W W' f E G B) : rtX W (oRi W' (200 + 12 * f + 6) E2) f E2 G B := ⟨fun d d1 d2 d3 => (va_up_ne _ _ d1).trans (h.1 d d1 d2 d3), (va_up_self _ _ _).trans (by rw [h.2.1]), (va_up_ne _ _ (by omega)).trans h.2.2.1, (va_up_ne _ _ (by omega)).trans h.2.2.2⟩
theorem rtX.g {W W' : zO} {f : Nat} {E G B G2 : Nat → Int32} (h : rtX W W' f E G B) : rtX W (oRi W' (200 + 12 * f + 8) G2) f E G2 B := ⟨fun d d1 d2 d3 => (va_up_ne _ _ d2).trans (h.1 d d1 d2 d3), (va_up_ne _ _ (by omega)).trans h.2.1, (va_up_self _ _ _).trans (by rw [h.2.2.1]), (va_up_ne _ _ (by omega)).trans h.2.2.2⟩
theorem rtX.b {W W' : zO} {f : Nat} {E G B B2 : Nat → Int32} (h : rtX W W' f E G B) : rtX W (oRi W' (200 + 12 * f + 10) B2) f E G B2 := ⟨fun d d1 d2 d3 => (va_up_ne _ _ d3).trans (h.1 d d1 d2 d3), (va_up_ne _ _ (by omega)).trans h.2.1, (va_up_ne _ _ (by omega)).trans h.2.2.1, (va_up_self _ _ _).trans (by rw [h.2.2.2])⟩
theorem rcell {f k : Nat} (h : k ≤ 11) : 200 + 12 * f + k ≠ 8 ∧ 200 + 12 * f + k ≠ 22 ∧ 200 + 12 * f + k ≠ 24 ∧ 200 + 12 * f + k ≠ 26 ∧ 200 + 12 * f + k ≠ 28 ∧ 200 + 12 * f + k ≠ 30 := ⟨by omega, by omega, by omega, by omega, by omega, by omega⟩
theorem enc_m1 {x : Option Nat} (hx : ∀ z, x = some z → z < 2 ^ 31) (h : enc x = -1) : x = none := by
  cases x with
  | none => rfl
  | some z => exact absurd (show (-1 : Int32) < 0 by decide) (by rw [← h]; exact nI_pos (hx z rfl))
set_option maxRecDepth 100000 in
set_option maxHeartbeats 4000000 in
theorem c_klacks {l : Launch} {N0 t0 : Nat} {D : va_G} {cy : Nat → ClassId} {S : zS} {X : Nat → Prop} {S0 : zS} {ad : Nat → Nat} {W : zO} {K : kS} (hw : wr W) (a8 : oa W 8) (hH : zH t0 X S0 ad (wK W K) S) {v : zV} {f : Nat} {q : ckS} {k H : Nat} (hv : vRg v) (hf : f < 48) (hR : rpR v W f) (hQ : cR q K) (hI : kI k H q) (hk : k < 60) (hH30 : H < 2 ^ 29) (hnn : ¬ kn q = 1) (hEl : ∀ b, b < kn q → ∀ z, ke q b = some z → z < k) : zMi l yX1_lacksElse (zws yX1_lacksElse cX1_lacksElse 2 (some .boolean)) { frames := 0, cells := 0, slots := 0, locals := 0 } N0 t0 D cy S [.ref (ad 8), .ref (ad (200 + 12 * f))] (fun r S' => zbo r (bw v f q (kn q - 1) = 25 ∧ ke q (kn q - 1) = none ∧ 0 < kl q (kn q - 1)) ∧ S' = S) 0 0 := by
  refine zMi.of (cc := cX1_lacksElse) (maxL := 2) (ret := (some .boolean)) (by decide) rfl (Nat.le_of_ble_eq_true rfl) ?_
  intro p e s m args below meth c F G hr hlk hnm
  have hkr := kd_r f hf
  have hn1 := hI.1
  have hn2 := hI.2.1
  have hhH := hI.2.2.1
  have hT := hQ.2.2 (kn q - 1) (by omega)
  have hl1 := (hI.2.2.2.1 (kn q - 1) (by omega)).1
  have a8k : oa (wK W K) 8 := wK_a.mpr a8
  have A8 : zA S (ad 8) 2 := hH.al a8k rfl rfl
  have JO : zi S 205 (ad 8) = (K).1 := hH.i a8k rfl (by decide)
  have IH : zi S 206 (ad 8) = (K).2.1 := hH.i a8k rfl (by decide)
  have Q22 : zq S 200 (ad 8) = some (ad 22) := hH.qS a8k rfl (by decide) ((wK_wr hw).q a8k (by decide) rfl) rfl
  have a22 : oa (wK W K) 22 := (wK_wr hw).a a8k (id := 200) (by decide) rfl
  have n22 : onn (wK W K) 22 = 61 := (wK_wr hw).n a8k (id := 200) (by decide) rfl (by decide)
  have Q24 : zq S 201 (ad 8) = some (ad 24) := hH.qS a8k rfl (by decide) ((wK_wr hw).q a8k (by decide) rfl) rfl
  have a24 : oa (wK W K) 24 := (wK_wr hw).a a8k (id := 201) (by decide) rfl
  have n24 : onn (wK W K) 24 = 61 := (wK_wr hw).n a8k (id := 201) (by decide) rfl (by decide)
  have Q26 : zq S 202 (ad 8) = some (ad 26) := hH.qS a8k rfl (by decide) ((wK_wr hw).q a8k (by decide) rfl) rfl
  have a26 : oa (wK W K) 26 := (wK_wr hw).a a8k (id := 202) (by decide) rfl
  have n26 : onn (wK W K) 26 = 61 := (wK_wr hw).n a8k (id := 202) (by decide) rfl (by decide)
  have Q28 : zq S 203 (ad 8) = some (ad 28) := hH.qS a8k rfl (by decide) ((wK_wr hw).q a8k (by decide) rfl) rfl
  have a28 : oa (wK W K) 28 := (wK_wr hw).a a8k (id := 203) (by decide) rfl
  have n28 : onn (wK W K) 28 = 61 := (wK_wr hw).n a8k (id := 203) (by decide) rfl (by decide)
  have Q30 : zq S 204 (ad 8) = some (ad 30) := hH.qS a8k rfl (by decide) ((wK_wr hw).q a8k (by decide) rfl) rfl
  have a30 : oa (wK W K) 30 := (wK_wr hw).a a8k (id := 204) (by decide) rfl
  have n30 : onn (wK W K) 30 = 61 := (wK_wr hw).n a8k (id := 204) (by decide) rfl (by decide)
  have R0 : zA S (ad (200 + 12 * f)) 7 := hH.al (wK_a.mpr hR.1) rfl hkr.1
  have Qw : zq S 705 (ad (200 + 12 * f)) = some (ad ((200 + 12 * f) + 2)) := hH.qS (wK_a.mpr hR.1) rfl (by rw [hkr.1]; decide) ((wK_wr hw).q (wK_a.mpr hR.1) (by decide) hkr.1) rfl
  have rw_ : oa (wK W K) ((200 + 12 * f) + 2) := (wK_wr hw).a (wK_a.mpr hR.1) (id := 705) (by decide) hkr.1
  have mw : onn (wK W K) ((200 + 12 * f) + 2) = 60 := (wK_wr hw).n (wK_a.mpr hR.1) (id := 705) (by decide) hkr.1 (by decide)
  have vw : ∀ j, j < 60 → ∀ K2, ori (wK W K2) ((200 + 12 * f) + 2) j = nI (cn v 1209 (60 * f + j)) := fun j hj K2 => by
    show (wK W K2 ((200 + 12 * f) + 2)).2.2.2.2.2.1 j = _
    rw [wK_n (rcell (by omega))]
    exact (hR.2.2.2.2.2.2.2.1 j hj).trans (rg_1209 hv (by omega)).1
  have vn : ∀ j, j < 60 → ∀ K2, ori (wK W K2) ((200 + 12 * f) + 4) j = v.1 1210 (60 * f + j) := fun j hj K2 => by
    show (wK W K2 ((200 + 12 * f) + 4)).2.2.2.2.2.1 j = _
    rw [wK_n (rcell (by omega))]
    exact hR.2.2.2.2.2.2.2.2 j hj
  rw [hQ.1] at JO
  have hko := (hI.2.2.2.1 (kn q - 1) (by omega)).2 (by omega)
  have ho : K.2.2.1 (kn q - 1) = nI (ko q (kn q - 1)) := by rw [hT.1, if_neg (by omega)]
  have hbw : bw v f q (kn q - 1) = cn v 1209 (60 * f + ko q (kn q - 1)) := by unfold bw; rw [if_neg (by omega)]
  have hb36 := (rg_1209 hv (k := 60 * f + ko q (kn q - 1)) (by omega)).2
  have hkeb : ∀ z, ke q (kn q - 1) = some z → z < 2 ^ 31 := fun z hz => by have := hEl _ (show kn q - 1 < kn q by omega) z hz; omega
  refine r_aload_n F dX1_lacksElse_0 rfl ?_
  refine r_getS (ci := 7) (k := 5) (id := 705) (C := RX6) (T := TX6) (N := 13) F G rfl (by decide) (by decide) rfl (zinL inG7) (zin kf_X1_71) (fun _ h9 => h9) dX1_lacksElse_1 R0 Qw ?_
  refine r_aload_n F dX1_lacksElse_4 rfl ?_
  refine r_getS (ci := 2) (k := 0) (id := 200) (C := RX1) (T := TX1) (N := 7) F G rfl (by decide) (by decide) rfl (zinL inG2) (zin kf_X1_9) (fun _ h9 => h9) dX1_lacksElse_5 A8 Q22 ?_
  refine r_aload_n F dX1_lacksElse_8 rfl ?_
  refine r_getiS (ci := 2) (k := 5) (id := 205) (C := RX1) (T := TX1) (N := 7) F G rfl (by decide) (by decide) rfl (zinL inG2) (zin kf_X1_48) (fun _ h9 => h9) dX1_lacksElse_9 A8 JO ?_
  refine v_iald F G hH (n := kn q - 1) a22 rfl rfl (by omega) (by omega) dX1_lacksElse_12 ?_
  rw [show ori (wK W K) 22 (kn q - 1) = nI (ko q (kn q - 1)) from ho]
  refine v_iald F G hH (n := ko q (kn q - 1)) rw_ rfl hkr.2.1 (by omega) (by omega) dX1_lacksElse_13 ?_
  rw [vw _ (by omega)]
  refine r_bipush (v := 25) F dX1_lacksElse_14 (by decide) ?_
  refine r_icmp_ne (tgt := 49) F dX1_lacksElse_16 (by decide) (fun c16 => ?_) (fun c16 => ?_)
  · refine r_iconst (v := 0) F dX1_lacksElse_49 (by decide) ?_
    exact e_zret F hr rfl hlk ⟨zbo.n (fun h => c16 (by rw [← hbw, h.1]; rfl)), rfl⟩ (by decide) (by decide) dX1_lacksElse_50
  · refine r_aload_n F dX1_lacksElse_19 rfl ?_
    refine r_getS (ci := 2) (k := 1) (id := 201) (C := RX1) (T := TX1) (N := 7) F G rfl (by decide) (by decide) rfl (zinL inG2) (zin kf_X1_15) (fun _ h9 => h9) dX1_lacksElse_20 A8 Q24 ?_
    refine r_aload_n F dX1_lacksElse_23 rfl ?_
    refine r_getiS (ci := 2) (k := 5) (id := 205) (C := RX1) (T := TX1) (N := 7) F G rfl (by decide) (by decide) rfl (zinL inG2) (zin kf_X1_48) (fun _ h9 => h9) dX1_lacksElse_24 A8 JO ?_
    refine v_iald F G hH (n := kn q - 1) a24 rfl rfl (by omega) (by omega) dX1_lacksElse_27 ?_
    rw [show ori (wK W K) 24 (kn q - 1) = enc (ke q (kn q - 1)) from hT.2.1]
    refine r_iconst (v := -1) F dX1_lacksElse_28 (by decide) ?_
    refine r_icmp_ne (tgt := 49) F dX1_lacksElse_29 (by decide) (fun c29 => ?_) (fun c29 => ?_)
    · refine r_iconst (v := 0) F dX1_lacksElse_49 (by decide) ?_
      exact e_zret F hr rfl hlk ⟨zbo.n (fun h => c29 (by rw [h.2.1]; rfl)), rfl⟩ (by decide) (by decide) dX1_lacksElse_50
    · refine r_aload_n F dX1_lacksElse_32 rfl ?_
      refine r_getS (ci := 2) (k := 3) (id := 203) (C := RX1) (T := TX1) (N := 7) F G rfl (by decide) (by decide) rfl (zinL inG2) (zin kf_X1_21) (fun _ h9 => h9) dX1_lacksElse_33 A8 Q28 ?_
      refine r_aload_n F dX1_lacksElse_36 rfl ?_
      refine r_getiS (ci := 2) (k := 5) (id := 205) (C := RX1) (T := TX1) (N := 7) F G rfl (by decide) (by decide) rfl (zinL inG2) (zin kf_X1_48) (fun _ h9 => h9) dX1_lacksElse_37 A8 JO ?_
      refine v_iald F G hH (n := kn q - 1) a28 rfl rfl (by omega) (by omega) dX1_lacksElse_40 ?_
      rw [show ori (wK W K) 28 (kn q - 1) = nI (kl q (kn q - 1)) from hT.2.2.2.1]
      refine r_iconst (v := 1) F dX1_lacksElse_41 (by decide) ?_
      refine r_icmp_ne (tgt := 49) F dX1_lacksElse_42 (by decide) (fun c42 => ?_) (fun c42 => ?_)
      · refine r_iconst (v := 0) F dX1_lacksElse_49 (by decide) ?_
        exact e_zret F hr rfl hlk ⟨zbo.n (fun h => c42 (by rw [show kl q (kn q - 1) = 1 by omega]; rfl)), rfl⟩ (by decide) (by decide) dX1_lacksElse_50
      · refine r_iconst (v := 1) F dX1_lacksElse_45 (by decide) ?_
        refine r_goto (tgt := 50) F dX1_lacksElse_46 (by decide) ?_
        exact e_zret F hr rfl hlk ⟨zbo.y ⟨by rw [hbw]; have c9 := c16; rw [show (25 : Int32) = nI 25 from rfl, nI_eq (by omega) (by omega)] at c9; exact c9, enc_m1 (fun z hz => hkeb z hz) c29, by have c9 := c42; rw [nl1, nI_eq (by omega) (by omega)] at c9; omega⟩, rfl⟩ (by decide) (by decide) dX1_lacksElse_50
set_option maxRecDepth 100000 in
set_option maxHeartbeats 4000000 in
theorem c_kturn {l : Launch} {N0 t0 : Nat} {D : va_G} {cy : Nat → ClassId} {S : zS} {X : Nat → Prop} {S0 : zS} {ad : Nat → Nat} {W : zO} {K : kS} (hw : wr W) (a8 : oa W 8) (hH : zH t0 X S0 ad (wK W K) S) {v : zV} {f : Nat} {q : ckS} {k H : Nat} (hv : vRg v) (hf : f < 48) (hR : rpR v W f) (hQ : cR q K) (hI : kI k H q) (hk : k < 60) (hH30 : H < 2 ^ 29) (hEl : ∀ b, b < kn q → ∀ z, ke q b = some z → z < k) : zMi l yX1_turn (zws yX1_turn cX1_turn 4 (some .boolean)) { frames := 1, cells := 0, slots := 0, locals := 21 } N0 t0 D cy S [.ref (ad 8), .ref (ad (200 + 12 * f)), .int (nI k)] (fun r S' => zbo r (bw v f q (kn q - 1) = 25 ∧ ke q (kn q - 1) = none ∧ (kh q - kb q (kn q - 1) = kl q (kn q - 1) ∨ (kdd q (kn q - 1) = true ∧ kh q - kb q (kn q - 1) < kl q (kn q - 1)))) ∧ ∃ (W' : zO) (K' : kS), zH t0 X S0 ad (wK W' K') S' ∧ ((bw v f q (kn q - 1) = 25 ∧ ke q (kn q - 1) = none ∧ (kh q - kb q (kn q - 1) = kl q (kn q - 1) ∨ (kdd q (kn q - 1) = true ∧ kh q - kb q (kn q - 1) < kl q (kn q - 1)))) → cR (kElse (setH q (kb q (kn q - 1))) k) K' ∧ rtX W W' f (ori W ((200 + 12 * f) + 6)) (upd (ori W ((200 + 12 * f) + 8)) (ko q (kn q - 1)) (nI (k + 1))) (ori W ((200 + 12 * f) + 10))) ∧ ∃ E2 G2 B2, rtX W W' f E2 G2 B2) 0 0 := by
  refine zMi.of (cc := cX1_turn) (maxL := 4) (ret := (some .boolean)) (by decide) rfl (Nat.le_of_ble_eq_true rfl) ?_
  intro p e s m args below meth c F G hr hlk hnm
  have hkr := kd_r f hf
  have hn1 := hI.1
  have hn2 := hI.2.1
  have hhH := hI.2.2.1
  have hT := hQ.2.2 (kn q - 1) (by omega)
  have hl1 := (hI.2.2.2.1 (kn q - 1) (by omega)).1
  have a8k : oa (wK W K) 8 := wK_a.mpr a8
  have A8 : zA S (ad 8) 2 := hH.al a8k rfl rfl
  have JO : zi S 205 (ad 8) = (K).1 := hH.i a8k rfl (by decide)
  have IH : zi S 206 (ad 8) = (K).2.1 := hH.i a8k rfl (by decide)
  have Q22 : zq S 200 (ad 8) = some (ad 22) := hH.qS a8k rfl (by decide) ((wK_wr hw).q a8k (by decide) rfl) rfl
  have a22 : oa (wK W K) 22 := (wK_wr hw).a a8k (id := 200) (by decide) rfl
  have n22 : onn (wK W K) 22 = 61 := (wK_wr hw).n a8k (id := 200) (by decide) rfl (by decide)
  have Q24 : zq S 201 (ad 8) = some (ad 24) := hH.qS a8k rfl (by decide) ((wK_wr hw).q a8k (by decide) rfl) rfl
  have a24 : oa (wK W K) 24 := (wK_wr hw).a a8k (id := 201) (by decide) rfl
  have n24 : onn (wK W K) 24 = 61 := (wK_wr hw).n a8k (id := 201) (by decide) rfl (by decide)
  have Q26 : zq S 202 (ad 8) = some (ad 26) := hH.qS a8k rfl (by decide) ((wK_wr hw).q a8k (by decide) rfl) rfl
  have a26 : oa (wK W K) 26 := (wK_wr hw).a a8k (id := 202) (by decide) rfl
  have n26 : onn (wK W K) 26 = 61 := (wK_wr hw).n a8k (id := 202) (by decide) rfl (by decide)
  have Q28 : zq S 203 (ad 8) = some (ad 28) := hH.qS a8k rfl (by decide) ((wK_wr hw).q a8k (by decide) rfl) rfl
  have a28 : oa (wK W K) 28 := (wK_wr hw).a a8k (id := 203) (by decide) rfl
  have n28 : onn (wK W K) 28 = 61 := (wK_wr hw).n a8k (id := 203) (by decide) rfl (by decide)
  have Q30 : zq S 204 (ad 8) = some (ad 30) := hH.qS a8k rfl (by decide) ((wK_wr hw).q a8k (by decide) rfl) rfl
  have a30 : oa (wK W K) 30 := (wK_wr hw).a a8k (id := 204) (by decide) rfl
  have n30 : onn (wK W K) 30 = 61 := (wK_wr hw).n a8k (id := 204) (by decide) rfl (by decide)
  have R0 : zA S (ad (200 + 12 * f)) 7 := hH.al (wK_a.mpr hR.1) rfl hkr.1
  have Qw : zq S 705 (ad (200 + 12 * f)) = some (ad ((200 + 12 * f) + 2)) := hH.qS (wK_a.mpr hR.1) rfl (by rw [hkr.1]; decide) ((wK_wr hw).q (wK_a.mpr hR.1) (by decide) hkr.1) rfl
  have rw_ : oa (wK W K) ((200 + 12 * f) + 2) := (wK_wr hw).a (wK_a.mpr hR.1) (id := 705) (by decide) hkr.1
  have mw : onn (wK W K) ((200 + 12 * f) + 2) = 60 := (wK_wr hw).n (wK_a.mpr hR.1) (id := 705) (by decide) hkr.1 (by decide)
  have Qn : zq S 706 (ad (200 + 12 * f)) = some (ad ((200 + 12 * f) + 4)) := hH.qS (wK_a.mpr hR.1) rfl (by rw [hkr.1]; decide) ((wK_wr hw).q (wK_a.mpr hR.1) (by decide) hkr.1) rfl
  have rn : oa (wK W K) ((200 + 12 * f) + 4) := (wK_wr hw).a (wK_a.mpr hR.1) (id := 706) (by decide) hkr.1
  have mn : onn (wK W K) ((200 + 12 * f) + 4) = 60 := (wK_wr hw).n (wK_a.mpr hR.1) (id := 706) (by decide) hkr.1 (by decide)
  have Qe : zq S 707 (ad (200 + 12 * f)) = some (ad ((200 + 12 * f) + 6)) := hH.qS (wK_a.mpr hR.1) rfl (by rw [hkr.1]; decide) ((wK_wr hw).q (wK_a.mpr hR.1) (by decide) hkr.1) rfl
  have re : oa (wK W K) ((200 + 12 * f) + 6) := (wK_wr hw).a (wK_a.mpr hR.1) (id := 707) (by decide) hkr.1
  have me : onn (wK W K) ((200 + 12 * f) + 6) = 60 := (wK_wr hw).n (wK_a.mpr hR.1) (id := 707) (by decide) hkr.1 (by decide)
  have Qg : zq S 708 (ad (200 + 12 * f)) = some (ad ((200 + 12 * f) + 8)) := hH.qS (wK_a.mpr hR.1) rfl (by rw [hkr.1]; decide) ((wK_wr hw).q (wK_a.mpr hR.1) (by decide) hkr.1) rfl
  have rg_ : oa (wK W K) ((200 + 12 * f) + 8) := (wK_wr hw).a (wK_a.mpr hR.1) (id := 708) (by decide) hkr.1
  have mg : onn (wK W K) ((200 + 12 * f) + 8) = 60 := (wK_wr hw).n (wK_a.mpr hR.1) (id := 708) (by decide) hkr.1 (by decide)
  have Qb : zq S 709 (ad (200 + 12 * f)) = some (ad ((200 + 12 * f) + 10)) := hH.qS (wK_a.mpr hR.1) rfl (by rw [hkr.1]; decide) ((wK_wr hw).q (wK_a.mpr hR.1) (by decide) hkr.1) rfl
  have rb : oa (wK W K) ((200 + 12 * f) + 10) := (wK_wr hw).a (wK_a.mpr hR.1) (id := 709) (by decide) hkr.1
  have mb : onn (wK W K) ((200 + 12 * f) + 10) = 60 := (wK_wr hw).n (wK_a.mpr hR.1) (id := 709) (by decide) hkr.1 (by decide)
  have vw : ∀ j, j < 60 → ∀ K2, ori (wK W K2) ((200 + 12 * f) + 2) j = nI (cn v 1209 (60 * f + j)) := fun j hj K2 => by
    show (wK W K2 ((200 + 12 * f) + 2)).2.2.2.2.2.1 j = _
    rw [wK_n (rcell (by omega))]
    exact (hR.2.2.2.2.2.2.2.1 j hj).trans (rg_1209 hv (by omega)).1
  have vn : ∀ j, j < 60 → ∀ K2, ori (wK W K2) ((200 + 12 * f) + 4) j = v.1 1210 (60 * f + j) := fun j hj K2 => by
    show (wK W K2 ((200 + 12 * f) + 4)).2.2.2.2.2.1 j = _
    rw [wK_n (rcell (by omega))]
    exact hR.2.2.2.2.2.2.2.2 j hj
  rw [hQ.1] at JO
  rw [hQ.2.1] at IH
  have hbT := hI.2.2.2.2.2
  have hkeb : ∀ z, ke q (kn q - 1) = some z → z < 2 ^ 31 := fun z hz => by have := hEl _ (show kn q - 1 < kn q by omega) z hz; omega
  refine r_aload_n F dX1_turn_0 rfl ?_
  refine r_getiS (ci := 2) (k := 5) (id := 205) (C := RX1) (T := TX1) (N := 7) F G rfl (by decide) (by decide) rfl (zinL inG2) (zin kf_X1_48) (fun _ h9 => h9) dX1_turn_1 A8 JO ?_
  refine r_if_le (tgt := 50) F dX1_turn_4 (by decide) (fun c4 => ?_) (fun c4 => ?_)
  · refine r_iconst (v := 0) F dX1_turn_50 (by decide) ?_
    refine r_istore_n F dX1_turn_51 (by decide) ?_
    refine r_iload_n F dX1_turn_52 rfl ?_
    refine r_if_eq (tgt := 93) F dX1_turn_53 (by decide) (fun _ => ?_) (fun h9 => absurd rfl h9)
    refine r_iload_n F dX1_turn_93 rfl ?_
    exact e_zret F hr rfl hlk ⟨zbo.n (fun h => by have h9 := h.1; unfold bw at h9; by_cases e9 : kn q - 1 = 0; rw [if_pos e9] at h9; omega; have c9 := c4; rw [nl0, nI_leI (by omega) (by omega)] at c9; omega), W, K, hH, fun h => absurd h (fun h => by have h9 := h.1; unfold bw at h9; by_cases e9 : kn q - 1 = 0; rw [if_pos e9] at h9; omega; have c9 := c4; rw [nl0, nI_leI (by omega) (by omega)] at c9; omega), _, _, _, rtX.rf⟩ (by decide) (by decide) dX1_turn_94
  · have hnn : ¬ kn q = 1 := fun h9 => by have c9 := c4; rw [nl0, nI_leI (by omega) (by omega)] at c9; omega
    have hko := (hI.2.2.2.1 (kn q - 1) (by omega)).2 (by omega)
    have ho : K.2.2.1 (kn q - 1) = nI (ko q (kn q - 1)) := by rw [hT.1, if_neg (by omega)]
    have hbw : bw v f q (kn q - 1) = cn v 1209 (60 * f + ko q (kn q - 1)) := by unfold bw; rw [if_neg (by omega)]
    have hb36 := (rg_1209 hv (k := 60 * f + ko q (kn q - 1)) (by omega)).2
    refine r_aload_n F dX1_turn_7 rfl ?_
    refine r_getS (ci := 7) (k := 5) (id := 705) (C := RX6) (T := TX6) (N := 13) F G rfl (by decide) (by decide) rfl (zinL inG7) (zin kf_X1_71) (fun _ h9 => h9) dX1_turn_8 R0 Qw ?_
    refine r_aload_n F dX1_turn_11 rfl ?_
    refine r_getS (ci := 2) (k := 0) (id := 200) (C := RX1) (T := TX1) (N := 7) F G rfl (by decide) (by decide) rfl (zinL inG2) (zin kf_X1_9) (fun _ h9 => h9) dX1_turn_12 A8 Q22 ?_
    refine r_aload_n F dX1_turn_15 rfl ?_
    refine r_getiS (ci := 2) (k := 5) (id := 205) (C := RX1) (T := TX1) (N := 7) F G rfl (by decide) (by decide) rfl (zinL inG2) (zin kf_X1_48) (fun _ h9 => h9) dX1_turn_16 A8 JO ?_
    refine v_iald F G hH (n := kn q - 1) a22 rfl rfl (by omega) (by omega) dX1_turn_19 ?_
    rw [show ori (wK W K) 22 (kn q - 1) = nI (ko q (kn q - 1)) from ho]
    refine v_iald F G hH (n := ko q (kn q - 1)) rw_ rfl hkr.2.1 (by omega) (by omega) dX1_turn_20 ?_
    rw [vw _ (by omega)]
    refine r_bipush (v := 25) F dX1_turn_21 (by decide) ?_
    refine r_icmp_ne (tgt := 50) F dX1_turn_23 (by decide) (fun c23 => ?_) (fun c23 => ?_)
    · refine r_iconst (v := 0) F dX1_turn_50 (by decide) ?_
      refine r_istore_n F dX1_turn_51 (by decide) ?_
      refine r_iload_n F dX1_turn_52 rfl ?_
      refine r_if_eq (tgt := 93) F dX1_turn_53 (by decide) (fun _ => ?_) (fun h9 => absurd rfl h9)
      refine r_iload_n F dX1_turn_93 rfl ?_
      exact e_zret F hr rfl hlk ⟨zbo.n (fun h => c23 (by rw [← hbw, h.1]; rfl)), W, K, hH, fun h => absurd h (fun h => c23 (by rw [← hbw, h.1]; rfl)), _, _, _, rtX.rf⟩ (by decide) (by decide) dX1_turn_94
    · refine r_aload_n F dX1_turn_26 rfl ?_
      refine r_getS (ci := 2) (k := 1) (id := 201) (C := RX1) (T := TX1) (N := 7) F G rfl (by decide) (by decide) rfl (zinL inG2) (zin kf_X1_15) (fun _ h9 => h9) dX1_turn_27 A8 Q24 ?_
      refine r_aload_n F dX1_turn_30 rfl ?_
      refine r_getiS (ci := 2) (k := 5) (id := 205) (C := RX1) (T := TX1) (N := 7) F G rfl (by decide) (by decide) rfl (zinL inG2) (zin kf_X1_48) (fun _ h9 => h9) dX1_turn_31 A8 JO ?_
      refine v_iald F G hH (n := kn q - 1) a24 rfl rfl (by omega) (by omega) dX1_turn_34 ?_
      rw [show ori (wK W K) 24 (kn q - 1) = enc (ke q (kn q - 1)) from hT.2.1]
      refine r_iconst (v := -1) F dX1_turn_35 (by decide) ?_
      refine r_icmp_ne (tgt := 50) F dX1_turn_36 (by decide) (fun c36 => ?_) (fun c36 => ?_)
      · refine r_iconst (v := 0) F dX1_turn_50 (by decide) ?_
        refine r_istore_n F dX1_turn_51 (by decide) ?_
        refine r_iload_n F dX1_turn_52 rfl ?_
        refine r_if_eq (tgt := 93) F dX1_turn_53 (by decide) (fun _ => ?_) (fun h9 => absurd rfl h9)
        refine r_iload_n F dX1_turn_93 rfl ?_
        exact e_zret F hr rfl hlk ⟨zbo.n (fun h => c36 (by rw [h.2.1]; rfl)), W, K, hH, fun h => absurd h (fun h => c36 (by rw [h.2.1]; rfl)), _, _, _, rtX.rf⟩ (by decide) (by decide) dX1_turn_94
      · refine r_aload_n F dX1_turn_39 rfl ?_
        refine c_Vi (ci := 2) F G (c_kcloses hw a8 hH (t := (kn q - 1)) (h := kh q) (b := kb q (kn q - 1)) (dd := kdd q (kn q - 1)) (w := kl q (kn q - 1)) hQ.1 (by omega) hQ.2.1 hT.2.2.1 hbT (by omega) hT.2.2.2.2 (by omega) hT.2.2.2.1) (cwV 0 F.2.2.2.2 (zgV km_X1_67 ki_X1_closes ke_X1_X1_closes kn_X1 ko_X1_closes) rfl rfl rfl ⟨rfl, hd_yX1_closes⟩ ⟨Nat.le_of_ble_eq_true rfl, Nat.le_of_ble_eq_true rfl⟩) rfl (by decide) A8 rfl rfl (Nat.le_of_ble_eq_true rfl) dX1_turn_40 ⟨Nat.le_of_ble_eq_true rfl, Nat.le_of_ble_eq_true rfl⟩ (fun r40 S40 h40 => ?_)
        obtain ⟨a40, hH⟩ := h40
        subst a40
        clear A8 JO IH Q22 Q24 Q26 Q28 Q30
        have a8k : oa (wK W (K.1, nI (kb q (kn q - 1)), K.2.2)) 8 := wK_a.mpr a8
        have A8 : zA S40 (ad 8) 2 := hH.al a8k rfl rfl
        have JO : zi S40 205 (ad 8) = ((K.1, nI (kb q (kn q - 1)), K.2.2)).1 := hH.i a8k rfl (by decide)
        have IH : zi S40 206 (ad 8) = ((K.1, nI (kb q (kn q - 1)), K.2.2)).2.1 := hH.i a8k rfl (by decide)
        have Q22 : zq S40 200 (ad 8) = some (ad 22) := hH.qS a8k rfl (by decide) ((wK_wr hw).q a8k (by decide) rfl) rfl
        have a22 : oa (wK W (K.1, nI (kb q (kn q - 1)), K.2.2)) 22 := (wK_wr hw).a a8k (id := 200) (by decide) rfl
        have n22 : onn (wK W (K.1, nI (kb q (kn q - 1)), K.2.2)) 22 = 61 := (wK_wr hw).n a8k (id := 200) (by decide) rfl (by decide)
        have Q24 : zq S40 201 (ad 8) = some (ad 24) := hH.qS a8k rfl (by decide) ((wK_wr hw).q a8k (by decide) rfl) rfl
        have a24 : oa (wK W (K.1, nI (kb q (kn q - 1)), K.2.2)) 24 := (wK_wr hw).a a8k (id := 201) (by decide) rfl
        have n24 : onn (wK W (K.1, nI (kb q (kn q - 1)), K.2.2)) 24 = 61 := (wK_wr hw).n a8k (id := 201) (by decide) rfl (by decide)
        have Q26 : zq S40 202 (ad 8) = some (ad 26) := hH.qS a8k rfl (by decide) ((wK_wr hw).q a8k (by decide) rfl) rfl
        have a26 : oa (wK W (K.1, nI (kb q (kn q - 1)), K.2.2)) 26 := (wK_wr hw).a a8k (id := 202) (by decide) rfl
        have n26 : onn (wK W (K.1, nI (kb q (kn q - 1)), K.2.2)) 26 = 61 := (wK_wr hw).n a8k (id := 202) (by decide) rfl (by decide)
        have Q28 : zq S40 203 (ad 8) = some (ad 28) := hH.qS a8k rfl (by decide) ((wK_wr hw).q a8k (by decide) rfl) rfl
        have a28 : oa (wK W (K.1, nI (kb q (kn q - 1)), K.2.2)) 28 := (wK_wr hw).a a8k (id := 203) (by decide) rfl
        have n28 : onn (wK W (K.1, nI (kb q (kn q - 1)), K.2.2)) 28 = 61 := (wK_wr hw).n a8k (id := 203) (by decide) rfl (by decide)
        have Q30 : zq S40 204 (ad 8) = some (ad 30) := hH.qS a8k rfl (by decide) ((wK_wr hw).q a8k (by decide) rfl) rfl
        have a30 : oa (wK W (K.1, nI (kb q (kn q - 1)), K.2.2)) 30 := (wK_wr hw).a a8k (id := 204) (by decide) rfl
        have n30 : onn (wK W (K.1, nI (kb q (kn q - 1)), K.2.2)) 30 = 61 := (wK_wr hw).n a8k (id := 204) (by decide) rfl (by decide)
        have JO2 : zi S40 205 (ad 8) = nI (kn q - 1) := JO.trans hQ.1
        clear JO
        have JO := JO2
        clear R0 Qw rw_ mw Qn rn mn Qe re me Qg rg_ mg Qb rb mb
        have R0 : zA S40 (ad (200 + 12 * f)) 7 := hH.al (wK_a.mpr hR.1) rfl hkr.1
        have Qw : zq S40 705 (ad (200 + 12 * f)) = some (ad ((200 + 12 * f) + 2)) := hH.qS (wK_a.mpr hR.1) rfl (by rw [hkr.1]; decide) ((wK_wr hw).q (wK_a.mpr hR.1) (by decide) hkr.1) rfl
        have rw_ : oa (wK W (K.1, nI (kb q (kn q - 1)), K.2.2)) ((200 + 12 * f) + 2) := (wK_wr hw).a (wK_a.mpr hR.1) (id := 705) (by decide) hkr.1
        have mw : onn (wK W (K.1, nI (kb q (kn q - 1)), K.2.2)) ((200 + 12 * f) + 2) = 60 := (wK_wr hw).n (wK_a.mpr hR.1) (id := 705) (by decide) hkr.1 (by decide)
        have Qn : zq S40 706 (ad (200 + 12 * f)) = some (ad ((200 + 12 * f) + 4)) := hH.qS (wK_a.mpr hR.1) rfl (by rw [hkr.1]; decide) ((wK_wr hw).q (wK_a.mpr hR.1) (by decide) hkr.1) rfl
        have rn : oa (wK W (K.1, nI (kb q (kn q - 1)), K.2.2)) ((200 + 12 * f) + 4) := (wK_wr hw).a (wK_a.mpr hR.1) (id := 706) (by decide) hkr.1
        have mn : onn (wK W (K.1, nI (kb q (kn q - 1)), K.2.2)) ((200 + 12 * f) + 4) = 60 := (wK_wr hw).n (wK_a.mpr hR.1) (id := 706) (by decide) hkr.1 (by decide)
        have Qe : zq S40 707 (ad (200 + 12 * f)) = some (ad ((200 + 12 * f) + 6)) := hH.qS (wK_a.mpr hR.1) rfl (by rw [hkr.1]; decide) ((wK_wr hw).q (wK_a.mpr hR.1) (by decide) hkr.1) rfl
        have re : oa (wK W (K.1, nI (kb q (kn q - 1)), K.2.2)) ((200 + 12 * f) + 6) := (wK_wr hw).a (wK_a.mpr hR.1) (id := 707) (by decide) hkr.1
        have me : onn (wK W (K.1, nI (kb q (kn q - 1)), K.2.2)) ((200 + 12 * f) + 6) = 60 := (wK_wr hw).n (wK_a.mpr hR.1) (id := 707) (by decide) hkr.1 (by decide)
        have Qg : zq S40 708 (ad (200 + 12 * f)) = some (ad ((200 + 12 * f) + 8)) := hH.qS (wK_a.mpr hR.1) rfl (by rw [hkr.1]; decide) ((wK_wr hw).q (wK_a.mpr hR.1) (by decide) hkr.1) rfl
        have rg_ : oa (wK W (K.1, nI (kb q (kn q - 1)), K.2.2)) ((200 + 12 * f) + 8) := (wK_wr hw).a (wK_a.mpr hR.1) (id := 708) (by decide) hkr.1
        have mg : onn (wK W (K.1, nI (kb q (kn q - 1)), K.2.2)) ((200 + 12 * f) + 8) = 60 := (wK_wr hw).n (wK_a.mpr hR.1) (id := 708) (by decide) hkr.1 (by decide)
        have Qb : zq S40 709 (ad (200 + 12 * f)) = some (ad ((200 + 12 * f) + 10)) := hH.qS (wK_a.mpr hR.1) rfl (by rw [hkr.1]; decide) ((wK_wr hw).q (wK_a.mpr hR.1) (by decide) hkr.1) rfl
        have rb : oa (wK W (K.1, nI (kb q (kn q - 1)), K.2.2)) ((200 + 12 * f) + 10) := (wK_wr hw).a (wK_a.mpr hR.1) (id := 709) (by decide) hkr.1
        have mb : onn (wK W (K.1, nI (kb q (kn q - 1)), K.2.2)) ((200 + 12 * f) + 10) = 60 := (wK_wr hw).n (wK_a.mpr hR.1) (id := 709) (by decide) hkr.1 (by decide)
        refine r_if_eq (tgt := 50) F dX1_turn_43 (by decide) (fun c43 => ?_) (fun c43 => ?_)
        · refine r_iconst (v := 0) F dX1_turn_50 (by decide) ?_
          refine r_istore_n F dX1_turn_51 (by decide) ?_
          refine r_iload_n F dX1_turn_52 rfl ?_
          refine r_if_eq (tgt := 93) F dX1_turn_53 (by decide) (fun _ => ?_) (fun h9 => absurd rfl h9)
          refine r_iload_n F dX1_turn_93 rfl ?_
          exact e_zret F hr rfl hlk ⟨zbo.n (fun h => if01 c43 h.2.2), W, (K.1, nI (kb q (kn q - 1)), K.2.2), hH, fun h => absurd h (fun h => if01 c43 h.2.2), _, _, _, rtX.rf⟩ (by decide) (by decide) dX1_turn_94
        · refine r_iconst (v := 1) F dX1_turn_46 (by decide) ?_
          refine r_goto (tgt := 51) F dX1_turn_47 (by decide) ?_
          refine r_istore_n F dX1_turn_51 (by decide) ?_
          refine r_iload_n F dX1_turn_52 rfl ?_
          refine r_if_eq (tgt := 93) F dX1_turn_53 (by decide) (fun h9 => absurd h9 (by decide)) (fun _ => ?_)
          refine r_aload_n F dX1_turn_56 rfl ?_
          refine r_getS (ci := 2) (k := 1) (id := 201) (C := RX1) (T := TX1) (N := 7) F G rfl (by decide) (by decide) rfl (zinL inG2) (zin kf_X1_15) (fun _ h9 => h9) dX1_turn_57 A8 Q24 ?_
          refine r_aload_n F dX1_turn_60 rfl ?_
          refine r_getiS (ci := 2) (k := 5) (id := 205) (C := RX1) (T := TX1) (N := 7) F G rfl (by decide) (by decide) rfl (zinL inG2) (zin kf_X1_48) (fun _ h9 => h9) dX1_turn_61 A8 JO ?_
          refine r_iload_n F dX1_turn_64 rfl ?_
          refine v_iast F G hH (n := (kn q - 1)) a24 rfl rfl (by omega) (by omega) dX1_turn_65 (fun S hH => ?_)
          rw [wK_24] at hH
          have hH2 : zH t0 X S0 ad (wK W (K.1, nI (kb q (kn q - 1)), K.2.2.1, upd K.2.2.2.1 (kn q - 1) (nI k), K.2.2.2.2)) S := hH
          clear hH
          have hH := hH2
          clear hH2
          clear A8 JO IH Q22 Q24 Q26 Q28 Q30
          have a8k : oa (wK W (K.1, nI (kb q (kn q - 1)), K.2.2.1, upd K.2.2.2.1 (kn q - 1) (nI k), K.2.2.2.2)) 8 := wK_a.mpr a8
          have A8 : zA S (ad 8) 2 := hH.al a8k rfl rfl
          have JO : zi S 205 (ad 8) = ((K.1, nI (kb q (kn q - 1)), K.2.2.1, upd K.2.2.2.1 (kn q - 1) (nI k), K.2.2.2.2)).1 := hH.i a8k rfl (by decide)
          have IH : zi S 206 (ad 8) = ((K.1, nI (kb q (kn q - 1)), K.2.2.1, upd K.2.2.2.1 (kn q - 1) (nI k), K.2.2.2.2)).2.1 := hH.i a8k rfl (by decide)
          have Q22 : zq S 200 (ad 8) = some (ad 22) := hH.qS a8k rfl (by decide) ((wK_wr hw).q a8k (by decide) rfl) rfl
          have a22 : oa (wK W (K.1, nI (kb q (kn q - 1)), K.2.2.1, upd K.2.2.2.1 (kn q - 1) (nI k), K.2.2.2.2)) 22 := (wK_wr hw).a a8k (id := 200) (by decide) rfl
          have n22 : onn (wK W (K.1, nI (kb q (kn q - 1)), K.2.2.1, upd K.2.2.2.1 (kn q - 1) (nI k), K.2.2.2.2)) 22 = 61 := (wK_wr hw).n a8k (id := 200) (by decide) rfl (by decide)
          have Q24 : zq S 201 (ad 8) = some (ad 24) := hH.qS a8k rfl (by decide) ((wK_wr hw).q a8k (by decide) rfl) rfl
          have a24 : oa (wK W (K.1, nI (kb q (kn q - 1)), K.2.2.1, upd K.2.2.2.1 (kn q - 1) (nI k), K.2.2.2.2)) 24 := (wK_wr hw).a a8k (id := 201) (by decide) rfl
          have n24 : onn (wK W (K.1, nI (kb q (kn q - 1)), K.2.2.1, upd K.2.2.2.1 (kn q - 1) (nI k), K.2.2.2.2)) 24 = 61 := (wK_wr hw).n a8k (id := 201) (by decide) rfl (by decide)
          have Q26 : zq S 202 (ad 8) = some (ad 26) := hH.qS a8k rfl (by decide) ((wK_wr hw).q a8k (by decide) rfl) rfl
          have a26 : oa (wK W (K.1, nI (kb q (kn q - 1)), K.2.2.1, upd K.2.2.2.1 (kn q - 1) (nI k), K.2.2.2.2)) 26 := (wK_wr hw).a a8k (id := 202) (by decide) rfl
          have n26 : onn (wK W (K.1, nI (kb q (kn q - 1)), K.2.2.1, upd K.2.2.2.1 (kn q - 1) (nI k), K.2.2.2.2)) 26 = 61 := (wK_wr hw).n a8k (id := 202) (by decide) rfl (by decide)
          have Q28 : zq S 203 (ad 8) = some (ad 28) := hH.qS a8k rfl (by decide) ((wK_wr hw).q a8k (by decide) rfl) rfl
          have a28 : oa (wK W (K.1, nI (kb q (kn q - 1)), K.2.2.1, upd K.2.2.2.1 (kn q - 1) (nI k), K.2.2.2.2)) 28 := (wK_wr hw).a a8k (id := 203) (by decide) rfl
          have n28 : onn (wK W (K.1, nI (kb q (kn q - 1)), K.2.2.1, upd K.2.2.2.1 (kn q - 1) (nI k), K.2.2.2.2)) 28 = 61 := (wK_wr hw).n a8k (id := 203) (by decide) rfl (by decide)
          have Q30 : zq S 204 (ad 8) = some (ad 30) := hH.qS a8k rfl (by decide) ((wK_wr hw).q a8k (by decide) rfl) rfl
          have a30 : oa (wK W (K.1, nI (kb q (kn q - 1)), K.2.2.1, upd K.2.2.2.1 (kn q - 1) (nI k), K.2.2.2.2)) 30 := (wK_wr hw).a a8k (id := 204) (by decide) rfl
          have n30 : onn (wK W (K.1, nI (kb q (kn q - 1)), K.2.2.1, upd K.2.2.2.1 (kn q - 1) (nI k), K.2.2.2.2)) 30 = 61 := (wK_wr hw).n a8k (id := 204) (by decide) rfl (by decide)
          have JO2 : zi S 205 (ad 8) = nI (kn q - 1) := JO.trans hQ.1
          clear JO
          have JO := JO2
          clear R0 Qw rw_ mw Qn rn mn Qe re me Qg rg_ mg Qb rb mb
          have R0 : zA S (ad (200 + 12 * f)) 7 := hH.al (wK_a.mpr hR.1) rfl hkr.1
          have Qw : zq S 705 (ad (200 + 12 * f)) = some (ad ((200 + 12 * f) + 2)) := hH.qS (wK_a.mpr hR.1) rfl (by rw [hkr.1]; decide) ((wK_wr hw).q (wK_a.mpr hR.1) (by decide) hkr.1) rfl
          have rw_ : oa (wK W (K.1, nI (kb q (kn q - 1)), K.2.2.1, upd K.2.2.2.1 (kn q - 1) (nI k), K.2.2.2.2)) ((200 + 12 * f) + 2) := (wK_wr hw).a (wK_a.mpr hR.1) (id := 705) (by decide) hkr.1
          have mw : onn (wK W (K.1, nI (kb q (kn q - 1)), K.2.2.1, upd K.2.2.2.1 (kn q - 1) (nI k), K.2.2.2.2)) ((200 + 12 * f) + 2) = 60 := (wK_wr hw).n (wK_a.mpr hR.1) (id := 705) (by decide) hkr.1 (by decide)
          have Qn : zq S 706 (ad (200 + 12 * f)) = some (ad ((200 + 12 * f) + 4)) := hH.qS (wK_a.mpr hR.1) rfl (by rw [hkr.1]; decide) ((wK_wr hw).q (wK_a.mpr hR.1) (by decide) hkr.1) rfl
          have rn : oa (wK W (K.1, nI (kb q (kn q - 1)), K.2.2.1, upd K.2.2.2.1 (kn q - 1) (nI k), K.2.2.2.2)) ((200 + 12 * f) + 4) := (wK_wr hw).a (wK_a.mpr hR.1) (id := 706) (by decide) hkr.1
          have mn : onn (wK W (K.1, nI (kb q (kn q - 1)), K.2.2.1, upd K.2.2.2.1 (kn q - 1) (nI k), K.2.2.2.2)) ((200 + 12 * f) + 4) = 60 := (wK_wr hw).n (wK_a.mpr hR.1) (id := 706) (by decide) hkr.1 (by decide)
          have Qe : zq S 707 (ad (200 + 12 * f)) = some (ad ((200 + 12 * f) + 6)) := hH.qS (wK_a.mpr hR.1) rfl (by rw [hkr.1]; decide) ((wK_wr hw).q (wK_a.mpr hR.1) (by decide) hkr.1) rfl
          have re : oa (wK W (K.1, nI (kb q (kn q - 1)), K.2.2.1, upd K.2.2.2.1 (kn q - 1) (nI k), K.2.2.2.2)) ((200 + 12 * f) + 6) := (wK_wr hw).a (wK_a.mpr hR.1) (id := 707) (by decide) hkr.1
          have me : onn (wK W (K.1, nI (kb q (kn q - 1)), K.2.2.1, upd K.2.2.2.1 (kn q - 1) (nI k), K.2.2.2.2)) ((200 + 12 * f) + 6) = 60 := (wK_wr hw).n (wK_a.mpr hR.1) (id := 707) (by decide) hkr.1 (by decide)
          have Qg : zq S 708 (ad (200 + 12 * f)) = some (ad ((200 + 12 * f) + 8)) := hH.qS (wK_a.mpr hR.1) rfl (by rw [hkr.1]; decide) ((wK_wr hw).q (wK_a.mpr hR.1) (by decide) hkr.1) rfl
          have rg_ : oa (wK W (K.1, nI (kb q (kn q - 1)), K.2.2.1, upd K.2.2.2.1 (kn q - 1) (nI k), K.2.2.2.2)) ((200 + 12 * f) + 8) := (wK_wr hw).a (wK_a.mpr hR.1) (id := 708) (by decide) hkr.1
          have mg : onn (wK W (K.1, nI (kb q (kn q - 1)), K.2.2.1, upd K.2.2.2.1 (kn q - 1) (nI k), K.2.2.2.2)) ((200 + 12 * f) + 8) = 60 := (wK_wr hw).n (wK_a.mpr hR.1) (id := 708) (by decide) hkr.1 (by decide)
          have Qb : zq S 709 (ad (200 + 12 * f)) = some (ad ((200 + 12 * f) + 10)) := hH.qS (wK_a.mpr hR.1) rfl (by rw [hkr.1]; decide) ((wK_wr hw).q (wK_a.mpr hR.1) (by decide) hkr.1) rfl
          have rb : oa (wK W (K.1, nI (kb q (kn q - 1)), K.2.2.1, upd K.2.2.2.1 (kn q - 1) (nI k), K.2.2.2.2)) ((200 + 12 * f) + 10) := (wK_wr hw).a (wK_a.mpr hR.1) (id := 709) (by decide) hkr.1
          have mb : onn (wK W (K.1, nI (kb q (kn q - 1)), K.2.2.1, upd K.2.2.2.1 (kn q - 1) (nI k), K.2.2.2.2)) ((200 + 12 * f) + 10) = 60 := (wK_wr hw).n (wK_a.mpr hR.1) (id := 709) (by decide) hkr.1 (by decide)
          refine r_aload_n F dX1_turn_66 rfl ?_
          refine r_getS (ci := 2) (k := 4) (id := 204) (C := RX1) (T := TX1) (N := 7) F G rfl (by decide) (by decide) rfl (zinL inG2) (zin kf_X1_24) (fun _ h9 => h9) dX1_turn_67 A8 Q30 ?_
          refine r_aload_n F dX1_turn_70 rfl ?_
          refine r_getiS (ci := 2) (k := 5) (id := 205) (C := RX1) (T := TX1) (N := 7) F G rfl (by decide) (by decide) rfl (zinL inG2) (zin kf_X1_48) (fun _ h9 => h9) dX1_turn_71 A8 JO ?_
          refine r_iconst (v := 0) F dX1_turn_74 (by decide) ?_
          refine v_zast F G hH (n := (kn q - 1)) a30 rfl rfl (by omega) (by omega) dX1_turn_75 (fun S hH => ?_)
          rw [wK_30] at hH
          have hH2 : zH t0 X S0 ad (wK W (K.1, nI (kb q (kn q - 1)), K.2.2.1, upd K.2.2.2.1 (kn q - 1) (nI k), K.2.2.2.2.1, K.2.2.2.2.2.1, upd K.2.2.2.2.2.2 (kn q - 1) 0)) S := hH
          clear hH
          have hH := hH2
          clear hH2
          clear A8 JO IH Q22 Q24 Q26 Q28 Q30
          have a8k : oa (wK W (K.1, nI (kb q (kn q - 1)), K.2.2.1, upd K.2.2.2.1 (kn q - 1) (nI k), K.2.2.2.2.1, K.2.2.2.2.2.1, upd K.2.2.2.2.2.2 (kn q - 1) 0)) 8 := wK_a.mpr a8
          have A8 : zA S (ad 8) 2 := hH.al a8k rfl rfl
          have JO : zi S 205 (ad 8) = ((K.1, nI (kb q (kn q - 1)), K.2.2.1, upd K.2.2.2.1 (kn q - 1) (nI k), K.2.2.2.2.1, K.2.2.2.2.2.1, upd K.2.2.2.2.2.2 (kn q - 1) 0)).1 := hH.i a8k rfl (by decide)
          have IH : zi S 206 (ad 8) = ((K.1, nI (kb q (kn q - 1)), K.2.2.1, upd K.2.2.2.1 (kn q - 1) (nI k), K.2.2.2.2.1, K.2.2.2.2.2.1, upd K.2.2.2.2.2.2 (kn q - 1) 0)).2.1 := hH.i a8k rfl (by decide)
          have Q22 : zq S 200 (ad 8) = some (ad 22) := hH.qS a8k rfl (by decide) ((wK_wr hw).q a8k (by decide) rfl) rfl
          have a22 : oa (wK W (K.1, nI (kb q (kn q - 1)), K.2.2.1, upd K.2.2.2.1 (kn q - 1) (nI k), K.2.2.2.2.1, K.2.2.2.2.2.1, upd K.2.2.2.2.2.2 (kn q - 1) 0)) 22 := (wK_wr hw).a a8k (id := 200) (by decide) rfl
          have n22 : onn (wK W (K.1, nI (kb q (kn q - 1)), K.2.2.1, upd K.2.2.2.1 (kn q - 1) (nI k), K.2.2.2.2.1, K.2.2.2.2.2.1, upd K.2.2.2.2.2.2 (kn q - 1) 0)) 22 = 61 := (wK_wr hw).n a8k (id := 200) (by decide) rfl (by decide)
          have Q24 : zq S 201 (ad 8) = some (ad 24) := hH.qS a8k rfl (by decide) ((wK_wr hw).q a8k (by decide) rfl) rfl
          have a24 : oa (wK W (K.1, nI (kb q (kn q - 1)), K.2.2.1, upd K.2.2.2.1 (kn q - 1) (nI k), K.2.2.2.2.1, K.2.2.2.2.2.1, upd K.2.2.2.2.2.2 (kn q - 1) 0)) 24 := (wK_wr hw).a a8k (id := 201) (by decide) rfl
          have n24 : onn (wK W (K.1, nI (kb q (kn q - 1)), K.2.2.1, upd K.2.2.2.1 (kn q - 1) (nI k), K.2.2.2.2.1, K.2.2.2.2.2.1, upd K.2.2.2.2.2.2 (kn q - 1) 0)) 24 = 61 := (wK_wr hw).n a8k (id := 201) (by decide) rfl (by decide)
          have Q26 : zq S 202 (ad 8) = some (ad 26) := hH.qS a8k rfl (by decide) ((wK_wr hw).q a8k (by decide) rfl) rfl
          have a26 : oa (wK W (K.1, nI (kb q (kn q - 1)), K.2.2.1, upd K.2.2.2.1 (kn q - 1) (nI k), K.2.2.2.2.1, K.2.2.2.2.2.1, upd K.2.2.2.2.2.2 (kn q - 1) 0)) 26 := (wK_wr hw).a a8k (id := 202) (by decide) rfl
          have n26 : onn (wK W (K.1, nI (kb q (kn q - 1)), K.2.2.1, upd K.2.2.2.1 (kn q - 1) (nI k), K.2.2.2.2.1, K.2.2.2.2.2.1, upd K.2.2.2.2.2.2 (kn q - 1) 0)) 26 = 61 := (wK_wr hw).n a8k (id := 202) (by decide) rfl (by decide)
          have Q28 : zq S 203 (ad 8) = some (ad 28) := hH.qS a8k rfl (by decide) ((wK_wr hw).q a8k (by decide) rfl) rfl
          have a28 : oa (wK W (K.1, nI (kb q (kn q - 1)), K.2.2.1, upd K.2.2.2.1 (kn q - 1) (nI k), K.2.2.2.2.1, K.2.2.2.2.2.1, upd K.2.2.2.2.2.2 (kn q - 1) 0)) 28 := (wK_wr hw).a a8k (id := 203) (by decide) rfl
          have n28 : onn (wK W (K.1, nI (kb q (kn q - 1)), K.2.2.1, upd K.2.2.2.1 (kn q - 1) (nI k), K.2.2.2.2.1, K.2.2.2.2.2.1, upd K.2.2.2.2.2.2 (kn q - 1) 0)) 28 = 61 := (wK_wr hw).n a8k (id := 203) (by decide) rfl (by decide)
          have Q30 : zq S 204 (ad 8) = some (ad 30) := hH.qS a8k rfl (by decide) ((wK_wr hw).q a8k (by decide) rfl) rfl
          have a30 : oa (wK W (K.1, nI (kb q (kn q - 1)), K.2.2.1, upd K.2.2.2.1 (kn q - 1) (nI k), K.2.2.2.2.1, K.2.2.2.2.2.1, upd K.2.2.2.2.2.2 (kn q - 1) 0)) 30 := (wK_wr hw).a a8k (id := 204) (by decide) rfl
          have n30 : onn (wK W (K.1, nI (kb q (kn q - 1)), K.2.2.1, upd K.2.2.2.1 (kn q - 1) (nI k), K.2.2.2.2.1, K.2.2.2.2.2.1, upd K.2.2.2.2.2.2 (kn q - 1) 0)) 30 = 61 := (wK_wr hw).n a8k (id := 204) (by decide) rfl (by decide)
          have JO2 : zi S 205 (ad 8) = nI (kn q - 1) := JO.trans hQ.1
          clear JO
          have JO := JO2
          clear R0 Qw rw_ mw Qn rn mn Qe re me Qg rg_ mg Qb rb mb
          have R0 : zA S (ad (200 + 12 * f)) 7 := hH.al (wK_a.mpr hR.1) rfl hkr.1
          have Qw : zq S 705 (ad (200 + 12 * f)) = some (ad ((200 + 12 * f) + 2)) := hH.qS (wK_a.mpr hR.1) rfl (by rw [hkr.1]; decide) ((wK_wr hw).q (wK_a.mpr hR.1) (by decide) hkr.1) rfl
          have rw_ : oa (wK W (K.1, nI (kb q (kn q - 1)), K.2.2.1, upd K.2.2.2.1 (kn q - 1) (nI k), K.2.2.2.2.1, K.2.2.2.2.2.1, upd K.2.2.2.2.2.2 (kn q - 1) 0)) ((200 + 12 * f) + 2) := (wK_wr hw).a (wK_a.mpr hR.1) (id := 705) (by decide) hkr.1
          have mw : onn (wK W (K.1, nI (kb q (kn q - 1)), K.2.2.1, upd K.2.2.2.1 (kn q - 1) (nI k), K.2.2.2.2.1, K.2.2.2.2.2.1, upd K.2.2.2.2.2.2 (kn q - 1) 0)) ((200 + 12 * f) + 2) = 60 := (wK_wr hw).n (wK_a.mpr hR.1) (id := 705) (by decide) hkr.1 (by decide)
          have Qn : zq S 706 (ad (200 + 12 * f)) = some (ad ((200 + 12 * f) + 4)) := hH.qS (wK_a.mpr hR.1) rfl (by rw [hkr.1]; decide) ((wK_wr hw).q (wK_a.mpr hR.1) (by decide) hkr.1) rfl
          have rn : oa (wK W (K.1, nI (kb q (kn q - 1)), K.2.2.1, upd K.2.2.2.1 (kn q - 1) (nI k), K.2.2.2.2.1, K.2.2.2.2.2.1, upd K.2.2.2.2.2.2 (kn q - 1) 0)) ((200 + 12 * f) + 4) := (wK_wr hw).a (wK_a.mpr hR.1) (id := 706) (by decide) hkr.1
          have mn : onn (wK W (K.1, nI (kb q (kn q - 1)), K.2.2.1, upd K.2.2.2.1 (kn q - 1) (nI k), K.2.2.2.2.1, K.2.2.2.2.2.1, upd K.2.2.2.2.2.2 (kn q - 1) 0)) ((200 + 12 * f) + 4) = 60 := (wK_wr hw).n (wK_a.mpr hR.1) (id := 706) (by decide) hkr.1 (by decide)
          have Qe : zq S 707 (ad (200 + 12 * f)) = some (ad ((200 + 12 * f) + 6)) := hH.qS (wK_a.mpr hR.1) rfl (by rw [hkr.1]; decide) ((wK_wr hw).q (wK_a.mpr hR.1) (by decide) hkr.1) rfl
          have re : oa (wK W (K.1, nI (kb q (kn q - 1)), K.2.2.1, upd K.2.2.2.1 (kn q - 1) (nI k), K.2.2.2.2.1, K.2.2.2.2.2.1, upd K.2.2.2.2.2.2 (kn q - 1) 0)) ((200 + 12 * f) + 6) := (wK_wr hw).a (wK_a.mpr hR.1) (id := 707) (by decide) hkr.1
          have me : onn (wK W (K.1, nI (kb q (kn q - 1)), K.2.2.1, upd K.2.2.2.1 (kn q - 1) (nI k), K.2.2.2.2.1, K.2.2.2.2.2.1, upd K.2.2.2.2.2.2 (kn q - 1) 0)) ((200 + 12 * f) + 6) = 60 := (wK_wr hw).n (wK_a.mpr hR.1) (id := 707) (by decide) hkr.1 (by decide)
          have Qg : zq S 708 (ad (200 + 12 * f)) = some (ad ((200 + 12 * f) + 8)) := hH.qS (wK_a.mpr hR.1) rfl (by rw [hkr.1]; decide) ((wK_wr hw).q (wK_a.mpr hR.1) (by decide) hkr.1) rfl
          have rg_ : oa (wK W (K.1, nI (kb q (kn q - 1)), K.2.2.1, upd K.2.2.2.1 (kn q - 1) (nI k), K.2.2.2.2.1, K.2.2.2.2.2.1, upd K.2.2.2.2.2.2 (kn q - 1) 0)) ((200 + 12 * f) + 8) := (wK_wr hw).a (wK_a.mpr hR.1) (id := 708) (by decide) hkr.1
          have mg : onn (wK W (K.1, nI (kb q (kn q - 1)), K.2.2.1, upd K.2.2.2.1 (kn q - 1) (nI k), K.2.2.2.2.1, K.2.2.2.2.2.1, upd K.2.2.2.2.2.2 (kn q - 1) 0)) ((200 + 12 * f) + 8) = 60 := (wK_wr hw).n (wK_a.mpr hR.1) (id := 708) (by decide) hkr.1 (by decide)
          have Qb : zq S 709 (ad (200 + 12 * f)) = some (ad ((200 + 12 * f) + 10)) := hH.qS (wK_a.mpr hR.1) rfl (by rw [hkr.1]; decide) ((wK_wr hw).q (wK_a.mpr hR.1) (by decide) hkr.1) rfl
          have rb : oa (wK W (K.1, nI (kb q (kn q - 1)), K.2.2.1, upd K.2.2.2.1 (kn q - 1) (nI k), K.2.2.2.2.1, K.2.2.2.2.2.1, upd K.2.2.2.2.2.2 (kn q - 1) 0)) ((200 + 12 * f) + 10) := (wK_wr hw).a (wK_a.mpr hR.1) (id := 709) (by decide) hkr.1
          have mb : onn (wK W (K.1, nI (kb q (kn q - 1)), K.2.2.1, upd K.2.2.2.1 (kn q - 1) (nI k), K.2.2.2.2.1, K.2.2.2.2.2.1, upd K.2.2.2.2.2.2 (kn q - 1) 0)) ((200 + 12 * f) + 10) = 60 := (wK_wr hw).n (wK_a.mpr hR.1) (id := 709) (by decide) hkr.1 (by decide)
          refine r_aload_n F dX1_turn_76 rfl ?_
          refine r_getS (ci := 7) (k := 8) (id := 708) (C := RX6) (T := TX6) (N := 13) F G rfl (by decide) (by decide) rfl (zinL inG7) (zin kf_X1_120) (fun _ h9 => h9) dX1_turn_77 R0 Qg ?_
          refine r_aload_n F dX1_turn_80 rfl ?_
          refine r_getS (ci := 2) (k := 0) (id := 200) (C := RX1) (T := TX1) (N := 7) F G rfl (by decide) (by decide) rfl (zinL inG2) (zin kf_X1_9) (fun _ h9 => h9) dX1_turn_81 A8 Q22 ?_
          refine r_aload_n F dX1_turn_84 rfl ?_
          refine r_getiS (ci := 2) (k := 5) (id := 205) (C := RX1) (T := TX1) (N := 7) F G rfl (by decide) (by decide) rfl (zinL inG2) (zin kf_X1_48) (fun _ h9 => h9) dX1_turn_85 A8 JO ?_
          refine v_iald F G hH (n := (kn q - 1)) a22 rfl rfl (by omega) (by omega) dX1_turn_88 ?_
          rw [show ori (wK W (K.1, nI (kb q (kn q - 1)), K.2.2.1, upd K.2.2.2.1 (kn q - 1) (nI k), K.2.2.2.2.1, K.2.2.2.2.2.1, upd K.2.2.2.2.2.2 (kn q - 1) 0)) 22 (kn q - 1) = nI (ko q (kn q - 1)) from ho]
          refine r_iload_n F dX1_turn_89 rfl ?_
          refine r_iconst (v := 1) F dX1_turn_90 (by decide) ?_
          refine r_iadd F dX1_turn_91 ?_
          rw [show nI k + 1 = nI (k + 1) from nI_add k 1]
          refine v_iast F G hH (n := ko q (kn q - 1)) rg_ rfl hkr.2.2.2.2.1 (by omega) (by omega) dX1_turn_92 (fun S hH => ?_)
          refine r_iload_n F dX1_turn_93 rfl ?_
          have hcond : (bw v f q (kn q - 1) = 25 ∧ ke q (kn q - 1) = none ∧ (kh q - kb q (kn q - 1) = kl q (kn q - 1) ∨ (kdd q (kn q - 1) = true ∧ kh q - kb q (kn q - 1) < kl q (kn q - 1)))) := ⟨by rw [hbw]; have c9 := c23; rw [show (25 : Int32) = nI 25 from rfl, nI_eq (by omega) (by omega)] at c9; exact c9, enc_m1 hkeb c36, if10 c43⟩
          have hcR : cR (kElse (setH q (kb q (kn q - 1))) k) (K.1, nI (kb q (kn q - 1)), K.2.2.1, upd K.2.2.2.1 (kn q - 1) (nI k), K.2.2.2.2.1, K.2.2.2.2.2.1, upd K.2.2.2.2.2.2 (kn q - 1) 0) := by
            refine ⟨hQ.1, rfl, fun b hb => ?_⟩
            obtain ⟨g1, g2, g3, g4, g5⟩ := hQ.2.2 b hb
            refine ⟨g1, ?_, g3, g4, ?_⟩
            · show upd K.2.2.2.1 (kn q - 1) (nI k) b = enc (va_up (ke q) (kn q - 1) (some k) b)
              by_cases e : b = (kn q - 1)
              · subst e
                rw [va_up_self]
                exact if_pos rfl
              · rw [va_up_ne _ _ e]
                exact (if_neg e).trans g2
            · show upd K.2.2.2.2.2.2 (kn q - 1) 0 b = (if va_up (kdd q) (kn q - 1) false b then 1 else 0)
              by_cases e : b = (kn q - 1)
              · subst e
                rw [va_up_self]
                exact if_pos rfl
              · rw [va_up_ne _ _ e]
                exact (if_neg e).trans g5
          rw [wK_out (rcell (by omega)), show ori (wK W (K.1, nI (kb q (kn q - 1)), K.2.2.1, upd K.2.2.2.1 (kn q - 1) (nI k), K.2.2.2.2.1, K.2.2.2.2.2.1, upd K.2.2.2.2.2.2 (kn q - 1) 0)) ((200 + 12 * f) + 8) = (ori W ((200 + 12 * f) + 8)) by show (wK W (K.1, nI (kb q (kn q - 1)), K.2.2.1, upd K.2.2.2.1 (kn q - 1) (nI k), K.2.2.2.2.1, K.2.2.2.2.2.1, upd K.2.2.2.2.2.2 (kn q - 1) 0) ((200 + 12 * f) + 8)).2.2.2.2.2.1 = _; rw [wK_n (rcell (by omega))]] at hH
          exact e_zret F hr rfl hlk ⟨zbo.y hcond, _, (K.1, nI (kb q (kn q - 1)), K.2.2.1, upd K.2.2.2.1 (kn q - 1) (nI k), K.2.2.2.2.1, K.2.2.2.2.2.1, upd K.2.2.2.2.2.2 (kn q - 1) 0), hH, fun _ => ⟨hcR, rtX.rf.g⟩, _, _, _, rtX.rf.g⟩ (by decide) (by decide) dX1_turn_94
