theorem rtX.c {W W' : zO} {f : Nat} {E G B : Nat → Int32} (h : rtX W W' f E G B) (c : Nat) : (W' c).1 = (W c).1 ∧ (W' c).2.2.1 = (W c).2.2.1 ∧ (W' c).2.2.2.2.1 = (W c).2.2.2.2.1 := by
  by_cases h1 : c = 200 + 12 * f + 6
  · rw [h1, h.2.1]; exact ⟨rfl, rfl, rfl⟩
  · by_cases h2 : c = 200 + 12 * f + 8
    · rw [h2, h.2.2.1]; exact ⟨rfl, rfl, rfl⟩
    · by_cases h3 : c = 200 + 12 * f + 10
      · rw [h3, h.2.2.2]; exact ⟨rfl, rfl, rfl⟩
      · rw [h.1 c h1 h2 h3]; exact ⟨rfl, rfl, rfl⟩
theorem rtX.oa {W W' : zO} {f : Nat} {E G B : Nat → Int32} (h : rtX W W' f E G B) {c : Nat} : oa W' c ↔ oa W c := by
  show (W' c).1 ↔ _
  rw [(h.c c).1]
theorem rtX.wr {W W' : zO} {f : Nat} {E G B : Nat → Int32} (h : rtX W W' f E G B) (hw : wr W) : wr W' := fun id hid c hc hk => by
  obtain ⟨h1, h2, h3, h4⟩ := hw id hid c (h.oa.mp hc) hk
  exact ⟨by show (W' c).2.2.1 id = _; rw [(h.c c).2.1]; exact h1, h.oa.mpr h2, fun h9 => by show (W' (wd id c)).2.2.2.2.1 = _; rw [(h.c _).2.2]; exact h3 h9, h4⟩
theorem rtX.E {W W' : zO} {f : Nat} {E G B : Nat → Int32} (h : rtX W W' f E G B) : ori W' (200 + 12 * f + 6) = E := by
  show (W' (200 + 12 * f + 6)).2.2.2.2.2.1 = _
  rw [h.2.1]
theorem rtX.G {W W' : zO} {f : Nat} {E G B : Nat → Int32} (h : rtX W W' f E G B) : ori W' (200 + 12 * f + 8) = G := by
  show (W' (200 + 12 * f + 8)).2.2.2.2.2.1 = _
  rw [h.2.2.1]
theorem rtX.B {W W' : zO} {f : Nat} {E G B : Nat → Int32} (h : rtX W W' f E G B) : ori W' (200 + 12 * f + 10) = B := by
  show (W' (200 + 12 * f + 10)).2.2.2.2.2.1 = _
  rw [h.2.2.2]
theorem rtX.tr {W W1 W2 : zO} {f : Nat} {E G B E2 G2 B2 : Nat → Int32} (h : rtX W W1 f E G B) (h2 : rtX W1 W2 f E2 G2 B2) : rtX W W2 f E2 G2 B2 := ⟨fun d d1 d2 d3 => (h2.1 d d1 d2 d3).trans (h.1 d d1 d2 d3), h2.2.1.trans (by rw [h.2.1]), h2.2.2.1.trans (by rw [h.2.2.1]), h2.2.2.2.trans (by rw [h.2.2.2])⟩
theorem rtX.se {W W1 : zO} {K : kS} {f : Nat} {E G B g : Nat → Int32} (h : rtX W W1 f E G B) : oRi (wK W1 K) (200 + 12 * f + 6) g = wK (oRi W1 (200 + 12 * f + 6) g) K := wK_out (rcell (by omega))
theorem rtX.ke {W W1 : zO} {K : kS} {f : Nat} {E G B : Nat → Int32} (h : rtX W W1 f E G B) : ori (wK W1 K) (200 + 12 * f + 6) = E := by
  show (wK W1 K (200 + 12 * f + 6)).2.2.2.2.2.1 = _
  rw [wK_n (rcell (by omega))]
  exact h.E
theorem rtX.sg {W W1 : zO} {K : kS} {f : Nat} {E G B g : Nat → Int32} (h : rtX W W1 f E G B) : oRi (wK W1 K) (200 + 12 * f + 8) g = wK (oRi W1 (200 + 12 * f + 8) g) K := wK_out (rcell (by omega))
theorem rtX.kg {W W1 : zO} {K : kS} {f : Nat} {E G B : Nat → Int32} (h : rtX W W1 f E G B) : ori (wK W1 K) (200 + 12 * f + 8) = G := by
  show (wK W1 K (200 + 12 * f + 8)).2.2.2.2.2.1 = _
  rw [wK_n (rcell (by omega))]
  exact h.G
theorem rtX.sb {W W1 : zO} {K : kS} {f : Nat} {E G B g : Nat → Int32} (h : rtX W W1 f E G B) : oRi (wK W1 K) (200 + 12 * f + 10) g = wK (oRi W1 (200 + 12 * f + 10) g) K := wK_out (rcell (by omega))
theorem rtX.kb {W W1 : zO} {K : kS} {f : Nat} {E G B : Nat → Int32} (h : rtX W W1 f E G B) : ori (wK W1 K) (200 + 12 * f + 10) = B := by
  show (wK W1 K (200 + 12 * f + 10)).2.2.2.2.2.1 = _
  rw [wK_n (rcell (by omega))]
  exact h.B
/-- where the code goes, behind an END at word k -/
def fE (q : ckS) (k : Nat) (E : Nat → Int32) : Nat → Int32 := match ke q (kn q - 1) with
  | none => upd E (ko q (kn q - 1)) (nI k)
  | some z => upd (upd E (ko q (kn q - 1)) (nI k)) z (nI k)
def fG (q : ckS) (k : Nat) (G : Nat → Int32) : Nat → Int32 := match ke q (kn q - 1) with
  | none => upd G (ko q (kn q - 1)) (nI (k + 1))
  | some _ => G
theorem nI_subge {t j : Nat} (h1 : t < 2 ^ 30) (h2 : j < 2 ^ 30) : (nI t - nI j < 0) ↔ t < j := by
  by_cases h : j ≤ t
  · rw [nI_sub h]
    exact ⟨fun h9 => absurd h9 (nI_pos (by omega)), fun h9 => by omega⟩
  · refine ⟨fun _ => by omega, fun _ => ?_⟩
    rw [Int32.lt_iff_toInt_lt, Int32.toInt_sub, nI_toInt (by omega), nI_toInt (by omega)]
    show Int.bmod _ _ < 0
    rw [Int.bmod_def]
    split <;> omega
set_option maxRecDepth 100000 in
set_option maxHeartbeats 4000000 in
theorem c_kfinish {l : Launch} {N0 t0 : Nat} {D : va_G} {cy : Nat → ClassId} {S : zS} {X : Nat → Prop} {S0 : zS} {ad : Nat → Nat} {W : zO} {K : kS} (hw : wr W) (a8 : oa W 8) (hH : zH t0 X S0 ad (wK W K) S) {v : zV} {f : Nat} {q : ckS} {k H : Nat} (hv : vRg v) (hf : f < 48) (hR : rpR v W f) (hQ : cR q K) (hI : kI k H q) (hk : k < 60) (hH30 : H < 2 ^ 29) (hEl : ∀ b, b < kn q → ∀ z, ke q b = some z → z < k) : zMi l yX1_finish (zws yX1_finish cX1_finish 4 (some .boolean)) { frames := 1, cells := 0, slots := 0, locals := 21 } N0 t0 D cy S [.ref (ad 8), .ref (ad (200 + 12 * f)), .int (nI k)] (fun r S' => zbo r (¬ kn q = 1 ∧ ¬ (bw v f q (kn q - 1) = 25 ∧ ke q (kn q - 1) = none ∧ 0 < kl q (kn q - 1)) ∧ (kh q - kb q (kn q - 1) = kl q (kn q - 1) ∨ (kdd q (kn q - 1) = true ∧ kh q - kb q (kn q - 1) < kl q (kn q - 1)))) ∧ ∃ (W' : zO) (K' : kS), zH t0 X S0 ad (wK W' K') S' ∧ ((¬ kn q = 1 ∧ ¬ (bw v f q (kn q - 1) = 25 ∧ ke q (kn q - 1) = none ∧ 0 < kl q (kn q - 1)) ∧ (kh q - kb q (kn q - 1) = kl q (kn q - 1) ∨ (kdd q (kn q - 1) = true ∧ kh q - kb q (kn q - 1) < kl q (kn q - 1)))) → cR (kEnd (setH q (kb q (kn q - 1)))) K' ∧ rtX W W' f (fE q k (ori W ((200 + 12 * f) + 6))) (fG q k (ori W ((200 + 12 * f) + 8))) (ori W ((200 + 12 * f) + 10))) ∧ ∃ E2 G2 B2, rtX W W' f E2 G2 B2) 0 0 := by
  refine zMi.of (cc := cX1_finish) (maxL := 4) (ret := (some .boolean)) (by decide) rfl (Nat.le_of_ble_eq_true rfl) ?_
  intro p e s m args below meth c F G hr hlk hnm
  have hkr := kd_r f hf
  have hn1 := hI.1
  have hn2 := hI.2.1
  have hhH := hI.2.2.1
  have hT := hQ.2.2 (kn q - 1) (by omega)
  have hl1 := (hI.2.2.2.1 (kn q - 1) (by omega)).1
  have a8k : oa (wK W K) 8 := wK_a.mpr a8
  have A8 : zA S (ad 8) 2 := hH.al a8k rfl rfl
  have JO : zi S 205 (ad 8) = (K).1 := hH.i a8k rfl (by decide)
  have IH : zi S 206 (ad 8) = (K).2.1 := hH.i a8k rfl (by decide)
  have Q22 : zq S 200 (ad 8) = some (ad 22) := hH.qS a8k rfl (by decide) ((wK_wr hw).q a8k (by decide) rfl) rfl
  have a22 : oa (wK W K) 22 := (wK_wr hw).a a8k (id := 200) (by decide) rfl
  have n22 : onn (wK W K) 22 = 61 := (wK_wr hw).n a8k (id := 200) (by decide) rfl (by decide)
  have Q24 : zq S 201 (ad 8) = some (ad 24) := hH.qS a8k rfl (by decide) ((wK_wr hw).q a8k (by decide) rfl) rfl
  have a24 : oa (wK W K) 24 := (wK_wr hw).a a8k (id := 201) (by decide) rfl
  have n24 : onn (wK W K) 24 = 61 := (wK_wr hw).n a8k (id := 201) (by decide) rfl (by decide)
  have Q26 : zq S 202 (ad 8) = some (ad 26) := hH.qS a8k rfl (by decide) ((wK_wr hw).q a8k (by decide) rfl) rfl
  have a26 : oa (wK W K) 26 := (wK_wr hw).a a8k (id := 202) (by decide) rfl
  have n26 : onn (wK W K) 26 = 61 := (wK_wr hw).n a8k (id := 202) (by decide) rfl (by decide)
  have Q28 : zq S 203 (ad 8) = some (ad 28) := hH.qS a8k rfl (by decide) ((wK_wr hw).q a8k (by decide) rfl) rfl
  have a28 : oa (wK W K) 28 := (wK_wr hw).a a8k (id := 203) (by decide) rfl
  have n28 : onn (wK W K) 28 = 61 := (wK_wr hw).n a8k (id := 203) (by decide) rfl (by decide)
  have Q30 : zq S 204 (ad 8) = some (ad 30) := hH.qS a8k rfl (by decide) ((wK_wr hw).q a8k (by decide) rfl) rfl
  have a30 : oa (wK W K) 30 := (wK_wr hw).a a8k (id := 204) (by decide) rfl
  have n30 : onn (wK W K) 30 = 61 := (wK_wr hw).n a8k (id := 204) (by decide) rfl (by decide)
  have R0 : zA S (ad (200 + 12 * f)) 7 := hH.al (wK_a.mpr hR.1) rfl hkr.1
  have Qw : zq S 705 (ad (200 + 12 * f)) = some (ad ((200 + 12 * f) + 2)) := hH.qS (wK_a.mpr hR.1) rfl (by rw [hkr.1]; decide) ((wK_wr hw).q (wK_a.mpr hR.1) (by decide) hkr.1) rfl
  have rw_ : oa (wK W K) ((200 + 12 * f) + 2) := (wK_wr hw).a (wK_a.mpr hR.1) (id := 705) (by decide) hkr.1
  have mw : onn (wK W K) ((200 + 12 * f) + 2) = 60 := (wK_wr hw).n (wK_a.mpr hR.1) (id := 705) (by decide) hkr.1 (by decide)
  have Qn : zq S 706 (ad (200 + 12 * f)) = some (ad ((200 + 12 * f) + 4)) := hH.qS (wK_a.mpr hR.1) rfl (by rw [hkr.1]; decide) ((wK_wr hw).q (wK_a.mpr hR.1) (by decide) hkr.1) rfl
  have rn : oa (wK W K) ((200 + 12 * f) + 4) := (wK_wr hw).a (wK_a.mpr hR.1) (id := 706) (by decide) hkr.1
  have mn : onn (wK W K) ((200 + 12 * f) + 4) = 60 := (wK_wr hw).n (wK_a.mpr hR.1) (id := 706) (by decide) hkr.1 (by decide)
  have Qe : zq S 707 (ad (200 + 12 * f)) = some (ad ((200 + 12 * f) + 6)) := hH.qS (wK_a.mpr hR.1) rfl (by rw [hkr.1]; decide) ((wK_wr hw).q (wK_a.mpr hR.1) (by decide) hkr.1) rfl
  have re : oa (wK W K) ((200 + 12 * f) + 6) := (wK_wr hw).a (wK_a.mpr hR.1) (id := 707) (by decide) hkr.1
  have me : onn (wK W K) ((200 + 12 * f) + 6) = 60 := (wK_wr hw).n (wK_a.mpr hR.1) (id := 707) (by decide) hkr.1 (by decide)
  have Qg : zq S 708 (ad (200 + 12 * f)) = some (ad ((200 + 12 * f) + 8)) := hH.qS (wK_a.mpr hR.1) rfl (by rw [hkr.1]; decide) ((wK_wr hw).q (wK_a.mpr hR.1) (by decide) hkr.1) rfl
  have rg_ : oa (wK W K) ((200 + 12 * f) + 8) := (wK_wr hw).a (wK_a.mpr hR.1) (id := 708) (by decide) hkr.1
  have mg : onn (wK W K) ((200 + 12 * f) + 8) = 60 := (wK_wr hw).n (wK_a.mpr hR.1) (id := 708) (by decide) hkr.1 (by decide)
  have Qb : zq S 709 (ad (200 + 12 * f)) = some (ad ((200 + 12 * f) + 10)) := hH.qS (wK_a.mpr hR.1) rfl (by rw [hkr.1]; decide) ((wK_wr hw).q (wK_a.mpr hR.1) (by decide) hkr.1) rfl
  have rb : oa (wK W K) ((200 + 12 * f) + 10) := (wK_wr hw).a (wK_a.mpr hR.1) (id := 709) (by decide) hkr.1
  have mb : onn (wK W K) ((200 + 12 * f) + 10) = 60 := (wK_wr hw).n (wK_a.mpr hR.1) (id := 709) (by decide) hkr.1 (by decide)
  rw [hQ.1] at JO
  rw [hQ.2.1] at IH
  have hbT := hI.2.2.2.2.2
  have hkeb : ∀ z, ke q (kn q - 1) = some z → z < 2 ^ 31 := fun z hz => by have := hEl _ (show kn q - 1 < kn q by omega) z hz; omega
  have hra := hR.1
  have hrt0 : rtX W W f (ori W (200 + 12 * f + 6)) (ori W (200 + 12 * f + 8)) (ori W (200 + 12 * f + 10)) := rtX.rf
  refine r_aload_n F dX1_finish_0 rfl ?_
  refine r_getiS (ci := 2) (k := 5) (id := 205) (C := RX1) (T := TX1) (N := 7) F G rfl (by decide) (by decide) rfl (zinL inG2) (zin kf_X1_48) (fun _ h9 => h9) dX1_finish_1 A8 JO ?_
  refine r_if_eq (tgt := 22) F dX1_finish_4 (by decide) (fun c4 => ?_) (fun c4 => ?_)
  · refine r_iconst (v := 0) F dX1_finish_22 (by decide) ?_
    exact e_zret F hr rfl hlk ⟨zbo.n (fun h => h.1 (by have c9 := c4; rw [nl0, nI_eq (by omega) (by omega)] at c9; omega)), W, K, hH, fun h => absurd h (fun h => h.1 (by have c9 := c4; rw [nl0, nI_eq (by omega) (by omega)] at c9; omega)), _, _, _, rtX.rf⟩ (by decide) (by decide) dX1_finish_23
  · have hnn : ¬ kn q = 1 := fun h9 => c4 (by rw [h9]; rfl)
    have hko := (hI.2.2.2.1 (kn q - 1) (by omega)).2 (by omega)
    have ho : K.2.2.1 (kn q - 1) = nI (ko q (kn q - 1)) := by rw [hT.1, if_neg (by omega)]
    refine r_aload_n F dX1_finish_7 rfl ?_
    refine r_aload_n F dX1_finish_8 rfl ?_
    refine c_Vi (ci := 2) F G (c_klacks hw a8 hH hv hf hR hQ hI hk hH30 hnn hEl) (cwV 1 F.2.2.2.2 (zgV km_X1_123 ki_X1_lacksElse ke_X1_X1_lacksElse kn_X1 ko_X1_lacksElse) rfl rfl rfl ⟨rfl, hd_yX1_lacksElse⟩ ⟨Nat.le_of_ble_eq_true rfl, Nat.le_of_ble_eq_true rfl⟩) rfl (by decide) A8 rfl rfl (Nat.le_of_ble_eq_true rfl) dX1_finish_9 ⟨Nat.le_of_ble_eq_true rfl, Nat.le_of_ble_eq_true rfl⟩ (fun r9 S9 h9 => ?_)
    obtain ⟨a12, h9b⟩ := h9
    have h9c := h9b.symm
    subst h9c
    refine r_if_ne (tgt := 22) F dX1_finish_12 (by decide) (fun c12 => ?_) (fun c12 => ?_)
    · refine r_iconst (v := 0) F dX1_finish_22 (by decide) ?_
      exact e_zret F hr rfl hlk ⟨zbo.n (fun h => h.2.1 (a12.t c12)), W, K, hH, fun h => absurd h (fun h => h.2.1 (a12.t c12)), _, _, _, rtX.rf⟩ (by decide) (by decide) dX1_finish_23
    · refine r_aload_n F dX1_finish_15 rfl ?_
      refine c_Vi (ci := 2) F G (c_kcloses hw a8 hH (t := (kn q - 1)) (h := kh q) (b := kb q (kn q - 1)) (dd := kdd q (kn q - 1)) (w := kl q (kn q - 1)) hQ.1 (by omega) hQ.2.1 hT.2.2.1 hbT (by omega) hT.2.2.2.2 (by omega) hT.2.2.2.1) (cwV 0 F.2.2.2.2 (zgV km_X1_67 ki_X1_closes ke_X1_X1_closes kn_X1 ko_X1_closes) rfl rfl rfl ⟨rfl, hd_yX1_closes⟩ ⟨Nat.le_of_ble_eq_true rfl, Nat.le_of_ble_eq_true rfl⟩) rfl (by decide) A8 rfl rfl (Nat.le_of_ble_eq_true rfl) dX1_finish_16 ⟨Nat.le_of_ble_eq_true rfl, Nat.le_of_ble_eq_true rfl⟩ (fun r16 S16 h16 => ?_)
      obtain ⟨a16, hH⟩ := h16
      subst a16
      clear A8 JO IH Q22 Q24 Q26 Q28 Q30
      clear R0 Qw rw_ mw Qn rn mn Qe re me Qg rg_ mg Qb rb mb
      have a8k : oa (wK W (K.1, nI (kb q (kn q - 1)), K.2.2)) 8 := wK_a.mpr a8
      have A8 : zA S16 (ad 8) 2 := hH.al a8k rfl rfl
      have JO : zi S16 205 (ad 8) = ((K.1, nI (kb q (kn q - 1)), K.2.2)).1 := hH.i a8k rfl (by decide)
      have IH : zi S16 206 (ad 8) = ((K.1, nI (kb q (kn q - 1)), K.2.2)).2.1 := hH.i a8k rfl (by decide)
      have Q22 : zq S16 200 (ad 8) = some (ad 22) := hH.qS a8k rfl (by decide) ((wK_wr hw).q a8k (by decide) rfl) rfl
      have a22 : oa (wK W (K.1, nI (kb q (kn q - 1)), K.2.2)) 22 := (wK_wr hw).a a8k (id := 200) (by decide) rfl
      have n22 : onn (wK W (K.1, nI (kb q (kn q - 1)), K.2.2)) 22 = 61 := (wK_wr hw).n a8k (id := 200) (by decide) rfl (by decide)
      have Q24 : zq S16 201 (ad 8) = some (ad 24) := hH.qS a8k rfl (by decide) ((wK_wr hw).q a8k (by decide) rfl) rfl
      have a24 : oa (wK W (K.1, nI (kb q (kn q - 1)), K.2.2)) 24 := (wK_wr hw).a a8k (id := 201) (by decide) rfl
      have n24 : onn (wK W (K.1, nI (kb q (kn q - 1)), K.2.2)) 24 = 61 := (wK_wr hw).n a8k (id := 201) (by decide) rfl (by decide)
      have Q26 : zq S16 202 (ad 8) = some (ad 26) := hH.qS a8k rfl (by decide) ((wK_wr hw).q a8k (by decide) rfl) rfl
      have a26 : oa (wK W (K.1, nI (kb q (kn q - 1)), K.2.2)) 26 := (wK_wr hw).a a8k (id := 202) (by decide) rfl
      have n26 : onn (wK W (K.1, nI (kb q (kn q - 1)), K.2.2)) 26 = 61 := (wK_wr hw).n a8k (id := 202) (by decide) rfl (by decide)
      have Q28 : zq S16 203 (ad 8) = some (ad 28) := hH.qS a8k rfl (by decide) ((wK_wr hw).q a8k (by decide) rfl) rfl
      have a28 : oa (wK W (K.1, nI (kb q (kn q - 1)), K.2.2)) 28 := (wK_wr hw).a a8k (id := 203) (by decide) rfl
      have n28 : onn (wK W (K.1, nI (kb q (kn q - 1)), K.2.2)) 28 = 61 := (wK_wr hw).n a8k (id := 203) (by decide) rfl (by decide)
      have Q30 : zq S16 204 (ad 8) = some (ad 30) := hH.qS a8k rfl (by decide) ((wK_wr hw).q a8k (by decide) rfl) rfl
      have a30 : oa (wK W (K.1, nI (kb q (kn q - 1)), K.2.2)) 30 := (wK_wr hw).a a8k (id := 204) (by decide) rfl
      have n30 : onn (wK W (K.1, nI (kb q (kn q - 1)), K.2.2)) 30 = 61 := (wK_wr hw).n a8k (id := 204) (by decide) rfl (by decide)
      have R0 : zA S16 (ad (200 + 12 * f)) 7 := hH.al (wK_a.mpr hra) rfl hkr.1
      have Qw : zq S16 705 (ad (200 + 12 * f)) = some (ad ((200 + 12 * f) + 2)) := hH.qS (wK_a.mpr hra) rfl (by rw [hkr.1]; decide) ((wK_wr hw).q (wK_a.mpr hra) (by decide) hkr.1) rfl
      have rw_ : oa (wK W (K.1, nI (kb q (kn q - 1)), K.2.2)) ((200 + 12 * f) + 2) := (wK_wr hw).a (wK_a.mpr hra) (id := 705) (by decide) hkr.1
      have mw : onn (wK W (K.1, nI (kb q (kn q - 1)), K.2.2)) ((200 + 12 * f) + 2) = 60 := (wK_wr hw).n (wK_a.mpr hra) (id := 705) (by decide) hkr.1 (by decide)
      have Qn : zq S16 706 (ad (200 + 12 * f)) = some (ad ((200 + 12 * f) + 4)) := hH.qS (wK_a.mpr hra) rfl (by rw [hkr.1]; decide) ((wK_wr hw).q (wK_a.mpr hra) (by decide) hkr.1) rfl
      have rn : oa (wK W (K.1, nI (kb q (kn q - 1)), K.2.2)) ((200 + 12 * f) + 4) := (wK_wr hw).a (wK_a.mpr hra) (id := 706) (by decide) hkr.1
      have mn : onn (wK W (K.1, nI (kb q (kn q - 1)), K.2.2)) ((200 + 12 * f) + 4) = 60 := (wK_wr hw).n (wK_a.mpr hra) (id := 706) (by decide) hkr.1 (by decide)
      have Qe : zq S16 707 (ad (200 + 12 * f)) = some (ad ((200 + 12 * f) + 6)) := hH.qS (wK_a.mpr hra) rfl (by rw [hkr.1]; decide) ((wK_wr hw).q (wK_a.mpr hra) (by decide) hkr.1) rfl
      have re : oa (wK W (K.1, nI (kb q (kn q - 1)), K.2.2)) ((200 + 12 * f) + 6) := (wK_wr hw).a (wK_a.mpr hra) (id := 707) (by decide) hkr.1
      have me : onn (wK W (K.1, nI (kb q (kn q - 1)), K.2.2)) ((200 + 12 * f) + 6) = 60 := (wK_wr hw).n (wK_a.mpr hra) (id := 707) (by decide) hkr.1 (by decide)
      have Qg : zq S16 708 (ad (200 + 12 * f)) = some (ad ((200 + 12 * f) + 8)) := hH.qS (wK_a.mpr hra) rfl (by rw [hkr.1]; decide) ((wK_wr hw).q (wK_a.mpr hra) (by decide) hkr.1) rfl
      have rg_ : oa (wK W (K.1, nI (kb q (kn q - 1)), K.2.2)) ((200 + 12 * f) + 8) := (wK_wr hw).a (wK_a.mpr hra) (id := 708) (by decide) hkr.1
      have mg : onn (wK W (K.1, nI (kb q (kn q - 1)), K.2.2)) ((200 + 12 * f) + 8) = 60 := (wK_wr hw).n (wK_a.mpr hra) (id := 708) (by decide) hkr.1 (by decide)
      have Qb : zq S16 709 (ad (200 + 12 * f)) = some (ad ((200 + 12 * f) + 10)) := hH.qS (wK_a.mpr hra) rfl (by rw [hkr.1]; decide) ((wK_wr hw).q (wK_a.mpr hra) (by decide) hkr.1) rfl
      have rb : oa (wK W (K.1, nI (kb q (kn q - 1)), K.2.2)) ((200 + 12 * f) + 10) := (wK_wr hw).a (wK_a.mpr hra) (id := 709) (by decide) hkr.1
      have mb : onn (wK W (K.1, nI (kb q (kn q - 1)), K.2.2)) ((200 + 12 * f) + 10) = 60 := (wK_wr hw).n (wK_a.mpr hra) (id := 709) (by decide) hkr.1 (by decide)
      have JO2 := JO.trans hQ.1
      clear JO
      have JO := JO2
      refine r_if_ne (tgt := 24) F dX1_finish_19 (by decide) (fun c19 => ?_) (fun c19 => ?_)
      · refine r_aload_n F dX1_finish_24 rfl ?_
        refine r_getS (ci := 2) (k := 0) (id := 200) (C := RX1) (T := TX1) (N := 7) F G rfl (by decide) (by decide) rfl (zinL inG2) (zin kf_X1_9) (fun _ h9 => h9) dX1_finish_25 A8 Q22 ?_
        refine r_aload_n F dX1_finish_28 rfl ?_
        refine r_getiS (ci := 2) (k := 5) (id := 205) (C := RX1) (T := TX1) (N := 7) F G rfl (by decide) (by decide) rfl (zinL inG2) (zin kf_X1_48) (fun _ h9 => h9) dX1_finish_29 A8 JO ?_
        refine v_iald F G hH (n := (kn q - 1)) a22 rfl rfl (by omega) (by omega) dX1_finish_32 ?_
        rw [show ori (wK W (K.1, nI (kb q (kn q - 1)), K.2.2)) 22 (kn q - 1) = nI (ko q (kn q - 1)) from ho]
        refine r_istore_n F dX1_finish_33 (by decide) ?_
        refine r_aload_n F dX1_finish_34 rfl ?_
        refine r_getS (ci := 7) (k := 7) (id := 707) (C := RX6) (T := TX6) (N := 13) F G rfl (by decide) (by decide) rfl (zinL inG7) (zin kf_X1_127) (fun _ h9 => h9) dX1_finish_35 R0 Qe ?_
        refine r_iload_n F dX1_finish_38 rfl ?_
        refine r_iload_n F dX1_finish_39 rfl ?_
        refine v_iast F G hH (n := ko q (kn q - 1)) re rfl hkr.2.2.2.1 (by omega) (by omega) dX1_finish_40 (fun S hH => ?_)
        rw [hrt0.se, hrt0.ke] at hH
        obtain ⟨W1, hrt1, hH⟩ : ∃ W1, rtX W W1 f (upd (ori W ((200 + 12 * f) + 6)) (ko q (kn q - 1)) (nI k)) (ori W ((200 + 12 * f) + 8)) (ori W ((200 + 12 * f) + 10)) ∧ zH t0 X S0 ad (wK W1 (K.1, nI (kb q (kn q - 1)), K.2.2)) S := ⟨_, hrt0.e, hH⟩
        have hw1 := hrt1.wr hw
        have a81 := hrt1.oa.mpr a8
        have hra1 := hrt1.oa.mpr hR.1
        clear A8 JO IH Q22 Q24 Q26 Q28 Q30
        clear R0 Qw rw_ mw Qn rn mn Qe re me Qg rg_ mg Qb rb mb
        have a8k : oa (wK W1 (K.1, nI (kb q (kn q - 1)), K.2.2)) 8 := wK_a.mpr a81
        have A8 : zA S (ad 8) 2 := hH.al a8k rfl rfl
        have JO : zi S 205 (ad 8) = ((K.1, nI (kb q (kn q - 1)), K.2.2)).1 := hH.i a8k rfl (by decide)
        have IH : zi S 206 (ad 8) = ((K.1, nI (kb q (kn q - 1)), K.2.2)).2.1 := hH.i a8k rfl (by decide)
        have Q22 : zq S 200 (ad 8) = some (ad 22) := hH.qS a8k rfl (by decide) ((wK_wr hw1).q a8k (by decide) rfl) rfl
        have a22 : oa (wK W1 (K.1, nI (kb q (kn q - 1)), K.2.2)) 22 := (wK_wr hw1).a a8k (id := 200) (by decide) rfl
        have n22 : onn (wK W1 (K.1, nI (kb q (kn q - 1)), K.2.2)) 22 = 61 := (wK_wr hw1).n a8k (id := 200) (by decide) rfl (by decide)
        have Q24 : zq S 201 (ad 8) = some (ad 24) := hH.qS a8k rfl (by decide) ((wK_wr hw1).q a8k (by decide) rfl) rfl
        have a24 : oa (wK W1 (K.1, nI (kb q (kn q - 1)), K.2.2)) 24 := (wK_wr hw1).a a8k (id := 201) (by decide) rfl
        have n24 : onn (wK W1 (K.1, nI (kb q (kn q - 1)), K.2.2)) 24 = 61 := (wK_wr hw1).n a8k (id := 201) (by decide) rfl (by decide)
        have Q26 : zq S 202 (ad 8) = some (ad 26) := hH.qS a8k rfl (by decide) ((wK_wr hw1).q a8k (by decide) rfl) rfl
        have a26 : oa (wK W1 (K.1, nI (kb q (kn q - 1)), K.2.2)) 26 := (wK_wr hw1).a a8k (id := 202) (by decide) rfl
        have n26 : onn (wK W1 (K.1, nI (kb q (kn q - 1)), K.2.2)) 26 = 61 := (wK_wr hw1).n a8k (id := 202) (by decide) rfl (by decide)
        have Q28 : zq S 203 (ad 8) = some (ad 28) := hH.qS a8k rfl (by decide) ((wK_wr hw1).q a8k (by decide) rfl) rfl
        have a28 : oa (wK W1 (K.1, nI (kb q (kn q - 1)), K.2.2)) 28 := (wK_wr hw1).a a8k (id := 203) (by decide) rfl
        have n28 : onn (wK W1 (K.1, nI (kb q (kn q - 1)), K.2.2)) 28 = 61 := (wK_wr hw1).n a8k (id := 203) (by decide) rfl (by decide)
        have Q30 : zq S 204 (ad 8) = some (ad 30) := hH.qS a8k rfl (by decide) ((wK_wr hw1).q a8k (by decide) rfl) rfl
        have a30 : oa (wK W1 (K.1, nI (kb q (kn q - 1)), K.2.2)) 30 := (wK_wr hw1).a a8k (id := 204) (by decide) rfl
        have n30 : onn (wK W1 (K.1, nI (kb q (kn q - 1)), K.2.2)) 30 = 61 := (wK_wr hw1).n a8k (id := 204) (by decide) rfl (by decide)
        have R0 : zA S (ad (200 + 12 * f)) 7 := hH.al (wK_a.mpr hra1) rfl hkr.1
        have Qw : zq S 705 (ad (200 + 12 * f)) = some (ad ((200 + 12 * f) + 2)) := hH.qS (wK_a.mpr hra1) rfl (by rw [hkr.1]; decide) ((wK_wr hw1).q (wK_a.mpr hra1) (by decide) hkr.1) rfl
        have rw_ : oa (wK W1 (K.1, nI (kb q (kn q - 1)), K.2.2)) ((200 + 12 * f) + 2) := (wK_wr hw1).a (wK_a.mpr hra1) (id := 705) (by decide) hkr.1
        have mw : onn (wK W1 (K.1, nI (kb q (kn q - 1)), K.2.2)) ((200 + 12 * f) + 2) = 60 := (wK_wr hw1).n (wK_a.mpr hra1) (id := 705) (by decide) hkr.1 (by decide)
        have Qn : zq S 706 (ad (200 + 12 * f)) = some (ad ((200 + 12 * f) + 4)) := hH.qS (wK_a.mpr hra1) rfl (by rw [hkr.1]; decide) ((wK_wr hw1).q (wK_a.mpr hra1) (by decide) hkr.1) rfl
        have rn : oa (wK W1 (K.1, nI (kb q (kn q - 1)), K.2.2)) ((200 + 12 * f) + 4) := (wK_wr hw1).a (wK_a.mpr hra1) (id := 706) (by decide) hkr.1
        have mn : onn (wK W1 (K.1, nI (kb q (kn q - 1)), K.2.2)) ((200 + 12 * f) + 4) = 60 := (wK_wr hw1).n (wK_a.mpr hra1) (id := 706) (by decide) hkr.1 (by decide)
        have Qe : zq S 707 (ad (200 + 12 * f)) = some (ad ((200 + 12 * f) + 6)) := hH.qS (wK_a.mpr hra1) rfl (by rw [hkr.1]; decide) ((wK_wr hw1).q (wK_a.mpr hra1) (by decide) hkr.1) rfl
        have re : oa (wK W1 (K.1, nI (kb q (kn q - 1)), K.2.2)) ((200 + 12 * f) + 6) := (wK_wr hw1).a (wK_a.mpr hra1) (id := 707) (by decide) hkr.1
        have me : onn (wK W1 (K.1, nI (kb q (kn q - 1)), K.2.2)) ((200 + 12 * f) + 6) = 60 := (wK_wr hw1).n (wK_a.mpr hra1) (id := 707) (by decide) hkr.1 (by decide)
        have Qg : zq S 708 (ad (200 + 12 * f)) = some (ad ((200 + 12 * f) + 8)) := hH.qS (wK_a.mpr hra1) rfl (by rw [hkr.1]; decide) ((wK_wr hw1).q (wK_a.mpr hra1) (by decide) hkr.1) rfl
        have rg_ : oa (wK W1 (K.1, nI (kb q (kn q - 1)), K.2.2)) ((200 + 12 * f) + 8) := (wK_wr hw1).a (wK_a.mpr hra1) (id := 708) (by decide) hkr.1
        have mg : onn (wK W1 (K.1, nI (kb q (kn q - 1)), K.2.2)) ((200 + 12 * f) + 8) = 60 := (wK_wr hw1).n (wK_a.mpr hra1) (id := 708) (by decide) hkr.1 (by decide)
        have Qb : zq S 709 (ad (200 + 12 * f)) = some (ad ((200 + 12 * f) + 10)) := hH.qS (wK_a.mpr hra1) rfl (by rw [hkr.1]; decide) ((wK_wr hw1).q (wK_a.mpr hra1) (by decide) hkr.1) rfl
        have rb : oa (wK W1 (K.1, nI (kb q (kn q - 1)), K.2.2)) ((200 + 12 * f) + 10) := (wK_wr hw1).a (wK_a.mpr hra1) (id := 709) (by decide) hkr.1
        have mb : onn (wK W1 (K.1, nI (kb q (kn q - 1)), K.2.2)) ((200 + 12 * f) + 10) = 60 := (wK_wr hw1).n (wK_a.mpr hra1) (id := 709) (by decide) hkr.1 (by decide)
        have JO2 := JO.trans hQ.1
        clear JO
        have JO := JO2
        refine r_aload_n F dX1_finish_41 rfl ?_
        refine r_getS (ci := 2) (k := 1) (id := 201) (C := RX1) (T := TX1) (N := 7) F G rfl (by decide) (by decide) rfl (zinL inG2) (zin kf_X1_15) (fun _ h9 => h9) dX1_finish_42 A8 Q24 ?_
        refine r_aload_n F dX1_finish_45 rfl ?_
        refine r_getiS (ci := 2) (k := 5) (id := 205) (C := RX1) (T := TX1) (N := 7) F G rfl (by decide) (by decide) rfl (zinL inG2) (zin kf_X1_48) (fun _ h9 => h9) dX1_finish_46 A8 JO ?_
        refine v_iald F G hH (n := (kn q - 1)) a24 rfl rfl (by omega) (by omega) dX1_finish_49 ?_
        rw [show ori (wK W1 (K.1, nI (kb q (kn q - 1)), K.2.2)) 24 (kn q - 1) = enc (ke q (kn q - 1)) from hT.2.1]
        refine r_iconst (v := -1) F dX1_finish_50 (by decide) ?_
        refine r_icmp_ne (tgt := 66) F dX1_finish_51 (by decide) (fun c51 => ?_) (fun c51 => ?_)
        · obtain ⟨z, hek⟩ : ∃ z, ke q (kn q - 1) = some z := by
            cases he : ke q (kn q - 1) with
            | none => exact absurd (by rw [he]; rfl) c51
            | some z => exact ⟨z, rfl⟩
          have hz := hEl (kn q - 1) (by omega) z hek
          refine r_aload_n F dX1_finish_66 rfl ?_
          refine r_getS (ci := 7) (k := 7) (id := 707) (C := RX6) (T := TX6) (N := 13) F G rfl (by decide) (by decide) rfl (zinL inG7) (zin kf_X1_127) (fun _ h9 => h9) dX1_finish_67 R0 Qe ?_
          refine r_aload_n F dX1_finish_70 rfl ?_
          refine r_getS (ci := 2) (k := 1) (id := 201) (C := RX1) (T := TX1) (N := 7) F G rfl (by decide) (by decide) rfl (zinL inG2) (zin kf_X1_15) (fun _ h9 => h9) dX1_finish_71 A8 Q24 ?_
          refine r_aload_n F dX1_finish_74 rfl ?_
          refine r_getiS (ci := 2) (k := 5) (id := 205) (C := RX1) (T := TX1) (N := 7) F G rfl (by decide) (by decide) rfl (zinL inG2) (zin kf_X1_48) (fun _ h9 => h9) dX1_finish_75 A8 JO ?_
          refine v_iald F G hH (n := (kn q - 1)) a24 rfl rfl (by omega) (by omega) dX1_finish_78 ?_
          rw [show ori (wK W1 (K.1, nI (kb q (kn q - 1)), K.2.2)) 24 (kn q - 1) = nI z from hT.2.1.trans (by rw [hek]; rfl)]
          refine r_iload_n F dX1_finish_79 rfl ?_
          refine v_iast F G hH (n := z) re rfl hkr.2.2.2.1 (by omega) (by omega) dX1_finish_80 (fun S hH => ?_)
          rw [hrt1.se, hrt1.ke] at hH
          obtain ⟨W2, hrt2, hH⟩ : ∃ W2, rtX W W2 f (upd (upd (ori W ((200 + 12 * f) + 6)) (ko q (kn q - 1)) (nI k)) z (nI k)) (ori W ((200 + 12 * f) + 8)) (ori W ((200 + 12 * f) + 10)) ∧ zH t0 X S0 ad (wK W2 (K.1, nI (kb q (kn q - 1)), K.2.2)) S := ⟨_, hrt1.e, hH⟩
          have hw2 := hrt2.wr hw
          have a82 := hrt2.oa.mpr a8
          have hra2 := hrt2.oa.mpr hR.1
          clear A8 JO IH Q22 Q24 Q26 Q28 Q30
          clear R0 Qw rw_ mw Qn rn mn Qe re me Qg rg_ mg Qb rb mb
          have a8k : oa (wK W2 (K.1, nI (kb q (kn q - 1)), K.2.2)) 8 := wK_a.mpr a82
          have A8 : zA S (ad 8) 2 := hH.al a8k rfl rfl
          have JO : zi S 205 (ad 8) = ((K.1, nI (kb q (kn q - 1)), K.2.2)).1 := hH.i a8k rfl (by decide)
          have IH : zi S 206 (ad 8) = ((K.1, nI (kb q (kn q - 1)), K.2.2)).2.1 := hH.i a8k rfl (by decide)
          have Q22 : zq S 200 (ad 8) = some (ad 22) := hH.qS a8k rfl (by decide) ((wK_wr hw2).q a8k (by decide) rfl) rfl
          have a22 : oa (wK W2 (K.1, nI (kb q (kn q - 1)), K.2.2)) 22 := (wK_wr hw2).a a8k (id := 200) (by decide) rfl
          have n22 : onn (wK W2 (K.1, nI (kb q (kn q - 1)), K.2.2)) 22 = 61 := (wK_wr hw2).n a8k (id := 200) (by decide) rfl (by decide)
          have Q24 : zq S 201 (ad 8) = some (ad 24) := hH.qS a8k rfl (by decide) ((wK_wr hw2).q a8k (by decide) rfl) rfl
          have a24 : oa (wK W2 (K.1, nI (kb q (kn q - 1)), K.2.2)) 24 := (wK_wr hw2).a a8k (id := 201) (by decide) rfl
          have n24 : onn (wK W2 (K.1, nI (kb q (kn q - 1)), K.2.2)) 24 = 61 := (wK_wr hw2).n a8k (id := 201) (by decide) rfl (by decide)
          have Q26 : zq S 202 (ad 8) = some (ad 26) := hH.qS a8k rfl (by decide) ((wK_wr hw2).q a8k (by decide) rfl) rfl
          have a26 : oa (wK W2 (K.1, nI (kb q (kn q - 1)), K.2.2)) 26 := (wK_wr hw2).a a8k (id := 202) (by decide) rfl
          have n26 : onn (wK W2 (K.1, nI (kb q (kn q - 1)), K.2.2)) 26 = 61 := (wK_wr hw2).n a8k (id := 202) (by decide) rfl (by decide)
          have Q28 : zq S 203 (ad 8) = some (ad 28) := hH.qS a8k rfl (by decide) ((wK_wr hw2).q a8k (by decide) rfl) rfl
          have a28 : oa (wK W2 (K.1, nI (kb q (kn q - 1)), K.2.2)) 28 := (wK_wr hw2).a a8k (id := 203) (by decide) rfl
          have n28 : onn (wK W2 (K.1, nI (kb q (kn q - 1)), K.2.2)) 28 = 61 := (wK_wr hw2).n a8k (id := 203) (by decide) rfl (by decide)
          have Q30 : zq S 204 (ad 8) = some (ad 30) := hH.qS a8k rfl (by decide) ((wK_wr hw2).q a8k (by decide) rfl) rfl
          have a30 : oa (wK W2 (K.1, nI (kb q (kn q - 1)), K.2.2)) 30 := (wK_wr hw2).a a8k (id := 204) (by decide) rfl
          have n30 : onn (wK W2 (K.1, nI (kb q (kn q - 1)), K.2.2)) 30 = 61 := (wK_wr hw2).n a8k (id := 204) (by decide) rfl (by decide)
          have R0 : zA S (ad (200 + 12 * f)) 7 := hH.al (wK_a.mpr hra2) rfl hkr.1
          have Qw : zq S 705 (ad (200 + 12 * f)) = some (ad ((200 + 12 * f) + 2)) := hH.qS (wK_a.mpr hra2) rfl (by rw [hkr.1]; decide) ((wK_wr hw2).q (wK_a.mpr hra2) (by decide) hkr.1) rfl
          have rw_ : oa (wK W2 (K.1, nI (kb q (kn q - 1)), K.2.2)) ((200 + 12 * f) + 2) := (wK_wr hw2).a (wK_a.mpr hra2) (id := 705) (by decide) hkr.1
          have mw : onn (wK W2 (K.1, nI (kb q (kn q - 1)), K.2.2)) ((200 + 12 * f) + 2) = 60 := (wK_wr hw2).n (wK_a.mpr hra2) (id := 705) (by decide) hkr.1 (by decide)
          have Qn : zq S 706 (ad (200 + 12 * f)) = some (ad ((200 + 12 * f) + 4)) := hH.qS (wK_a.mpr hra2) rfl (by rw [hkr.1]; decide) ((wK_wr hw2).q (wK_a.mpr hra2) (by decide) hkr.1) rfl
          have rn : oa (wK W2 (K.1, nI (kb q (kn q - 1)), K.2.2)) ((200 + 12 * f) + 4) := (wK_wr hw2).a (wK_a.mpr hra2) (id := 706) (by decide) hkr.1
          have mn : onn (wK W2 (K.1, nI (kb q (kn q - 1)), K.2.2)) ((200 + 12 * f) + 4) = 60 := (wK_wr hw2).n (wK_a.mpr hra2) (id := 706) (by decide) hkr.1 (by decide)
          have Qe : zq S 707 (ad (200 + 12 * f)) = some (ad ((200 + 12 * f) + 6)) := hH.qS (wK_a.mpr hra2) rfl (by rw [hkr.1]; decide) ((wK_wr hw2).q (wK_a.mpr hra2) (by decide) hkr.1) rfl
          have re : oa (wK W2 (K.1, nI (kb q (kn q - 1)), K.2.2)) ((200 + 12 * f) + 6) := (wK_wr hw2).a (wK_a.mpr hra2) (id := 707) (by decide) hkr.1
          have me : onn (wK W2 (K.1, nI (kb q (kn q - 1)), K.2.2)) ((200 + 12 * f) + 6) = 60 := (wK_wr hw2).n (wK_a.mpr hra2) (id := 707) (by decide) hkr.1 (by decide)
          have Qg : zq S 708 (ad (200 + 12 * f)) = some (ad ((200 + 12 * f) + 8)) := hH.qS (wK_a.mpr hra2) rfl (by rw [hkr.1]; decide) ((wK_wr hw2).q (wK_a.mpr hra2) (by decide) hkr.1) rfl
          have rg_ : oa (wK W2 (K.1, nI (kb q (kn q - 1)), K.2.2)) ((200 + 12 * f) + 8) := (wK_wr hw2).a (wK_a.mpr hra2) (id := 708) (by decide) hkr.1
          have mg : onn (wK W2 (K.1, nI (kb q (kn q - 1)), K.2.2)) ((200 + 12 * f) + 8) = 60 := (wK_wr hw2).n (wK_a.mpr hra2) (id := 708) (by decide) hkr.1 (by decide)
          have Qb : zq S 709 (ad (200 + 12 * f)) = some (ad ((200 + 12 * f) + 10)) := hH.qS (wK_a.mpr hra2) rfl (by rw [hkr.1]; decide) ((wK_wr hw2).q (wK_a.mpr hra2) (by decide) hkr.1) rfl
          have rb : oa (wK W2 (K.1, nI (kb q (kn q - 1)), K.2.2)) ((200 + 12 * f) + 10) := (wK_wr hw2).a (wK_a.mpr hra2) (id := 709) (by decide) hkr.1
          have mb : onn (wK W2 (K.1, nI (kb q (kn q - 1)), K.2.2)) ((200 + 12 * f) + 10) = 60 := (wK_wr hw2).n (wK_a.mpr hra2) (id := 709) (by decide) hkr.1 (by decide)
          have JO2 := JO.trans hQ.1
          clear JO
          have JO := JO2
          refine r_aload_n F dX1_finish_81 rfl ?_
          refine r_dup F dX1_finish_82 rfl ?_
          refine r_getiS (ci := 2) (k := 6) (id := 206) (C := RX1) (T := TX1) (N := 7) F G rfl (by decide) (by decide) rfl (zinL inG2) (zin kf_X1_51) (fun _ h9 => h9) dX1_finish_83 A8 IH ?_
          refine r_aload_n F dX1_finish_86 rfl ?_
          refine r_getS (ci := 2) (k := 3) (id := 203) (C := RX1) (T := TX1) (N := 7) F G rfl (by decide) (by decide) rfl (zinL inG2) (zin kf_X1_21) (fun _ h9 => h9) dX1_finish_87 A8 Q28 ?_
          refine r_aload_n F dX1_finish_90 rfl ?_
          refine r_getiS (ci := 2) (k := 5) (id := 205) (C := RX1) (T := TX1) (N := 7) F G rfl (by decide) (by decide) rfl (zinL inG2) (zin kf_X1_48) (fun _ h9 => h9) dX1_finish_91 A8 JO ?_
          refine v_iald F G hH (n := (kn q - 1)) a28 rfl rfl (by omega) (by omega) dX1_finish_94 ?_
          rw [show ori (wK W2 (K.1, nI (kb q (kn q - 1)), K.2.2)) 28 (kn q - 1) = nI (kl q (kn q - 1)) from hT.2.2.2.1]
          refine r_iadd F dX1_finish_95 ?_
          rw [show nI (kb q (kn q - 1)) + nI (kl q (kn q - 1)) = nI (kb q (kn q - 1) + kl q (kn q - 1)) from nI_add _ _]
          refine r_puti (ci := 2) (k := 6) (id := 206) (C := RX1) (T := TX1) (N := 7) (ty := .int) (ty0 := tyX1) F G rfl (by decide) (by decide) rfl (zinL inG2) (zin kf_X1_51) (fun _ h9 => h9) tyX1_ok nmX1 rfl pd2_6 rfl rfl dX1_finish_96 A8 ?_
          refine zgen (P := zH t0 X S0 ad (wK W2 (K.1, nI (kb q (kn q - 1) + kl q (kn q - 1)), K.2.2))) (by rw [← wK_h (K := (K.1, nI (kb q (kn q - 1)), K.2.2))]; exact hH.pi a8k rfl rfl (by decide) _) (fun S hH => ?_)
          clear A8 JO IH Q22 Q24 Q26 Q28 Q30
          clear R0 Qw rw_ mw Qn rn mn Qe re me Qg rg_ mg Qb rb mb
          have a8k : oa (wK W2 (K.1, nI (kb q (kn q - 1) + kl q (kn q - 1)), K.2.2)) 8 := wK_a.mpr a82
          have A8 : zA S (ad 8) 2 := hH.al a8k rfl rfl
          have JO : zi S 205 (ad 8) = ((K.1, nI (kb q (kn q - 1) + kl q (kn q - 1)), K.2.2)).1 := hH.i a8k rfl (by decide)
          have IH : zi S 206 (ad 8) = ((K.1, nI (kb q (kn q - 1) + kl q (kn q - 1)), K.2.2)).2.1 := hH.i a8k rfl (by decide)
          have Q22 : zq S 200 (ad 8) = some (ad 22) := hH.qS a8k rfl (by decide) ((wK_wr hw2).q a8k (by decide) rfl) rfl
          have a22 : oa (wK W2 (K.1, nI (kb q (kn q - 1) + kl q (kn q - 1)), K.2.2)) 22 := (wK_wr hw2).a a8k (id := 200) (by decide) rfl
          have n22 : onn (wK W2 (K.1, nI (kb q (kn q - 1) + kl q (kn q - 1)), K.2.2)) 22 = 61 := (wK_wr hw2).n a8k (id := 200) (by decide) rfl (by decide)
          have Q24 : zq S 201 (ad 8) = some (ad 24) := hH.qS a8k rfl (by decide) ((wK_wr hw2).q a8k (by decide) rfl) rfl
          have a24 : oa (wK W2 (K.1, nI (kb q (kn q - 1) + kl q (kn q - 1)), K.2.2)) 24 := (wK_wr hw2).a a8k (id := 201) (by decide) rfl
          have n24 : onn (wK W2 (K.1, nI (kb q (kn q - 1) + kl q (kn q - 1)), K.2.2)) 24 = 61 := (wK_wr hw2).n a8k (id := 201) (by decide) rfl (by decide)
          have Q26 : zq S 202 (ad 8) = some (ad 26) := hH.qS a8k rfl (by decide) ((wK_wr hw2).q a8k (by decide) rfl) rfl
          have a26 : oa (wK W2 (K.1, nI (kb q (kn q - 1) + kl q (kn q - 1)), K.2.2)) 26 := (wK_wr hw2).a a8k (id := 202) (by decide) rfl
          have n26 : onn (wK W2 (K.1, nI (kb q (kn q - 1) + kl q (kn q - 1)), K.2.2)) 26 = 61 := (wK_wr hw2).n a8k (id := 202) (by decide) rfl (by decide)
          have Q28 : zq S 203 (ad 8) = some (ad 28) := hH.qS a8k rfl (by decide) ((wK_wr hw2).q a8k (by decide) rfl) rfl
          have a28 : oa (wK W2 (K.1, nI (kb q (kn q - 1) + kl q (kn q - 1)), K.2.2)) 28 := (wK_wr hw2).a a8k (id := 203) (by decide) rfl
          have n28 : onn (wK W2 (K.1, nI (kb q (kn q - 1) + kl q (kn q - 1)), K.2.2)) 28 = 61 := (wK_wr hw2).n a8k (id := 203) (by decide) rfl (by decide)
          have Q30 : zq S 204 (ad 8) = some (ad 30) := hH.qS a8k rfl (by decide) ((wK_wr hw2).q a8k (by decide) rfl) rfl
          have a30 : oa (wK W2 (K.1, nI (kb q (kn q - 1) + kl q (kn q - 1)), K.2.2)) 30 := (wK_wr hw2).a a8k (id := 204) (by decide) rfl
          have n30 : onn (wK W2 (K.1, nI (kb q (kn q - 1) + kl q (kn q - 1)), K.2.2)) 30 = 61 := (wK_wr hw2).n a8k (id := 204) (by decide) rfl (by decide)
          have R0 : zA S (ad (200 + 12 * f)) 7 := hH.al (wK_a.mpr hra2) rfl hkr.1
          have Qw : zq S 705 (ad (200 + 12 * f)) = some (ad ((200 + 12 * f) + 2)) := hH.qS (wK_a.mpr hra2) rfl (by rw [hkr.1]; decide) ((wK_wr hw2).q (wK_a.mpr hra2) (by decide) hkr.1) rfl
          have rw_ : oa (wK W2 (K.1, nI (kb q (kn q - 1) + kl q (kn q - 1)), K.2.2)) ((200 + 12 * f) + 2) := (wK_wr hw2).a (wK_a.mpr hra2) (id := 705) (by decide) hkr.1
          have mw : onn (wK W2 (K.1, nI (kb q (kn q - 1) + kl q (kn q - 1)), K.2.2)) ((200 + 12 * f) + 2) = 60 := (wK_wr hw2).n (wK_a.mpr hra2) (id := 705) (by decide) hkr.1 (by decide)
          have Qn : zq S 706 (ad (200 + 12 * f)) = some (ad ((200 + 12 * f) + 4)) := hH.qS (wK_a.mpr hra2) rfl (by rw [hkr.1]; decide) ((wK_wr hw2).q (wK_a.mpr hra2) (by decide) hkr.1) rfl
          have rn : oa (wK W2 (K.1, nI (kb q (kn q - 1) + kl q (kn q - 1)), K.2.2)) ((200 + 12 * f) + 4) := (wK_wr hw2).a (wK_a.mpr hra2) (id := 706) (by decide) hkr.1
          have mn : onn (wK W2 (K.1, nI (kb q (kn q - 1) + kl q (kn q - 1)), K.2.2)) ((200 + 12 * f) + 4) = 60 := (wK_wr hw2).n (wK_a.mpr hra2) (id := 706) (by decide) hkr.1 (by decide)
          have Qe : zq S 707 (ad (200 + 12 * f)) = some (ad ((200 + 12 * f) + 6)) := hH.qS (wK_a.mpr hra2) rfl (by rw [hkr.1]; decide) ((wK_wr hw2).q (wK_a.mpr hra2) (by decide) hkr.1) rfl
          have re : oa (wK W2 (K.1, nI (kb q (kn q - 1) + kl q (kn q - 1)), K.2.2)) ((200 + 12 * f) + 6) := (wK_wr hw2).a (wK_a.mpr hra2) (id := 707) (by decide) hkr.1
          have me : onn (wK W2 (K.1, nI (kb q (kn q - 1) + kl q (kn q - 1)), K.2.2)) ((200 + 12 * f) + 6) = 60 := (wK_wr hw2).n (wK_a.mpr hra2) (id := 707) (by decide) hkr.1 (by decide)
          have Qg : zq S 708 (ad (200 + 12 * f)) = some (ad ((200 + 12 * f) + 8)) := hH.qS (wK_a.mpr hra2) rfl (by rw [hkr.1]; decide) ((wK_wr hw2).q (wK_a.mpr hra2) (by decide) hkr.1) rfl
          have rg_ : oa (wK W2 (K.1, nI (kb q (kn q - 1) + kl q (kn q - 1)), K.2.2)) ((200 + 12 * f) + 8) := (wK_wr hw2).a (wK_a.mpr hra2) (id := 708) (by decide) hkr.1
          have mg : onn (wK W2 (K.1, nI (kb q (kn q - 1) + kl q (kn q - 1)), K.2.2)) ((200 + 12 * f) + 8) = 60 := (wK_wr hw2).n (wK_a.mpr hra2) (id := 708) (by decide) hkr.1 (by decide)
          have Qb : zq S 709 (ad (200 + 12 * f)) = some (ad ((200 + 12 * f) + 10)) := hH.qS (wK_a.mpr hra2) rfl (by rw [hkr.1]; decide) ((wK_wr hw2).q (wK_a.mpr hra2) (by decide) hkr.1) rfl
          have rb : oa (wK W2 (K.1, nI (kb q (kn q - 1) + kl q (kn q - 1)), K.2.2)) ((200 + 12 * f) + 10) := (wK_wr hw2).a (wK_a.mpr hra2) (id := 709) (by decide) hkr.1
          have mb : onn (wK W2 (K.1, nI (kb q (kn q - 1) + kl q (kn q - 1)), K.2.2)) ((200 + 12 * f) + 10) = 60 := (wK_wr hw2).n (wK_a.mpr hra2) (id := 709) (by decide) hkr.1 (by decide)
          have JO2 := JO.trans hQ.1
          clear JO
          have JO := JO2
          refine r_aload_n F dX1_finish_99 rfl ?_
          refine r_dup F dX1_finish_100 rfl ?_
          refine r_getiS (ci := 2) (k := 5) (id := 205) (C := RX1) (T := TX1) (N := 7) F G rfl (by decide) (by decide) rfl (zinL inG2) (zin kf_X1_48) (fun _ h9 => h9) dX1_finish_101 A8 JO ?_
          refine r_iconst (v := 1) F dX1_finish_104 (by decide) ?_
          refine r_isub F dX1_finish_105 ?_
          rw [show nI (kn q - 1) - 1 = nI ((kn q - 1) - 1) by rw [nl1]; exact nI_sub (by omega)]
          refine r_puti (ci := 2) (k := 5) (id := 205) (C := RX1) (T := TX1) (N := 7) (ty := .int) (ty0 := tyX1) F G rfl (by decide) (by decide) rfl (zinL inG2) (zin kf_X1_48) (fun _ h9 => h9) tyX1_ok nmX1 rfl pd2_5 rfl rfl dX1_finish_106 A8 ?_
          refine zgen (P := zH t0 X S0 ad (wK W2 (nI ((kn q - 1) - 1), nI (kb q (kn q - 1) + kl q (kn q - 1)), K.2.2))) (by rw [← wK_o (K := (K.1, nI (kb q (kn q - 1) + kl q (kn q - 1)), K.2.2))]; exact hH.pi a8k rfl rfl (by decide) _) (fun S hH => ?_)
          refine r_iconst (v := 1) F dX1_finish_109 (by decide) ?_
          have hcond : (¬ kn q = 1 ∧ ¬ (bw v f q (kn q - 1) = 25 ∧ ke q (kn q - 1) = none ∧ 0 < kl q (kn q - 1)) ∧ (kh q - kb q (kn q - 1) = kl q (kn q - 1) ∨ (kdd q (kn q - 1) = true ∧ kh q - kb q (kn q - 1) < kl q (kn q - 1)))) := ⟨hnn, a12.f c12, if10 c19⟩
          have hcR : cR (kEnd (setH q (kb q (kn q - 1)))) (nI ((kn q - 1) - 1), nI (kb q (kn q - 1) + kl q (kn q - 1)), K.2.2) := ⟨rfl, rfl, fun b hb => hQ.2.2 b (by have : b < kn q - 1 := hb; omega)⟩
          have hrt9 : rtX W W2 f (fE q k (ori W ((200 + 12 * f) + 6))) (fG q k (ori W ((200 + 12 * f) + 8))) (ori W ((200 + 12 * f) + 10)) := by
            unfold fE fG
            rw [hek]
            exact hrt2
          exact e_zret F hr rfl hlk ⟨zbo.y hcond, _, (nI ((kn q - 1) - 1), nI (kb q (kn q - 1) + kl q (kn q - 1)), K.2.2), hH, fun _ => ⟨hcR, hrt9⟩, _, _, _, hrt2⟩ (by decide) (by decide) dX1_finish_110
        · have hek := enc_m1 hkeb c51
          refine r_aload_n F dX1_finish_54 rfl ?_
          refine r_getS (ci := 7) (k := 8) (id := 708) (C := RX6) (T := TX6) (N := 13) F G rfl (by decide) (by decide) rfl (zinL inG7) (zin kf_X1_120) (fun _ h9 => h9) dX1_finish_55 R0 Qg ?_
          refine r_iload_n F dX1_finish_58 rfl ?_
          refine r_iload_n F dX1_finish_59 rfl ?_
          refine r_iconst (v := 1) F dX1_finish_60 (by decide) ?_
          refine r_iadd F dX1_finish_61 ?_
          rw [show nI k + 1 = nI (k + 1) from nI_add k 1]
          refine v_iast F G hH (n := ko q (kn q - 1)) rg_ rfl hkr.2.2.2.2.1 (by omega) (by omega) dX1_finish_62 (fun S hH => ?_)
          rw [hrt1.sg, hrt1.kg] at hH
          obtain ⟨W2, hrt2, hH⟩ : ∃ W2, rtX W W2 f (upd (ori W ((200 + 12 * f) + 6)) (ko q (kn q - 1)) (nI k)) (upd (ori W ((200 + 12 * f) + 8)) (ko q (kn q - 1)) (nI (k + 1))) (ori W ((200 + 12 * f) + 10)) ∧ zH t0 X S0 ad (wK W2 (K.1, nI (kb q (kn q - 1)), K.2.2)) S := ⟨_, hrt1.g, hH⟩
          have hw2 := hrt2.wr hw
          have a82 := hrt2.oa.mpr a8
          have hra2 := hrt2.oa.mpr hR.1
          clear A8 JO IH Q22 Q24 Q26 Q28 Q30
          clear R0 Qw rw_ mw Qn rn mn Qe re me Qg rg_ mg Qb rb mb
          have a8k : oa (wK W2 (K.1, nI (kb q (kn q - 1)), K.2.2)) 8 := wK_a.mpr a82
          have A8 : zA S (ad 8) 2 := hH.al a8k rfl rfl
          have JO : zi S 205 (ad 8) = ((K.1, nI (kb q (kn q - 1)), K.2.2)).1 := hH.i a8k rfl (by decide)
          have IH : zi S 206 (ad 8) = ((K.1, nI (kb q (kn q - 1)), K.2.2)).2.1 := hH.i a8k rfl (by decide)
          have Q22 : zq S 200 (ad 8) = some (ad 22) := hH.qS a8k rfl (by decide) ((wK_wr hw2).q a8k (by decide) rfl) rfl
          have a22 : oa (wK W2 (K.1, nI (kb q (kn q - 1)), K.2.2)) 22 := (wK_wr hw2).a a8k (id := 200) (by decide) rfl
          have n22 : onn (wK W2 (K.1, nI (kb q (kn q - 1)), K.2.2)) 22 = 61 := (wK_wr hw2).n a8k (id := 200) (by decide) rfl (by decide)
          have Q24 : zq S 201 (ad 8) = some (ad 24) := hH.qS a8k rfl (by decide) ((wK_wr hw2).q a8k (by decide) rfl) rfl
          have a24 : oa (wK W2 (K.1, nI (kb q (kn q - 1)), K.2.2)) 24 := (wK_wr hw2).a a8k (id := 201) (by decide) rfl
          have n24 : onn (wK W2 (K.1, nI (kb q (kn q - 1)), K.2.2)) 24 = 61 := (wK_wr hw2).n a8k (id := 201) (by decide) rfl (by decide)
          have Q26 : zq S 202 (ad 8) = some (ad 26) := hH.qS a8k rfl (by decide) ((wK_wr hw2).q a8k (by decide) rfl) rfl
          have a26 : oa (wK W2 (K.1, nI (kb q (kn q - 1)), K.2.2)) 26 := (wK_wr hw2).a a8k (id := 202) (by decide) rfl
          have n26 : onn (wK W2 (K.1, nI (kb q (kn q - 1)), K.2.2)) 26 = 61 := (wK_wr hw2).n a8k (id := 202) (by decide) rfl (by decide)
          have Q28 : zq S 203 (ad 8) = some (ad 28) := hH.qS a8k rfl (by decide) ((wK_wr hw2).q a8k (by decide) rfl) rfl
          have a28 : oa (wK W2 (K.1, nI (kb q (kn q - 1)), K.2.2)) 28 := (wK_wr hw2).a a8k (id := 203) (by decide) rfl
          have n28 : onn (wK W2 (K.1, nI (kb q (kn q - 1)), K.2.2)) 28 = 61 := (wK_wr hw2).n a8k (id := 203) (by decide) rfl (by decide)
          have Q30 : zq S 204 (ad 8) = some (ad 30) := hH.qS a8k rfl (by decide) ((wK_wr hw2).q a8k (by decide) rfl) rfl
          have a30 : oa (wK W2 (K.1, nI (kb q (kn q - 1)), K.2.2)) 30 := (wK_wr hw2).a a8k (id := 204) (by decide) rfl
          have n30 : onn (wK W2 (K.1, nI (kb q (kn q - 1)), K.2.2)) 30 = 61 := (wK_wr hw2).n a8k (id := 204) (by decide) rfl (by decide)
          have R0 : zA S (ad (200 + 12 * f)) 7 := hH.al (wK_a.mpr hra2) rfl hkr.1
          have Qw : zq S 705 (ad (200 + 12 * f)) = some (ad ((200 + 12 * f) + 2)) := hH.qS (wK_a.mpr hra2) rfl (by rw [hkr.1]; decide) ((wK_wr hw2).q (wK_a.mpr hra2) (by decide) hkr.1) rfl
          have rw_ : oa (wK W2 (K.1, nI (kb q (kn q - 1)), K.2.2)) ((200 + 12 * f) + 2) := (wK_wr hw2).a (wK_a.mpr hra2) (id := 705) (by decide) hkr.1
          have mw : onn (wK W2 (K.1, nI (kb q (kn q - 1)), K.2.2)) ((200 + 12 * f) + 2) = 60 := (wK_wr hw2).n (wK_a.mpr hra2) (id := 705) (by decide) hkr.1 (by decide)
          have Qn : zq S 706 (ad (200 + 12 * f)) = some (ad ((200 + 12 * f) + 4)) := hH.qS (wK_a.mpr hra2) rfl (by rw [hkr.1]; decide) ((wK_wr hw2).q (wK_a.mpr hra2) (by decide) hkr.1) rfl
          have rn : oa (wK W2 (K.1, nI (kb q (kn q - 1)), K.2.2)) ((200 + 12 * f) + 4) := (wK_wr hw2).a (wK_a.mpr hra2) (id := 706) (by decide) hkr.1
          have mn : onn (wK W2 (K.1, nI (kb q (kn q - 1)), K.2.2)) ((200 + 12 * f) + 4) = 60 := (wK_wr hw2).n (wK_a.mpr hra2) (id := 706) (by decide) hkr.1 (by decide)
          have Qe : zq S 707 (ad (200 + 12 * f)) = some (ad ((200 + 12 * f) + 6)) := hH.qS (wK_a.mpr hra2) rfl (by rw [hkr.1]; decide) ((wK_wr hw2).q (wK_a.mpr hra2) (by decide) hkr.1) rfl
          have re : oa (wK W2 (K.1, nI (kb q (kn q - 1)), K.2.2)) ((200 + 12 * f) + 6) := (wK_wr hw2).a (wK_a.mpr hra2) (id := 707) (by decide) hkr.1
          have me : onn (wK W2 (K.1, nI (kb q (kn q - 1)), K.2.2)) ((200 + 12 * f) + 6) = 60 := (wK_wr hw2).n (wK_a.mpr hra2) (id := 707) (by decide) hkr.1 (by decide)
          have Qg : zq S 708 (ad (200 + 12 * f)) = some (ad ((200 + 12 * f) + 8)) := hH.qS (wK_a.mpr hra2) rfl (by rw [hkr.1]; decide) ((wK_wr hw2).q (wK_a.mpr hra2) (by decide) hkr.1) rfl
          have rg_ : oa (wK W2 (K.1, nI (kb q (kn q - 1)), K.2.2)) ((200 + 12 * f) + 8) := (wK_wr hw2).a (wK_a.mpr hra2) (id := 708) (by decide) hkr.1
          have mg : onn (wK W2 (K.1, nI (kb q (kn q - 1)), K.2.2)) ((200 + 12 * f) + 8) = 60 := (wK_wr hw2).n (wK_a.mpr hra2) (id := 708) (by decide) hkr.1 (by decide)
          have Qb : zq S 709 (ad (200 + 12 * f)) = some (ad ((200 + 12 * f) + 10)) := hH.qS (wK_a.mpr hra2) rfl (by rw [hkr.1]; decide) ((wK_wr hw2).q (wK_a.mpr hra2) (by decide) hkr.1) rfl
          have rb : oa (wK W2 (K.1, nI (kb q (kn q - 1)), K.2.2)) ((200 + 12 * f) + 10) := (wK_wr hw2).a (wK_a.mpr hra2) (id := 709) (by decide) hkr.1
          have mb : onn (wK W2 (K.1, nI (kb q (kn q - 1)), K.2.2)) ((200 + 12 * f) + 10) = 60 := (wK_wr hw2).n (wK_a.mpr hra2) (id := 709) (by decide) hkr.1 (by decide)
          have JO2 := JO.trans hQ.1
          clear JO
          have JO := JO2
          refine r_goto (tgt := 81) F dX1_finish_63 (by decide) ?_
          refine r_aload_n F dX1_finish_81 rfl ?_
          refine r_dup F dX1_finish_82 rfl ?_
          refine r_getiS (ci := 2) (k := 6) (id := 206) (C := RX1) (T := TX1) (N := 7) F G rfl (by decide) (by decide) rfl (zinL inG2) (zin kf_X1_51) (fun _ h9 => h9) dX1_finish_83 A8 IH ?_
          refine r_aload_n F dX1_finish_86 rfl ?_
          refine r_getS (ci := 2) (k := 3) (id := 203) (C := RX1) (T := TX1) (N := 7) F G rfl (by decide) (by decide) rfl (zinL inG2) (zin kf_X1_21) (fun _ h9 => h9) dX1_finish_87 A8 Q28 ?_
          refine r_aload_n F dX1_finish_90 rfl ?_
          refine r_getiS (ci := 2) (k := 5) (id := 205) (C := RX1) (T := TX1) (N := 7) F G rfl (by decide) (by decide) rfl (zinL inG2) (zin kf_X1_48) (fun _ h9 => h9) dX1_finish_91 A8 JO ?_
          refine v_iald F G hH (n := (kn q - 1)) a28 rfl rfl (by omega) (by omega) dX1_finish_94 ?_
          rw [show ori (wK W2 (K.1, nI (kb q (kn q - 1)), K.2.2)) 28 (kn q - 1) = nI (kl q (kn q - 1)) from hT.2.2.2.1]
          refine r_iadd F dX1_finish_95 ?_
          rw [show nI (kb q (kn q - 1)) + nI (kl q (kn q - 1)) = nI (kb q (kn q - 1) + kl q (kn q - 1)) from nI_add _ _]
          refine r_puti (ci := 2) (k := 6) (id := 206) (C := RX1) (T := TX1) (N := 7) (ty := .int) (ty0 := tyX1) F G rfl (by decide) (by decide) rfl (zinL inG2) (zin kf_X1_51) (fun _ h9 => h9) tyX1_ok nmX1 rfl pd2_6 rfl rfl dX1_finish_96 A8 ?_
          refine zgen (P := zH t0 X S0 ad (wK W2 (K.1, nI (kb q (kn q - 1) + kl q (kn q - 1)), K.2.2))) (by rw [← wK_h (K := (K.1, nI (kb q (kn q - 1)), K.2.2))]; exact hH.pi a8k rfl rfl (by decide) _) (fun S hH => ?_)
          clear A8 JO IH Q22 Q24 Q26 Q28 Q30
          clear R0 Qw rw_ mw Qn rn mn Qe re me Qg rg_ mg Qb rb mb
          have a8k : oa (wK W2 (K.1, nI (kb q (kn q - 1) + kl q (kn q - 1)), K.2.2)) 8 := wK_a.mpr a82
          have A8 : zA S (ad 8) 2 := hH.al a8k rfl rfl
          have JO : zi S 205 (ad 8) = ((K.1, nI (kb q (kn q - 1) + kl q (kn q - 1)), K.2.2)).1 := hH.i a8k rfl (by decide)
          have IH : zi S 206 (ad 8) = ((K.1, nI (kb q (kn q - 1) + kl q (kn q - 1)), K.2.2)).2.1 := hH.i a8k rfl (by decide)
          have Q22 : zq S 200 (ad 8) = some (ad 22) := hH.qS a8k rfl (by decide) ((wK_wr hw2).q a8k (by decide) rfl) rfl
          have a22 : oa (wK W2 (K.1, nI (kb q (kn q - 1) + kl q (kn q - 1)), K.2.2)) 22 := (wK_wr hw2).a a8k (id := 200) (by decide) rfl
          have n22 : onn (wK W2 (K.1, nI (kb q (kn q - 1) + kl q (kn q - 1)), K.2.2)) 22 = 61 := (wK_wr hw2).n a8k (id := 200) (by decide) rfl (by decide)
          have Q24 : zq S 201 (ad 8) = some (ad 24) := hH.qS a8k rfl (by decide) ((wK_wr hw2).q a8k (by decide) rfl) rfl
          have a24 : oa (wK W2 (K.1, nI (kb q (kn q - 1) + kl q (kn q - 1)), K.2.2)) 24 := (wK_wr hw2).a a8k (id := 201) (by decide) rfl
          have n24 : onn (wK W2 (K.1, nI (kb q (kn q - 1) + kl q (kn q - 1)), K.2.2)) 24 = 61 := (wK_wr hw2).n a8k (id := 201) (by decide) rfl (by decide)
          have Q26 : zq S 202 (ad 8) = some (ad 26) := hH.qS a8k rfl (by decide) ((wK_wr hw2).q a8k (by decide) rfl) rfl
          have a26 : oa (wK W2 (K.1, nI (kb q (kn q - 1) + kl q (kn q - 1)), K.2.2)) 26 := (wK_wr hw2).a a8k (id := 202) (by decide) rfl
          have n26 : onn (wK W2 (K.1, nI (kb q (kn q - 1) + kl q (kn q - 1)), K.2.2)) 26 = 61 := (wK_wr hw2).n a8k (id := 202) (by decide) rfl (by decide)
          have Q28 : zq S 203 (ad 8) = some (ad 28) := hH.qS a8k rfl (by decide) ((wK_wr hw2).q a8k (by decide) rfl) rfl
          have a28 : oa (wK W2 (K.1, nI (kb q (kn q - 1) + kl q (kn q - 1)), K.2.2)) 28 := (wK_wr hw2).a a8k (id := 203) (by decide) rfl
          have n28 : onn (wK W2 (K.1, nI (kb q (kn q - 1) + kl q (kn q - 1)), K.2.2)) 28 = 61 := (wK_wr hw2).n a8k (id := 203) (by decide) rfl (by decide)
          have Q30 : zq S 204 (ad 8) = some (ad 30) := hH.qS a8k rfl (by decide) ((wK_wr hw2).q a8k (by decide) rfl) rfl
          have a30 : oa (wK W2 (K.1, nI (kb q (kn q - 1) + kl q (kn q - 1)), K.2.2)) 30 := (wK_wr hw2).a a8k (id := 204) (by decide) rfl
          have n30 : onn (wK W2 (K.1, nI (kb q (kn q - 1) + kl q (kn q - 1)), K.2.2)) 30 = 61 := (wK_wr hw2).n a8k (id := 204) (by decide) rfl (by decide)
          have R0 : zA S (ad (200 + 12 * f)) 7 := hH.al (wK_a.mpr hra2) rfl hkr.1
          have Qw : zq S 705 (ad (200 + 12 * f)) = some (ad ((200 + 12 * f) + 2)) := hH.qS (wK_a.mpr hra2) rfl (by rw [hkr.1]; decide) ((wK_wr hw2).q (wK_a.mpr hra2) (by decide) hkr.1) rfl
          have rw_ : oa (wK W2 (K.1, nI (kb q (kn q - 1) + kl q (kn q - 1)), K.2.2)) ((200 + 12 * f) + 2) := (wK_wr hw2).a (wK_a.mpr hra2) (id := 705) (by decide) hkr.1
          have mw : onn (wK W2 (K.1, nI (kb q (kn q - 1) + kl q (kn q - 1)), K.2.2)) ((200 + 12 * f) + 2) = 60 := (wK_wr hw2).n (wK_a.mpr hra2) (id := 705) (by decide) hkr.1 (by decide)
          have Qn : zq S 706 (ad (200 + 12 * f)) = some (ad ((200 + 12 * f) + 4)) := hH.qS (wK_a.mpr hra2) rfl (by rw [hkr.1]; decide) ((wK_wr hw2).q (wK_a.mpr hra2) (by decide) hkr.1) rfl
          have rn : oa (wK W2 (K.1, nI (kb q (kn q - 1) + kl q (kn q - 1)), K.2.2)) ((200 + 12 * f) + 4) := (wK_wr hw2).a (wK_a.mpr hra2) (id := 706) (by decide) hkr.1
          have mn : onn (wK W2 (K.1, nI (kb q (kn q - 1) + kl q (kn q - 1)), K.2.2)) ((200 + 12 * f) + 4) = 60 := (wK_wr hw2).n (wK_a.mpr hra2) (id := 706) (by decide) hkr.1 (by decide)
          have Qe : zq S 707 (ad (200 + 12 * f)) = some (ad ((200 + 12 * f) + 6)) := hH.qS (wK_a.mpr hra2) rfl (by rw [hkr.1]; decide) ((wK_wr hw2).q (wK_a.mpr hra2) (by decide) hkr.1) rfl
          have re : oa (wK W2 (K.1, nI (kb q (kn q - 1) + kl q (kn q - 1)), K.2.2)) ((200 + 12 * f) + 6) := (wK_wr hw2).a (wK_a.mpr hra2) (id := 707) (by decide) hkr.1
          have me : onn (wK W2 (K.1, nI (kb q (kn q - 1) + kl q (kn q - 1)), K.2.2)) ((200 + 12 * f) + 6) = 60 := (wK_wr hw2).n (wK_a.mpr hra2) (id := 707) (by decide) hkr.1 (by decide)
          have Qg : zq S 708 (ad (200 + 12 * f)) = some (ad ((200 + 12 * f) + 8)) := hH.qS (wK_a.mpr hra2) rfl (by rw [hkr.1]; decide) ((wK_wr hw2).q (wK_a.mpr hra2) (by decide) hkr.1) rfl
          have rg_ : oa (wK W2 (K.1, nI (kb q (kn q - 1) + kl q (kn q - 1)), K.2.2)) ((200 + 12 * f) + 8) := (wK_wr hw2).a (wK_a.mpr hra2) (id := 708) (by decide) hkr.1
          have mg : onn (wK W2 (K.1, nI (kb q (kn q - 1) + kl q (kn q - 1)), K.2.2)) ((200 + 12 * f) + 8) = 60 := (wK_wr hw2).n (wK_a.mpr hra2) (id := 708) (by decide) hkr.1 (by decide)
          have Qb : zq S 709 (ad (200 + 12 * f)) = some (ad ((200 + 12 * f) + 10)) := hH.qS (wK_a.mpr hra2) rfl (by rw [hkr.1]; decide) ((wK_wr hw2).q (wK_a.mpr hra2) (by decide) hkr.1) rfl
          have rb : oa (wK W2 (K.1, nI (kb q (kn q - 1) + kl q (kn q - 1)), K.2.2)) ((200 + 12 * f) + 10) := (wK_wr hw2).a (wK_a.mpr hra2) (id := 709) (by decide) hkr.1
          have mb : onn (wK W2 (K.1, nI (kb q (kn q - 1) + kl q (kn q - 1)), K.2.2)) ((200 + 12 * f) + 10) = 60 := (wK_wr hw2).n (wK_a.mpr hra2) (id := 709) (by decide) hkr.1 (by decide)
          have JO2 := JO.trans hQ.1
          clear JO
          have JO := JO2
          refine r_aload_n F dX1_finish_99 rfl ?_
          refine r_dup F dX1_finish_100 rfl ?_
          refine r_getiS (ci := 2) (k := 5) (id := 205) (C := RX1) (T := TX1) (N := 7) F G rfl (by decide) (by decide) rfl (zinL inG2) (zin kf_X1_48) (fun _ h9 => h9) dX1_finish_101 A8 JO ?_
          refine r_iconst (v := 1) F dX1_finish_104 (by decide) ?_
          refine r_isub F dX1_finish_105 ?_
          rw [show nI (kn q - 1) - 1 = nI ((kn q - 1) - 1) by rw [nl1]; exact nI_sub (by omega)]
          refine r_puti (ci := 2) (k := 5) (id := 205) (C := RX1) (T := TX1) (N := 7) (ty := .int) (ty0 := tyX1) F G rfl (by decide) (by decide) rfl (zinL inG2) (zin kf_X1_48) (fun _ h9 => h9) tyX1_ok nmX1 rfl pd2_5 rfl rfl dX1_finish_106 A8 ?_
          refine zgen (P := zH t0 X S0 ad (wK W2 (nI ((kn q - 1) - 1), nI (kb q (kn q - 1) + kl q (kn q - 1)), K.2.2))) (by rw [← wK_o (K := (K.1, nI (kb q (kn q - 1) + kl q (kn q - 1)), K.2.2))]; exact hH.pi a8k rfl rfl (by decide) _) (fun S hH => ?_)
          refine r_iconst (v := 1) F dX1_finish_109 (by decide) ?_
          have hcond : (¬ kn q = 1 ∧ ¬ (bw v f q (kn q - 1) = 25 ∧ ke q (kn q - 1) = none ∧ 0 < kl q (kn q - 1)) ∧ (kh q - kb q (kn q - 1) = kl q (kn q - 1) ∨ (kdd q (kn q - 1) = true ∧ kh q - kb q (kn q - 1) < kl q (kn q - 1)))) := ⟨hnn, a12.f c12, if10 c19⟩
          have hcR : cR (kEnd (setH q (kb q (kn q - 1)))) (nI ((kn q - 1) - 1), nI (kb q (kn q - 1) + kl q (kn q - 1)), K.2.2) := ⟨rfl, rfl, fun b hb => hQ.2.2 b (by have : b < kn q - 1 := hb; omega)⟩
          have hrt9 : rtX W W2 f (fE q k (ori W ((200 + 12 * f) + 6))) (fG q k (ori W ((200 + 12 * f) + 8))) (ori W ((200 + 12 * f) + 10)) := by
            unfold fE fG
            rw [hek]
            exact hrt2
          exact e_zret F hr rfl hlk ⟨zbo.y hcond, _, (nI ((kn q - 1) - 1), nI (kb q (kn q - 1) + kl q (kn q - 1)), K.2.2), hH, fun _ => ⟨hcR, hrt9⟩, _, _, _, hrt2⟩ (by decide) (by decide) dX1_finish_110
      · refine r_iconst (v := 0) F dX1_finish_22 (by decide) ?_
        exact e_zret F hr rfl hlk ⟨zbo.n (fun h => if01 c19 h.2.2), W, (K.1, nI (kb q (kn q - 1)), K.2.2), hH, fun h => absurd h (fun h => if01 c19 h.2.2), _, _, _, rtX.rf⟩ (by decide) (by decide) dX1_finish_23
set_option maxRecDepth 100000 in
set_option maxHeartbeats 4000000 in
theorem c_kjump {l : Launch} {N0 t0 : Nat} {D : va_G} {cy : Nat → ClassId} {S : zS} {X : Nat → Prop} {S0 : zS} {ad : Nat → Nat} {W : zO} {K : kS} (hw : wr W) (a8 : oa W 8) (hH : zH t0 X S0 ad (wK W K) S) {v : zV} {f : Nat} {q : ckS} {k H : Nat} (hv : vRg v) (hf : f < 48) (hR : rpR v W f) (hQ : cR q K) (hI : kI k H q) (hk : k < 60) (hH30 : H < 2 ^ 29) {a w : Nat} (ha : v.1 1210 (60 * f + k) = nI a) (ha30 : a < 2 ^ 30) (hw9 : cn v 1209 (60 * f + k) = w) : zMi l yX1_jump (zws yX1_jump cX1_jump 7 (some .boolean)) { frames := 1, cells := 0, slots := 0, locals := 22 } N0 t0 D cy S [.ref (ad 8), .ref (ad (200 + 12 * f)), .int (nI k)] (fun r S' => zbo r (¬ kn q ≤ a ∧ (ktk v f q a ≤ kh q - kb q (kn q - 1) ∨ kdd q (kn q - 1) = true)) ∧ ∃ (W' : zO) (K' : kS), zH t0 X S0 ad (wK W' K') S' ∧ ((¬ kn q ≤ a ∧ (ktk v f q a ≤ kh q - kb q (kn q - 1) ∨ kdd q (kn q - 1) = true)) → cR ((fun c1 => if w = 28 then kDie c1 else setH c1 (kh c1 + ktk v f q a)) (setH q (if ktk v f q a ≤ kh q - kb q (kn q - 1) then kh q - ktk v f q a else kb q (kn q - 1)))) K' ∧ rtX W W' f (ori W ((200 + 12 * f) + 6)) (upd (ori W ((200 + 12 * f) + 8)) k (if ((kn q - 1) - a) = 0 then -1 else nI (ko q ((kn q - 1) - a)))) (ori W ((200 + 12 * f) + 10))) ∧ ∃ E2 G2 B2, rtX W W' f E2 G2 B2) 0 0 := by
  refine zMi.of (cc := cX1_jump) (maxL := 7) (ret := (some .boolean)) (by decide) rfl (Nat.le_of_ble_eq_true rfl) ?_
  intro p e s m args below meth c F G hr hlk hnm
  have hkr := kd_r f hf
  have hn1 := hI.1
  have hn2 := hI.2.1
  have hhH := hI.2.2.1
  have hT := hQ.2.2 (kn q - 1) (by omega)
  have hl1 := (hI.2.2.2.1 (kn q - 1) (by omega)).1
  have a8k : oa (wK W K) 8 := wK_a.mpr a8
  have A8 : zA S (ad 8) 2 := hH.al a8k rfl rfl
  have JO : zi S 205 (ad 8) = (K).1 := hH.i a8k rfl (by decide)
  have IH : zi S 206 (ad 8) = (K).2.1 := hH.i a8k rfl (by decide)
  have Q22 : zq S 200 (ad 8) = some (ad 22) := hH.qS a8k rfl (by decide) ((wK_wr hw).q a8k (by decide) rfl) rfl
  have a22 : oa (wK W K) 22 := (wK_wr hw).a a8k (id := 200) (by decide) rfl
  have n22 : onn (wK W K) 22 = 61 := (wK_wr hw).n a8k (id := 200) (by decide) rfl (by decide)
  have Q24 : zq S 201 (ad 8) = some (ad 24) := hH.qS a8k rfl (by decide) ((wK_wr hw).q a8k (by decide) rfl) rfl
  have a24 : oa (wK W K) 24 := (wK_wr hw).a a8k (id := 201) (by decide) rfl
  have n24 : onn (wK W K) 24 = 61 := (wK_wr hw).n a8k (id := 201) (by decide) rfl (by decide)
  have Q26 : zq S 202 (ad 8) = some (ad 26) := hH.qS a8k rfl (by decide) ((wK_wr hw).q a8k (by decide) rfl) rfl
  have a26 : oa (wK W K) 26 := (wK_wr hw).a a8k (id := 202) (by decide) rfl
  have n26 : onn (wK W K) 26 = 61 := (wK_wr hw).n a8k (id := 202) (by decide) rfl (by decide)
  have Q28 : zq S 203 (ad 8) = some (ad 28) := hH.qS a8k rfl (by decide) ((wK_wr hw).q a8k (by decide) rfl) rfl
  have a28 : oa (wK W K) 28 := (wK_wr hw).a a8k (id := 203) (by decide) rfl
  have n28 : onn (wK W K) 28 = 61 := (wK_wr hw).n a8k (id := 203) (by decide) rfl (by decide)
  have Q30 : zq S 204 (ad 8) = some (ad 30) := hH.qS a8k rfl (by decide) ((wK_wr hw).q a8k (by decide) rfl) rfl
  have a30 : oa (wK W K) 30 := (wK_wr hw).a a8k (id := 204) (by decide) rfl
  have n30 : onn (wK W K) 30 = 61 := (wK_wr hw).n a8k (id := 204) (by decide) rfl (by decide)
  have R0 : zA S (ad (200 + 12 * f)) 7 := hH.al (wK_a.mpr hR.1) rfl hkr.1
  have Qw : zq S 705 (ad (200 + 12 * f)) = some (ad ((200 + 12 * f) + 2)) := hH.qS (wK_a.mpr hR.1) rfl (by rw [hkr.1]; decide) ((wK_wr hw).q (wK_a.mpr hR.1) (by decide) hkr.1) rfl
  have rw_ : oa (wK W K) ((200 + 12 * f) + 2) := (wK_wr hw).a (wK_a.mpr hR.1) (id := 705) (by decide) hkr.1
  have mw : onn (wK W K) ((200 + 12 * f) + 2) = 60 := (wK_wr hw).n (wK_a.mpr hR.1) (id := 705) (by decide) hkr.1 (by decide)
  have Qn : zq S 706 (ad (200 + 12 * f)) = some (ad ((200 + 12 * f) + 4)) := hH.qS (wK_a.mpr hR.1) rfl (by rw [hkr.1]; decide) ((wK_wr hw).q (wK_a.mpr hR.1) (by decide) hkr.1) rfl
  have rn : oa (wK W K) ((200 + 12 * f) + 4) := (wK_wr hw).a (wK_a.mpr hR.1) (id := 706) (by decide) hkr.1
  have mn : onn (wK W K) ((200 + 12 * f) + 4) = 60 := (wK_wr hw).n (wK_a.mpr hR.1) (id := 706) (by decide) hkr.1 (by decide)
  have Qe : zq S 707 (ad (200 + 12 * f)) = some (ad ((200 + 12 * f) + 6)) := hH.qS (wK_a.mpr hR.1) rfl (by rw [hkr.1]; decide) ((wK_wr hw).q (wK_a.mpr hR.1) (by decide) hkr.1) rfl
  have re : oa (wK W K) ((200 + 12 * f) + 6) := (wK_wr hw).a (wK_a.mpr hR.1) (id := 707) (by decide) hkr.1
  have me : onn (wK W K) ((200 + 12 * f) + 6) = 60 := (wK_wr hw).n (wK_a.mpr hR.1) (id := 707) (by decide) hkr.1 (by decide)
  have Qg : zq S 708 (ad (200 + 12 * f)) = some (ad ((200 + 12 * f) + 8)) := hH.qS (wK_a.mpr hR.1) rfl (by rw [hkr.1]; decide) ((wK_wr hw).q (wK_a.mpr hR.1) (by decide) hkr.1) rfl
  have rg_ : oa (wK W K) ((200 + 12 * f) + 8) := (wK_wr hw).a (wK_a.mpr hR.1) (id := 708) (by decide) hkr.1
  have mg : onn (wK W K) ((200 + 12 * f) + 8) = 60 := (wK_wr hw).n (wK_a.mpr hR.1) (id := 708) (by decide) hkr.1 (by decide)
  have Qb : zq S 709 (ad (200 + 12 * f)) = some (ad ((200 + 12 * f) + 10)) := hH.qS (wK_a.mpr hR.1) rfl (by rw [hkr.1]; decide) ((wK_wr hw).q (wK_a.mpr hR.1) (by decide) hkr.1) rfl
  have rb : oa (wK W K) ((200 + 12 * f) + 10) := (wK_wr hw).a (wK_a.mpr hR.1) (id := 709) (by decide) hkr.1
  have mb : onn (wK W K) ((200 + 12 * f) + 10) = 60 := (wK_wr hw).n (wK_a.mpr hR.1) (id := 709) (by decide) hkr.1 (by decide)
  rw [hQ.1] at JO
  rw [hQ.2.1] at IH
  have hbT := hI.2.2.2.2.2
  have hra := hR.1
  have hrt0 : rtX W W f (ori W (200 + 12 * f + 6)) (ori W (200 + 12 * f + 8)) (ori W (200 + 12 * f + 10)) := rtX.rf
  have vw : ∀ j, j < 60 → ∀ K2, ori (wK W K2) ((200 + 12 * f) + 2) j = nI (cn v 1209 (60 * f + j)) := fun j hj K2 => by
    show (wK W K2 ((200 + 12 * f) + 2)).2.2.2.2.2.1 j = _
    rw [wK_n (rcell (by omega))]
    exact (hR.2.2.2.2.2.2.2.1 j hj).trans (rg_1209 hv (by omega)).1
  have vn : ∀ j, j < 60 → ∀ K2, ori (wK W K2) ((200 + 12 * f) + 4) j = v.1 1210 (60 * f + j) := fun j hj K2 => by
    show (wK W K2 ((200 + 12 * f) + 4)).2.2.2.2.2.1 j = _
    rw [wK_n (rcell (by omega))]
    exact hR.2.2.2.2.2.2.2.2 j hj
  refine r_aload_n F dX1_jump_0 rfl ?_
  refine r_getiS (ci := 2) (k := 5) (id := 205) (C := RX1) (T := TX1) (N := 7) F G rfl (by decide) (by decide) rfl (zinL inG2) (zin kf_X1_48) (fun _ h9 => h9) dX1_jump_1 A8 JO ?_
  refine r_aload_n F dX1_jump_4 rfl ?_
  refine r_getS (ci := 7) (k := 6) (id := 706) (C := RX6) (T := TX6) (N := 13) F G rfl (by decide) (by decide) rfl (zinL inG7) (zin kf_X1_74) (fun _ h9 => h9) dX1_jump_5 R0 Qn ?_
  refine r_iload_n F dX1_jump_8 rfl ?_
  refine v_iald F G hH (n := k) rn rfl hkr.2.2.1 (by omega) (by omega) dX1_jump_9 ?_
  rw [vn _ (by omega), ha]
  refine r_isub F dX1_jump_10 ?_
  refine r_istore_n F dX1_jump_11 (by decide) ?_
  refine r_iload_n F dX1_jump_12 rfl ?_
  refine r_if_ge (tgt := 18) F dX1_jump_13 (by decide) (fun c13 => ?_) (fun c13 => ?_)
  · have haT : a ≤ (kn q - 1) := by
      by_cases h9 : a ≤ (kn q - 1)
      · exact h9
      · exact absurd ((nI_subge (t := (kn q - 1)) (j := a) (by omega) (by omega)).mpr (by omega)) (Int32.not_lt.mpr c13)
    rw [nI_sub haT] at *
    have htj := hQ.2.2 ((kn q - 1) - a) (by omega)
    have hltj := (hI.2.2.2.1 ((kn q - 1) - a) (by omega)).1
    refine r_aload_n F dX1_jump_18 rfl ?_
    refine r_getS (ci := 7) (k := 8) (id := 708) (C := RX6) (T := TX6) (N := 13) F G rfl (by decide) (by decide) rfl (zinL inG7) (zin kf_X1_120) (fun _ h9 => h9) dX1_jump_19 R0 Qg ?_
    refine r_iload_n F dX1_jump_22 rfl ?_
    refine r_aload_n F dX1_jump_23 rfl ?_
    refine r_getS (ci := 2) (k := 0) (id := 200) (C := RX1) (T := TX1) (N := 7) F G rfl (by decide) (by decide) rfl (zinL inG2) (zin kf_X1_9) (fun _ h9 => h9) dX1_jump_24 A8 Q22 ?_
    refine r_iload_n F dX1_jump_27 rfl ?_
    refine v_iald F G hH (n := ((kn q - 1) - a)) a22 rfl rfl (by omega) (by omega) dX1_jump_28 ?_
    rw [show ori (wK W K) 22 ((kn q - 1) - a) = (if ((kn q - 1) - a) = 0 then -1 else nI (ko q ((kn q - 1) - a))) from htj.1]
    refine v_iast F G hH (n := k) rg_ rfl hkr.2.2.2.2.1 (by omega) (by omega) dX1_jump_29 (fun S hH => ?_)
    rw [hrt0.sg, hrt0.kg] at hH
    obtain ⟨W1, hrt1, hH⟩ : ∃ W1, rtX W W1 f (ori W ((200 + 12 * f) + 6)) (upd (ori W ((200 + 12 * f) + 8)) k (if ((kn q - 1) - a) = 0 then -1 else nI (ko q ((kn q - 1) - a)))) (ori W ((200 + 12 * f) + 10)) ∧ zH t0 X S0 ad (wK W1 K) S := ⟨_, hrt0.g, hH⟩
    have hw1 := hrt1.wr hw
    have a81 := hrt1.oa.mpr a8
    have hra1 := hrt1.oa.mpr hR.1
    clear A8 JO IH Q22 Q24 Q26 Q28 Q30
    clear R0 Qw rw_ mw Qn rn mn Qe re me Qg rg_ mg Qb rb mb
    have a8k : oa (wK W1 K) 8 := wK_a.mpr a81
    have A8 : zA S (ad 8) 2 := hH.al a8k rfl rfl
    have JO : zi S 205 (ad 8) = (K).1 := hH.i a8k rfl (by decide)
    have IH : zi S 206 (ad 8) = (K).2.1 := hH.i a8k rfl (by decide)
    have Q22 : zq S 200 (ad 8) = some (ad 22) := hH.qS a8k rfl (by decide) ((wK_wr hw1).q a8k (by decide) rfl) rfl
    have a22 : oa (wK W1 K) 22 := (wK_wr hw1).a a8k (id := 200) (by decide) rfl
    have n22 : onn (wK W1 K) 22 = 61 := (wK_wr hw1).n a8k (id := 200) (by decide) rfl (by decide)
    have Q24 : zq S 201 (ad 8) = some (ad 24) := hH.qS a8k rfl (by decide) ((wK_wr hw1).q a8k (by decide) rfl) rfl
    have a24 : oa (wK W1 K) 24 := (wK_wr hw1).a a8k (id := 201) (by decide) rfl
    have n24 : onn (wK W1 K) 24 = 61 := (wK_wr hw1).n a8k (id := 201) (by decide) rfl (by decide)
    have Q26 : zq S 202 (ad 8) = some (ad 26) := hH.qS a8k rfl (by decide) ((wK_wr hw1).q a8k (by decide) rfl) rfl
    have a26 : oa (wK W1 K) 26 := (wK_wr hw1).a a8k (id := 202) (by decide) rfl
    have n26 : onn (wK W1 K) 26 = 61 := (wK_wr hw1).n a8k (id := 202) (by decide) rfl (by decide)
    have Q28 : zq S 203 (ad 8) = some (ad 28) := hH.qS a8k rfl (by decide) ((wK_wr hw1).q a8k (by decide) rfl) rfl
    have a28 : oa (wK W1 K) 28 := (wK_wr hw1).a a8k (id := 203) (by decide) rfl
    have n28 : onn (wK W1 K) 28 = 61 := (wK_wr hw1).n a8k (id := 203) (by decide) rfl (by decide)
    have Q30 : zq S 204 (ad 8) = some (ad 30) := hH.qS a8k rfl (by decide) ((wK_wr hw1).q a8k (by decide) rfl) rfl
    have a30 : oa (wK W1 K) 30 := (wK_wr hw1).a a8k (id := 204) (by decide) rfl
    have n30 : onn (wK W1 K) 30 = 61 := (wK_wr hw1).n a8k (id := 204) (by decide) rfl (by decide)
    have R0 : zA S (ad (200 + 12 * f)) 7 := hH.al (wK_a.mpr hra1) rfl hkr.1
    have Qw : zq S 705 (ad (200 + 12 * f)) = some (ad ((200 + 12 * f) + 2)) := hH.qS (wK_a.mpr hra1) rfl (by rw [hkr.1]; decide) ((wK_wr hw1).q (wK_a.mpr hra1) (by decide) hkr.1) rfl
    have rw_ : oa (wK W1 K) ((200 + 12 * f) + 2) := (wK_wr hw1).a (wK_a.mpr hra1) (id := 705) (by decide) hkr.1
    have mw : onn (wK W1 K) ((200 + 12 * f) + 2) = 60 := (wK_wr hw1).n (wK_a.mpr hra1) (id := 705) (by decide) hkr.1 (by decide)
    have Qn : zq S 706 (ad (200 + 12 * f)) = some (ad ((200 + 12 * f) + 4)) := hH.qS (wK_a.mpr hra1) rfl (by rw [hkr.1]; decide) ((wK_wr hw1).q (wK_a.mpr hra1) (by decide) hkr.1) rfl
    have rn : oa (wK W1 K) ((200 + 12 * f) + 4) := (wK_wr hw1).a (wK_a.mpr hra1) (id := 706) (by decide) hkr.1
    have mn : onn (wK W1 K) ((200 + 12 * f) + 4) = 60 := (wK_wr hw1).n (wK_a.mpr hra1) (id := 706) (by decide) hkr.1 (by decide)
    have Qe : zq S 707 (ad (200 + 12 * f)) = some (ad ((200 + 12 * f) + 6)) := hH.qS (wK_a.mpr hra1) rfl (by rw [hkr.1]; decide) ((wK_wr hw1).q (wK_a.mpr hra1) (by decide) hkr.1) rfl
    have re : oa (wK W1 K) ((200 + 12 * f) + 6) := (wK_wr hw1).a (wK_a.mpr hra1) (id := 707) (by decide) hkr.1
    have me : onn (wK W1 K) ((200 + 12 * f) + 6) = 60 := (wK_wr hw1).n (wK_a.mpr hra1) (id := 707) (by decide) hkr.1 (by decide)
    have Qg : zq S 708 (ad (200 + 12 * f)) = some (ad ((200 + 12 * f) + 8)) := hH.qS (wK_a.mpr hra1) rfl (by rw [hkr.1]; decide) ((wK_wr hw1).q (wK_a.mpr hra1) (by decide) hkr.1) rfl
    have rg_ : oa (wK W1 K) ((200 + 12 * f) + 8) := (wK_wr hw1).a (wK_a.mpr hra1) (id := 708) (by decide) hkr.1
    have mg : onn (wK W1 K) ((200 + 12 * f) + 8) = 60 := (wK_wr hw1).n (wK_a.mpr hra1) (id := 708) (by decide) hkr.1 (by decide)
    have Qb : zq S 709 (ad (200 + 12 * f)) = some (ad ((200 + 12 * f) + 10)) := hH.qS (wK_a.mpr hra1) rfl (by rw [hkr.1]; decide) ((wK_wr hw1).q (wK_a.mpr hra1) (by decide) hkr.1) rfl
    have rb : oa (wK W1 K) ((200 + 12 * f) + 10) := (wK_wr hw1).a (wK_a.mpr hra1) (id := 709) (by decide) hkr.1
    have mb : onn (wK W1 K) ((200 + 12 * f) + 10) = 60 := (wK_wr hw1).n (wK_a.mpr hra1) (id := 709) (by decide) hkr.1 (by decide)
    rw [hQ.1] at JO
    rw [hQ.2.1] at IH
    have vw1 : ∀ j, j < 60 → ∀ K2, ori (wK W1 K2) (200 + 12 * f + 2) j = nI (cn v 1209 (60 * f + j)) := fun j hj K2 => by
      show (wK W1 K2 (200 + 12 * f + 2)).2.2.2.2.2.1 j = _
      rw [wK_n (rcell (by omega)), hrt1.1 _ (by omega) (by omega) (by omega)]
      exact (hR.2.2.2.2.2.2.2.1 j hj).trans (rg_1209 hv (by omega)).1
    refine r_iload_n F dX1_jump_30 rfl ?_
    refine r_if_le (tgt := 54) F dX1_jump_31 (by decide) (fun c31 => ?_) (fun c31 => ?_)
    · refine r_iconst (v := 0) F dX1_jump_54 (by decide) ?_
      refine r_istore F dX1_jump_55 (by decide) ?_
      refine r_iload F dX1_jump_57 rfl ?_
      refine r_if_eq (tgt := 66) F dX1_jump_59 (by decide) (fun _ => ?_) (fun h9 => absurd rfl h9)
      refine r_aload_n F dX1_jump_66 rfl ?_
      refine r_getS (ci := 2) (k := 3) (id := 203) (C := RX1) (T := TX1) (N := 7) F G rfl (by decide) (by decide) rfl (zinL inG2) (zin kf_X1_21) (fun _ h9 => h9) dX1_jump_67 A8 Q28 ?_
      refine r_iload_n F dX1_jump_70 rfl ?_
      refine v_iald F G hH (n := ((kn q - 1) - a)) a28 rfl rfl (by omega) (by omega) dX1_jump_71 ?_
      rw [show ori (wK W1 K) 28 ((kn q - 1) - a) = nI (kl q ((kn q - 1) - a)) from htj.2.2.2.1]
      refine r_istore F dX1_jump_72 (by decide) ?_
      refine r_aload_n F dX1_jump_74 rfl ?_
      refine r_iload F dX1_jump_75 rfl ?_
      have e0 : ((kn q - 1) - a) = 0 := by
        have c9 := c31
        rw [nl0, nI_leI (by omega) (by omega)] at c9
        omega
      have htk : ktk v f q a = kl q ((kn q - 1) - a) := by
        unfold ktk bw
        rw [e0, if_pos rfl, if_neg (by decide)]
      rw [← htk]
      refine c_Vi (ci := 2) F G (c_kpop hw1 a81 hH (t := (kn q - 1)) (h := kh q) (b := kb q (kn q - 1)) (dd := kdd q (kn q - 1)) (w := ktk v f q a) hQ.1 (by omega) hQ.2.1 hT.2.2.1 hbT (by omega) hT.2.2.2.2 (by have := htk; omega)) (cwV 1 F.2.2.2.2 (zgV km_X1_82 ki_X1_pop ke_X1_X1_pop kn_X1 ko_X1_pop) rfl rfl rfl ⟨rfl, hd_yX1_pop⟩ ⟨Nat.le_of_ble_eq_true rfl, Nat.le_of_ble_eq_true rfl⟩) rfl (by decide) A8 rfl rfl (Nat.le_of_ble_eq_true rfl) dX1_jump_77 ⟨Nat.le_of_ble_eq_true rfl, Nat.le_of_ble_eq_true rfl⟩ (fun r77 S77 h77 => ?_)
      obtain ⟨a77, hH⟩ := h77
      subst a77
      clear A8 JO IH Q22 Q24 Q26 Q28 Q30
      clear R0 Qw rw_ mw Qn rn mn Qe re me Qg rg_ mg Qb rb mb
      have a8k : oa (wK W1 (K.1, nI (if ktk v f q a ≤ kh q - kb q (kn q - 1) then kh q - ktk v f q a else kb q (kn q - 1)), K.2.2)) 8 := wK_a.mpr a81
      have A8 : zA S77 (ad 8) 2 := hH.al a8k rfl rfl
      have JO : zi S77 205 (ad 8) = ((K.1, nI (if ktk v f q a ≤ kh q - kb q (kn q - 1) then kh q - ktk v f q a else kb q (kn q - 1)), K.2.2)).1 := hH.i a8k rfl (by decide)
      have IH : zi S77 206 (ad 8) = ((K.1, nI (if ktk v f q a ≤ kh q - kb q (kn q - 1) then kh q - ktk v f q a else kb q (kn q - 1)), K.2.2)).2.1 := hH.i a8k rfl (by decide)
      have Q22 : zq S77 200 (ad 8) = some (ad 22) := hH.qS a8k rfl (by decide) ((wK_wr hw1).q a8k (by decide) rfl) rfl
      have a22 : oa (wK W1 (K.1, nI (if ktk v f q a ≤ kh q - kb q (kn q - 1) then kh q - ktk v f q a else kb q (kn q - 1)), K.2.2)) 22 := (wK_wr hw1).a a8k (id := 200) (by decide) rfl
      have n22 : onn (wK W1 (K.1, nI (if ktk v f q a ≤ kh q - kb q (kn q - 1) then kh q - ktk v f q a else kb q (kn q - 1)), K.2.2)) 22 = 61 := (wK_wr hw1).n a8k (id := 200) (by decide) rfl (by decide)
      have Q24 : zq S77 201 (ad 8) = some (ad 24) := hH.qS a8k rfl (by decide) ((wK_wr hw1).q a8k (by decide) rfl) rfl
      have a24 : oa (wK W1 (K.1, nI (if ktk v f q a ≤ kh q - kb q (kn q - 1) then kh q - ktk v f q a else kb q (kn q - 1)), K.2.2)) 24 := (wK_wr hw1).a a8k (id := 201) (by decide) rfl
      have n24 : onn (wK W1 (K.1, nI (if ktk v f q a ≤ kh q - kb q (kn q - 1) then kh q - ktk v f q a else kb q (kn q - 1)), K.2.2)) 24 = 61 := (wK_wr hw1).n a8k (id := 201) (by decide) rfl (by decide)
      have Q26 : zq S77 202 (ad 8) = some (ad 26) := hH.qS a8k rfl (by decide) ((wK_wr hw1).q a8k (by decide) rfl) rfl
      have a26 : oa (wK W1 (K.1, nI (if ktk v f q a ≤ kh q - kb q (kn q - 1) then kh q - ktk v f q a else kb q (kn q - 1)), K.2.2)) 26 := (wK_wr hw1).a a8k (id := 202) (by decide) rfl
      have n26 : onn (wK W1 (K.1, nI (if ktk v f q a ≤ kh q - kb q (kn q - 1) then kh q - ktk v f q a else kb q (kn q - 1)), K.2.2)) 26 = 61 := (wK_wr hw1).n a8k (id := 202) (by decide) rfl (by decide)
      have Q28 : zq S77 203 (ad 8) = some (ad 28) := hH.qS a8k rfl (by decide) ((wK_wr hw1).q a8k (by decide) rfl) rfl
      have a28 : oa (wK W1 (K.1, nI (if ktk v f q a ≤ kh q - kb q (kn q - 1) then kh q - ktk v f q a else kb q (kn q - 1)), K.2.2)) 28 := (wK_wr hw1).a a8k (id := 203) (by decide) rfl
      have n28 : onn (wK W1 (K.1, nI (if ktk v f q a ≤ kh q - kb q (kn q - 1) then kh q - ktk v f q a else kb q (kn q - 1)), K.2.2)) 28 = 61 := (wK_wr hw1).n a8k (id := 203) (by decide) rfl (by decide)
      have Q30 : zq S77 204 (ad 8) = some (ad 30) := hH.qS a8k rfl (by decide) ((wK_wr hw1).q a8k (by decide) rfl) rfl
      have a30 : oa (wK W1 (K.1, nI (if ktk v f q a ≤ kh q - kb q (kn q - 1) then kh q - ktk v f q a else kb q (kn q - 1)), K.2.2)) 30 := (wK_wr hw1).a a8k (id := 204) (by decide) rfl
      have n30 : onn (wK W1 (K.1, nI (if ktk v f q a ≤ kh q - kb q (kn q - 1) then kh q - ktk v f q a else kb q (kn q - 1)), K.2.2)) 30 = 61 := (wK_wr hw1).n a8k (id := 204) (by decide) rfl (by decide)
      have R0 : zA S77 (ad (200 + 12 * f)) 7 := hH.al (wK_a.mpr hra1) rfl hkr.1
      have Qw : zq S77 705 (ad (200 + 12 * f)) = some (ad ((200 + 12 * f) + 2)) := hH.qS (wK_a.mpr hra1) rfl (by rw [hkr.1]; decide) ((wK_wr hw1).q (wK_a.mpr hra1) (by decide) hkr.1) rfl
      have rw_ : oa (wK W1 (K.1, nI (if ktk v f q a ≤ kh q - kb q (kn q - 1) then kh q - ktk v f q a else kb q (kn q - 1)), K.2.2)) ((200 + 12 * f) + 2) := (wK_wr hw1).a (wK_a.mpr hra1) (id := 705) (by decide) hkr.1
      have mw : onn (wK W1 (K.1, nI (if ktk v f q a ≤ kh q - kb q (kn q - 1) then kh q - ktk v f q a else kb q (kn q - 1)), K.2.2)) ((200 + 12 * f) + 2) = 60 := (wK_wr hw1).n (wK_a.mpr hra1) (id := 705) (by decide) hkr.1 (by decide)
      have Qn : zq S77 706 (ad (200 + 12 * f)) = some (ad ((200 + 12 * f) + 4)) := hH.qS (wK_a.mpr hra1) rfl (by rw [hkr.1]; decide) ((wK_wr hw1).q (wK_a.mpr hra1) (by decide) hkr.1) rfl
      have rn : oa (wK W1 (K.1, nI (if ktk v f q a ≤ kh q - kb q (kn q - 1) then kh q - ktk v f q a else kb q (kn q - 1)), K.2.2)) ((200 + 12 * f) + 4) := (wK_wr hw1).a (wK_a.mpr hra1) (id := 706) (by decide) hkr.1
      have mn : onn (wK W1 (K.1, nI (if ktk v f q a ≤ kh q - kb q (kn q - 1) then kh q - ktk v f q a else kb q (kn q - 1)), K.2.2)) ((200 + 12 * f) + 4) = 60 := (wK_wr hw1).n (wK_a.mpr hra1) (id := 706) (by decide) hkr.1 (by decide)
      have Qe : zq S77 707 (ad (200 + 12 * f)) = some (ad ((200 + 12 * f) + 6)) := hH.qS (wK_a.mpr hra1) rfl (by rw [hkr.1]; decide) ((wK_wr hw1).q (wK_a.mpr hra1) (by decide) hkr.1) rfl
      have re : oa (wK W1 (K.1, nI (if ktk v f q a ≤ kh q - kb q (kn q - 1) then kh q - ktk v f q a else kb q (kn q - 1)), K.2.2)) ((200 + 12 * f) + 6) := (wK_wr hw1).a (wK_a.mpr hra1) (id := 707) (by decide) hkr.1
      have me : onn (wK W1 (K.1, nI (if ktk v f q a ≤ kh q - kb q (kn q - 1) then kh q - ktk v f q a else kb q (kn q - 1)), K.2.2)) ((200 + 12 * f) + 6) = 60 := (wK_wr hw1).n (wK_a.mpr hra1) (id := 707) (by decide) hkr.1 (by decide)
      have Qg : zq S77 708 (ad (200 + 12 * f)) = some (ad ((200 + 12 * f) + 8)) := hH.qS (wK_a.mpr hra1) rfl (by rw [hkr.1]; decide) ((wK_wr hw1).q (wK_a.mpr hra1) (by decide) hkr.1) rfl
      have rg_ : oa (wK W1 (K.1, nI (if ktk v f q a ≤ kh q - kb q (kn q - 1) then kh q - ktk v f q a else kb q (kn q - 1)), K.2.2)) ((200 + 12 * f) + 8) := (wK_wr hw1).a (wK_a.mpr hra1) (id := 708) (by decide) hkr.1
      have mg : onn (wK W1 (K.1, nI (if ktk v f q a ≤ kh q - kb q (kn q - 1) then kh q - ktk v f q a else kb q (kn q - 1)), K.2.2)) ((200 + 12 * f) + 8) = 60 := (wK_wr hw1).n (wK_a.mpr hra1) (id := 708) (by decide) hkr.1 (by decide)
      have Qb : zq S77 709 (ad (200 + 12 * f)) = some (ad ((200 + 12 * f) + 10)) := hH.qS (wK_a.mpr hra1) rfl (by rw [hkr.1]; decide) ((wK_wr hw1).q (wK_a.mpr hra1) (by decide) hkr.1) rfl
      have rb : oa (wK W1 (K.1, nI (if ktk v f q a ≤ kh q - kb q (kn q - 1) then kh q - ktk v f q a else kb q (kn q - 1)), K.2.2)) ((200 + 12 * f) + 10) := (wK_wr hw1).a (wK_a.mpr hra1) (id := 709) (by decide) hkr.1
      have mb : onn (wK W1 (K.1, nI (if ktk v f q a ≤ kh q - kb q (kn q - 1) then kh q - ktk v f q a else kb q (kn q - 1)), K.2.2)) ((200 + 12 * f) + 10) = 60 := (wK_wr hw1).n (wK_a.mpr hra1) (id := 709) (by decide) hkr.1 (by decide)
      refine r_istore F dX1_jump_80 (by decide) ?_
      refine r_aload_n F dX1_jump_82 rfl ?_
      refine r_getS (ci := 7) (k := 5) (id := 705) (C := RX6) (T := TX6) (N := 13) F G rfl (by decide) (by decide) rfl (zinL inG7) (zin kf_X1_71) (fun _ h9 => h9) dX1_jump_83 R0 Qw ?_
      refine r_iload_n F dX1_jump_86 rfl ?_
      refine v_iald F G hH (n := k) rw_ rfl hkr.2.1 (by omega) (by omega) dX1_jump_87 ?_
      rw [vw1 _ (by omega)]
      refine r_bipush (v := 28) F dX1_jump_88 (by decide) ?_
      refine r_icmp_ne (tgt := 100) F dX1_jump_90 (by decide) (fun c90 => ?_) (fun c90 => ?_)
      · refine r_aload_n F dX1_jump_100 rfl ?_
        refine r_dup F dX1_jump_101 rfl ?_
        refine r_getiS (ci := 2) (k := 6) (id := 206) (C := RX1) (T := TX1) (N := 7) F G rfl (by decide) (by decide) rfl (zinL inG2) (zin kf_X1_51) (fun _ h9 => h9) dX1_jump_102 A8 IH ?_
        refine r_iload F dX1_jump_105 rfl ?_
        refine r_iadd F dX1_jump_107 ?_
        rw [show nI (if ktk v f q a ≤ kh q - kb q (kn q - 1) then kh q - ktk v f q a else kb q (kn q - 1)) + nI (ktk v f q a) = nI ((if ktk v f q a ≤ kh q - kb q (kn q - 1) then kh q - ktk v f q a else kb q (kn q - 1)) + ktk v f q a) from nI_add _ _]
        refine r_puti (ci := 2) (k := 6) (id := 206) (C := RX1) (T := TX1) (N := 7) (ty := .int) (ty0 := tyX1) F G rfl (by decide) (by decide) rfl (zinL inG2) (zin kf_X1_51) (fun _ h9 => h9) tyX1_ok nmX1 rfl pd2_6 rfl rfl dX1_jump_108 A8 ?_
        refine zgen (P := zH t0 X S0 ad (wK W1 (K.1, nI ((if ktk v f q a ≤ kh q - kb q (kn q - 1) then kh q - ktk v f q a else kb q (kn q - 1)) + ktk v f q a), K.2.2))) (by rw [← wK_h (K := (K.1, nI (if ktk v f q a ≤ kh q - kb q (kn q - 1) then kh q - ktk v f q a else kb q (kn q - 1)), K.2.2))]; exact hH.pi a8k rfl rfl (by decide) _) (fun S hH => ?_)
        refine r_iload F dX1_jump_111 rfl ?_
        have hw28 : ¬ w = 28 := fun h9 => c90 (by rw [hw9, h9]; rfl)
        have hcR : cR ((fun c1 => if w = 28 then kDie c1 else setH c1 (kh c1 + ktk v f q a)) (setH q (if ktk v f q a ≤ kh q - kb q (kn q - 1) then kh q - ktk v f q a else kb q (kn q - 1)))) (K.1, nI ((if ktk v f q a ≤ kh q - kb q (kn q - 1) then kh q - ktk v f q a else kb q (kn q - 1)) + ktk v f q a), K.2.2) := by
          show cR (if w = 28 then _ else _) _
          rw [if_neg hw28]
          exact ⟨hQ.1, rfl, fun b hb => hQ.2.2 b hb⟩
        refine e_zret F hr if1n hlk ⟨?_, W1, (K.1, nI ((if ktk v f q a ≤ kh q - kb q (kn q - 1) then kh q - ktk v f q a else kb q (kn q - 1)) + ktk v f q a), K.2.2), hH, fun _ => ⟨hcR, hrt1⟩, _, _, _, hrt1⟩ (by decide) (by decide) dX1_jump_113
        by_cases h9 : ktk v f q a ≤ kh q - kb q (kn q - 1) ∨ kdd q (kn q - 1) = true
        · rw [if_pos h9]; exact zbo.y ⟨by omega, h9⟩
        · rw [if_neg h9]; exact zbo.n (fun h8 => h9 h8.2)
      · refine r_aload_n F dX1_jump_93 rfl ?_
        refine c_Vv (ci := 2) F G (c_kabandon hw1 a81 hH (t := (kn q - 1)) (b := kb q (kn q - 1)) hQ.1 (by omega) hT.2.2.1) (cwV 0 F.2.2.2.2 (zgV km_X1_96 ki_X1_abandon ke_X1_X1_abandon kn_X1 ko_X1_abandon) rfl rfl rfl ⟨rfl, hd_yX1_abandon⟩ ⟨Nat.le_of_ble_eq_true rfl, Nat.le_of_ble_eq_true rfl⟩) rfl (by decide) A8 rfl rfl (Nat.le_of_ble_eq_true rfl) dX1_jump_94 ⟨Nat.le_of_ble_eq_true rfl, Nat.le_of_ble_eq_true rfl⟩ (fun S94 hH => ?_)
        refine r_goto (tgt := 111) F dX1_jump_97 (by decide) ?_
        refine r_iload F dX1_jump_111 rfl ?_
        have hw28 : w = 28 := by
          have c9 := c90
          have h36 := (rg_1209 hv (k := 60 * f + k) (by omega)).2
          rw [show (28 : Int32) = nI 28 from rfl, nI_eq (by omega) (by omega)] at c9
          omega
        have hcR : cR ((fun c1 => if w = 28 then kDie c1 else setH c1 (kh c1 + ktk v f q a)) (setH q (if ktk v f q a ≤ kh q - kb q (kn q - 1) then kh q - ktk v f q a else kb q (kn q - 1)))) (K.1, nI (kb q (kn q - 1)), K.2.2.1, K.2.2.2.1, K.2.2.2.2.1, K.2.2.2.2.2.1, upd K.2.2.2.2.2.2 (kn q - 1) 1) := by
          show cR (if w = 28 then _ else _) _
          rw [if_pos hw28]
          refine ⟨hQ.1, rfl, fun b hb => ?_⟩
          obtain ⟨g1, g2, g3, g4, g5⟩ := hQ.2.2 b hb
          refine ⟨g1, g2, g3, g4, ?_⟩
          show upd K.2.2.2.2.2.2 (kn q - 1) 1 b = (if va_up (kdd q) (kn q - 1) true b then 1 else 0)
          by_cases e : b = (kn q - 1)
          · subst e
            rw [va_up_self]
            exact if_pos rfl
          · rw [va_up_ne _ _ e]
            exact (if_neg e).trans g5
        refine e_zret F hr if1n hlk ⟨?_, W1, (K.1, nI (kb q (kn q - 1)), K.2.2.1, K.2.2.2.1, K.2.2.2.2.1, K.2.2.2.2.2.1, upd K.2.2.2.2.2.2 (kn q - 1) 1), hH, fun _ => ⟨hcR, hrt1⟩, _, _, _, hrt1⟩ (by decide) (by decide) dX1_jump_113
        by_cases h9 : ktk v f q a ≤ kh q - kb q (kn q - 1) ∨ kdd q (kn q - 1) = true
        · rw [if_pos h9]; exact zbo.y ⟨by omega, h9⟩
        · rw [if_neg h9]; exact zbo.n (fun h8 => h9 h8.2)
    · have e00 : ¬ ((kn q - 1) - a) = 0 := by
        have c9 := c31
        rw [nl0, nI_leI (by omega) (by omega)] at c9
        omega
      have hko0 := (hI.2.2.2.1 ((kn q - 1) - a) (by omega)).2 (by omega)
      refine r_aload_n F dX1_jump_34 rfl ?_
      refine r_getS (ci := 7) (k := 5) (id := 705) (C := RX6) (T := TX6) (N := 13) F G rfl (by decide) (by decide) rfl (zinL inG7) (zin kf_X1_71) (fun _ h9 => h9) dX1_jump_35 R0 Qw ?_
      refine r_aload_n F dX1_jump_38 rfl ?_
      refine r_getS (ci := 2) (k := 0) (id := 200) (C := RX1) (T := TX1) (N := 7) F G rfl (by decide) (by decide) rfl (zinL inG2) (zin kf_X1_9) (fun _ h9 => h9) dX1_jump_39 A8 Q22 ?_
      refine r_iload_n F dX1_jump_42 rfl ?_
      refine v_iald F G hH (n := ((kn q - 1) - a)) a22 rfl rfl (by omega) (by omega) dX1_jump_43 ?_
      rw [show ori (wK W1 K) 22 ((kn q - 1) - a) = nI (ko q ((kn q - 1) - a)) from htj.1.trans (if_neg e00)]
      refine v_iald F G hH (n := ko q ((kn q - 1) - a)) rw_ rfl hkr.2.1 (by omega) (by omega) dX1_jump_44 ?_
      rw [vw1 _ (by omega)]
      refine r_bipush (v := 24) F dX1_jump_45 (by decide) ?_
      refine r_icmp_ne (tgt := 54) F dX1_jump_47 (by decide) (fun c47 => ?_) (fun c47 => ?_)
      · refine r_iconst (v := 0) F dX1_jump_54 (by decide) ?_
        refine r_istore F dX1_jump_55 (by decide) ?_
        refine r_iload F dX1_jump_57 rfl ?_
        refine r_if_eq (tgt := 66) F dX1_jump_59 (by decide) (fun _ => ?_) (fun h9 => absurd rfl h9)
        refine r_aload_n F dX1_jump_66 rfl ?_
        refine r_getS (ci := 2) (k := 3) (id := 203) (C := RX1) (T := TX1) (N := 7) F G rfl (by decide) (by decide) rfl (zinL inG2) (zin kf_X1_21) (fun _ h9 => h9) dX1_jump_67 A8 Q28 ?_
        refine r_iload_n F dX1_jump_70 rfl ?_
        refine v_iald F G hH (n := ((kn q - 1) - a)) a28 rfl rfl (by omega) (by omega) dX1_jump_71 ?_
        rw [show ori (wK W1 K) 28 ((kn q - 1) - a) = nI (kl q ((kn q - 1) - a)) from htj.2.2.2.1]
        refine r_istore F dX1_jump_72 (by decide) ?_
        refine r_aload_n F dX1_jump_74 rfl ?_
        refine r_iload F dX1_jump_75 rfl ?_
        have e0 : ¬ ((kn q - 1) - a) = 0 := by
          have c9 := c31
          rw [nl0, nI_leI (by omega) (by omega)] at c9
          omega
        have hko := (hI.2.2.2.1 ((kn q - 1) - a) (by omega)).2 (by omega)
        have hb36 := (rg_1209 hv (k := 60 * f + ko q ((kn q - 1) - a)) (by omega)).2
        have htk : ktk v f q a = kl q ((kn q - 1) - a) := by
          unfold ktk bw
          rw [if_neg e0]
          exact if_neg (fun h9 => c47 (by rw [h9]; rfl))
        rw [← htk]
        refine c_Vi (ci := 2) F G (c_kpop hw1 a81 hH (t := (kn q - 1)) (h := kh q) (b := kb q (kn q - 1)) (dd := kdd q (kn q - 1)) (w := ktk v f q a) hQ.1 (by omega) hQ.2.1 hT.2.2.1 hbT (by omega) hT.2.2.2.2 (by have := htk; omega)) (cwV 1 F.2.2.2.2 (zgV km_X1_82 ki_X1_pop ke_X1_X1_pop kn_X1 ko_X1_pop) rfl rfl rfl ⟨rfl, hd_yX1_pop⟩ ⟨Nat.le_of_ble_eq_true rfl, Nat.le_of_ble_eq_true rfl⟩) rfl (by decide) A8 rfl rfl (Nat.le_of_ble_eq_true rfl) dX1_jump_77 ⟨Nat.le_of_ble_eq_true rfl, Nat.le_of_ble_eq_true rfl⟩ (fun r77 S77 h77 => ?_)
        obtain ⟨a77, hH⟩ := h77
        subst a77
        clear A8 JO IH Q22 Q24 Q26 Q28 Q30
        clear R0 Qw rw_ mw Qn rn mn Qe re me Qg rg_ mg Qb rb mb
        have a8k : oa (wK W1 (K.1, nI (if ktk v f q a ≤ kh q - kb q (kn q - 1) then kh q - ktk v f q a else kb q (kn q - 1)), K.2.2)) 8 := wK_a.mpr a81
        have A8 : zA S77 (ad 8) 2 := hH.al a8k rfl rfl
        have JO : zi S77 205 (ad 8) = ((K.1, nI (if ktk v f q a ≤ kh q - kb q (kn q - 1) then kh q - ktk v f q a else kb q (kn q - 1)), K.2.2)).1 := hH.i a8k rfl (by decide)
        have IH : zi S77 206 (ad 8) = ((K.1, nI (if ktk v f q a ≤ kh q - kb q (kn q - 1) then kh q - ktk v f q a else kb q (kn q - 1)), K.2.2)).2.1 := hH.i a8k rfl (by decide)
        have Q22 : zq S77 200 (ad 8) = some (ad 22) := hH.qS a8k rfl (by decide) ((wK_wr hw1).q a8k (by decide) rfl) rfl
        have a22 : oa (wK W1 (K.1, nI (if ktk v f q a ≤ kh q - kb q (kn q - 1) then kh q - ktk v f q a else kb q (kn q - 1)), K.2.2)) 22 := (wK_wr hw1).a a8k (id := 200) (by decide) rfl
        have n22 : onn (wK W1 (K.1, nI (if ktk v f q a ≤ kh q - kb q (kn q - 1) then kh q - ktk v f q a else kb q (kn q - 1)), K.2.2)) 22 = 61 := (wK_wr hw1).n a8k (id := 200) (by decide) rfl (by decide)
        have Q24 : zq S77 201 (ad 8) = some (ad 24) := hH.qS a8k rfl (by decide) ((wK_wr hw1).q a8k (by decide) rfl) rfl
        have a24 : oa (wK W1 (K.1, nI (if ktk v f q a ≤ kh q - kb q (kn q - 1) then kh q - ktk v f q a else kb q (kn q - 1)), K.2.2)) 24 := (wK_wr hw1).a a8k (id := 201) (by decide) rfl
        have n24 : onn (wK W1 (K.1, nI (if ktk v f q a ≤ kh q - kb q (kn q - 1) then kh q - ktk v f q a else kb q (kn q - 1)), K.2.2)) 24 = 61 := (wK_wr hw1).n a8k (id := 201) (by decide) rfl (by decide)
        have Q26 : zq S77 202 (ad 8) = some (ad 26) := hH.qS a8k rfl (by decide) ((wK_wr hw1).q a8k (by decide) rfl) rfl
        have a26 : oa (wK W1 (K.1, nI (if ktk v f q a ≤ kh q - kb q (kn q - 1) then kh q - ktk v f q a else kb q (kn q - 1)), K.2.2)) 26 := (wK_wr hw1).a a8k (id := 202) (by decide) rfl
        have n26 : onn (wK W1 (K.1, nI (if ktk v f q a ≤ kh q - kb q (kn q - 1) then kh q - ktk v f q a else kb q (kn q - 1)), K.2.2)) 26 = 61 := (wK_wr hw1).n a8k (id := 202) (by decide) rfl (by decide)
        have Q28 : zq S77 203 (ad 8) = some (ad 28) := hH.qS a8k rfl (by decide) ((wK_wr hw1).q a8k (by decide) rfl) rfl
        have a28 : oa (wK W1 (K.1, nI (if ktk v f q a ≤ kh q - kb q (kn q - 1) then kh q - ktk v f q a else kb q (kn q - 1)), K.2.2)) 28 := (wK_wr hw1).a a8k (id := 203) (by decide) rfl
        have n28 : onn (wK W1 (K.1, nI (if ktk v f q a ≤ kh q - kb q (kn q - 1) then kh q - ktk v f q a else kb q (kn q - 1)), K.2.2)) 28 = 61 := (wK_wr hw1).n a8k (id := 203) (by decide) rfl (by decide)
        have Q30 : zq S77 204 (ad 8) = some (ad 30) := hH.qS a8k rfl (by decide) ((wK_wr hw1).q a8k (by decide) rfl) rfl
        have a30 : oa (wK W1 (K.1, nI (if ktk v f q a ≤ kh q - kb q (kn q - 1) then kh q - ktk v f q a else kb q (kn q - 1)), K.2.2)) 30 := (wK_wr hw1).a a8k (id := 204) (by decide) rfl
        have n30 : onn (wK W1 (K.1, nI (if ktk v f q a ≤ kh q - kb q (kn q - 1) then kh q - ktk v f q a else kb q (kn q - 1)), K.2.2)) 30 = 61 := (wK_wr hw1).n a8k (id := 204) (by decide) rfl (by decide)
        have R0 : zA S77 (ad (200 + 12 * f)) 7 := hH.al (wK_a.mpr hra1) rfl hkr.1
        have Qw : zq S77 705 (ad (200 + 12 * f)) = some (ad ((200 + 12 * f) + 2)) := hH.qS (wK_a.mpr hra1) rfl (by rw [hkr.1]; decide) ((wK_wr hw1).q (wK_a.mpr hra1) (by decide) hkr.1) rfl
        have rw_ : oa (wK W1 (K.1, nI (if ktk v f q a ≤ kh q - kb q (kn q - 1) then kh q - ktk v f q a else kb q (kn q - 1)), K.2.2)) ((200 + 12 * f) + 2) := (wK_wr hw1).a (wK_a.mpr hra1) (id := 705) (by decide) hkr.1
        have mw : onn (wK W1 (K.1, nI (if ktk v f q a ≤ kh q - kb q (kn q - 1) then kh q - ktk v f q a else kb q (kn q - 1)), K.2.2)) ((200 + 12 * f) + 2) = 60 := (wK_wr hw1).n (wK_a.mpr hra1) (id := 705) (by decide) hkr.1 (by decide)
        have Qn : zq S77 706 (ad (200 + 12 * f)) = some (ad ((200 + 12 * f) + 4)) := hH.qS (wK_a.mpr hra1) rfl (by rw [hkr.1]; decide) ((wK_wr hw1).q (wK_a.mpr hra1) (by decide) hkr.1) rfl
        have rn : oa (wK W1 (K.1, nI (if ktk v f q a ≤ kh q - kb q (kn q - 1) then kh q - ktk v f q a else kb q (kn q - 1)), K.2.2)) ((200 + 12 * f) + 4) := (wK_wr hw1).a (wK_a.mpr hra1) (id := 706) (by decide) hkr.1
        have mn : onn (wK W1 (K.1, nI (if ktk v f q a ≤ kh q - kb q (kn q - 1) then kh q - ktk v f q a else kb q (kn q - 1)), K.2.2)) ((200 + 12 * f) + 4) = 60 := (wK_wr hw1).n (wK_a.mpr hra1) (id := 706) (by decide) hkr.1 (by decide)
        have Qe : zq S77 707 (ad (200 + 12 * f)) = some (ad ((200 + 12 * f) + 6)) := hH.qS (wK_a.mpr hra1) rfl (by rw [hkr.1]; decide) ((wK_wr hw1).q (wK_a.mpr hra1) (by decide) hkr.1) rfl
        have re : oa (wK W1 (K.1, nI (if ktk v f q a ≤ kh q - kb q (kn q - 1) then kh q - ktk v f q a else kb q (kn q - 1)), K.2.2)) ((200 + 12 * f) + 6) := (wK_wr hw1).a (wK_a.mpr hra1) (id := 707) (by decide) hkr.1
        have me : onn (wK W1 (K.1, nI (if ktk v f q a ≤ kh q - kb q (kn q - 1) then kh q - ktk v f q a else kb q (kn q - 1)), K.2.2)) ((200 + 12 * f) + 6) = 60 := (wK_wr hw1).n (wK_a.mpr hra1) (id := 707) (by decide) hkr.1 (by decide)
        have Qg : zq S77 708 (ad (200 + 12 * f)) = some (ad ((200 + 12 * f) + 8)) := hH.qS (wK_a.mpr hra1) rfl (by rw [hkr.1]; decide) ((wK_wr hw1).q (wK_a.mpr hra1) (by decide) hkr.1) rfl
        have rg_ : oa (wK W1 (K.1, nI (if ktk v f q a ≤ kh q - kb q (kn q - 1) then kh q - ktk v f q a else kb q (kn q - 1)), K.2.2)) ((200 + 12 * f) + 8) := (wK_wr hw1).a (wK_a.mpr hra1) (id := 708) (by decide) hkr.1
        have mg : onn (wK W1 (K.1, nI (if ktk v f q a ≤ kh q - kb q (kn q - 1) then kh q - ktk v f q a else kb q (kn q - 1)), K.2.2)) ((200 + 12 * f) + 8) = 60 := (wK_wr hw1).n (wK_a.mpr hra1) (id := 708) (by decide) hkr.1 (by decide)
        have Qb : zq S77 709 (ad (200 + 12 * f)) = some (ad ((200 + 12 * f) + 10)) := hH.qS (wK_a.mpr hra1) rfl (by rw [hkr.1]; decide) ((wK_wr hw1).q (wK_a.mpr hra1) (by decide) hkr.1) rfl
        have rb : oa (wK W1 (K.1, nI (if ktk v f q a ≤ kh q - kb q (kn q - 1) then kh q - ktk v f q a else kb q (kn q - 1)), K.2.2)) ((200 + 12 * f) + 10) := (wK_wr hw1).a (wK_a.mpr hra1) (id := 709) (by decide) hkr.1
        have mb : onn (wK W1 (K.1, nI (if ktk v f q a ≤ kh q - kb q (kn q - 1) then kh q - ktk v f q a else kb q (kn q - 1)), K.2.2)) ((200 + 12 * f) + 10) = 60 := (wK_wr hw1).n (wK_a.mpr hra1) (id := 709) (by decide) hkr.1 (by decide)
        refine r_istore F dX1_jump_80 (by decide) ?_
        refine r_aload_n F dX1_jump_82 rfl ?_
        refine r_getS (ci := 7) (k := 5) (id := 705) (C := RX6) (T := TX6) (N := 13) F G rfl (by decide) (by decide) rfl (zinL inG7) (zin kf_X1_71) (fun _ h9 => h9) dX1_jump_83 R0 Qw ?_
        refine r_iload_n F dX1_jump_86 rfl ?_
        refine v_iald F G hH (n := k) rw_ rfl hkr.2.1 (by omega) (by omega) dX1_jump_87 ?_
        rw [vw1 _ (by omega)]
        refine r_bipush (v := 28) F dX1_jump_88 (by decide) ?_
        refine r_icmp_ne (tgt := 100) F dX1_jump_90 (by decide) (fun c90 => ?_) (fun c90 => ?_)
        · refine r_aload_n F dX1_jump_100 rfl ?_
          refine r_dup F dX1_jump_101 rfl ?_
          refine r_getiS (ci := 2) (k := 6) (id := 206) (C := RX1) (T := TX1) (N := 7) F G rfl (by decide) (by decide) rfl (zinL inG2) (zin kf_X1_51) (fun _ h9 => h9) dX1_jump_102 A8 IH ?_
          refine r_iload F dX1_jump_105 rfl ?_
          refine r_iadd F dX1_jump_107 ?_
          rw [show nI (if ktk v f q a ≤ kh q - kb q (kn q - 1) then kh q - ktk v f q a else kb q (kn q - 1)) + nI (ktk v f q a) = nI ((if ktk v f q a ≤ kh q - kb q (kn q - 1) then kh q - ktk v f q a else kb q (kn q - 1)) + ktk v f q a) from nI_add _ _]
          refine r_puti (ci := 2) (k := 6) (id := 206) (C := RX1) (T := TX1) (N := 7) (ty := .int) (ty0 := tyX1) F G rfl (by decide) (by decide) rfl (zinL inG2) (zin kf_X1_51) (fun _ h9 => h9) tyX1_ok nmX1 rfl pd2_6 rfl rfl dX1_jump_108 A8 ?_
          refine zgen (P := zH t0 X S0 ad (wK W1 (K.1, nI ((if ktk v f q a ≤ kh q - kb q (kn q - 1) then kh q - ktk v f q a else kb q (kn q - 1)) + ktk v f q a), K.2.2))) (by rw [← wK_h (K := (K.1, nI (if ktk v f q a ≤ kh q - kb q (kn q - 1) then kh q - ktk v f q a else kb q (kn q - 1)), K.2.2))]; exact hH.pi a8k rfl rfl (by decide) _) (fun S hH => ?_)
          refine r_iload F dX1_jump_111 rfl ?_
          have hw28 : ¬ w = 28 := fun h9 => c90 (by rw [hw9, h9]; rfl)
          have hcR : cR ((fun c1 => if w = 28 then kDie c1 else setH c1 (kh c1 + ktk v f q a)) (setH q (if ktk v f q a ≤ kh q - kb q (kn q - 1) then kh q - ktk v f q a else kb q (kn q - 1)))) (K.1, nI ((if ktk v f q a ≤ kh q - kb q (kn q - 1) then kh q - ktk v f q a else kb q (kn q - 1)) + ktk v f q a), K.2.2) := by
            show cR (if w = 28 then _ else _) _
            rw [if_neg hw28]
            exact ⟨hQ.1, rfl, fun b hb => hQ.2.2 b hb⟩
          refine e_zret F hr if1n hlk ⟨?_, W1, (K.1, nI ((if ktk v f q a ≤ kh q - kb q (kn q - 1) then kh q - ktk v f q a else kb q (kn q - 1)) + ktk v f q a), K.2.2), hH, fun _ => ⟨hcR, hrt1⟩, _, _, _, hrt1⟩ (by decide) (by decide) dX1_jump_113
          by_cases h9 : ktk v f q a ≤ kh q - kb q (kn q - 1) ∨ kdd q (kn q - 1) = true
          · rw [if_pos h9]; exact zbo.y ⟨by omega, h9⟩
          · rw [if_neg h9]; exact zbo.n (fun h8 => h9 h8.2)
        · refine r_aload_n F dX1_jump_93 rfl ?_
          refine c_Vv (ci := 2) F G (c_kabandon hw1 a81 hH (t := (kn q - 1)) (b := kb q (kn q - 1)) hQ.1 (by omega) hT.2.2.1) (cwV 0 F.2.2.2.2 (zgV km_X1_96 ki_X1_abandon ke_X1_X1_abandon kn_X1 ko_X1_abandon) rfl rfl rfl ⟨rfl, hd_yX1_abandon⟩ ⟨Nat.le_of_ble_eq_true rfl, Nat.le_of_ble_eq_true rfl⟩) rfl (by decide) A8 rfl rfl (Nat.le_of_ble_eq_true rfl) dX1_jump_94 ⟨Nat.le_of_ble_eq_true rfl, Nat.le_of_ble_eq_true rfl⟩ (fun S94 hH => ?_)
          refine r_goto (tgt := 111) F dX1_jump_97 (by decide) ?_
          refine r_iload F dX1_jump_111 rfl ?_
          have hw28 : w = 28 := by
            have c9 := c90
            have h36 := (rg_1209 hv (k := 60 * f + k) (by omega)).2
            rw [show (28 : Int32) = nI 28 from rfl, nI_eq (by omega) (by omega)] at c9
            omega
          have hcR : cR ((fun c1 => if w = 28 then kDie c1 else setH c1 (kh c1 + ktk v f q a)) (setH q (if ktk v f q a ≤ kh q - kb q (kn q - 1) then kh q - ktk v f q a else kb q (kn q - 1)))) (K.1, nI (kb q (kn q - 1)), K.2.2.1, K.2.2.2.1, K.2.2.2.2.1, K.2.2.2.2.2.1, upd K.2.2.2.2.2.2 (kn q - 1) 1) := by
            show cR (if w = 28 then _ else _) _
            rw [if_pos hw28]
            refine ⟨hQ.1, rfl, fun b hb => ?_⟩
            obtain ⟨g1, g2, g3, g4, g5⟩ := hQ.2.2 b hb
            refine ⟨g1, g2, g3, g4, ?_⟩
            show upd K.2.2.2.2.2.2 (kn q - 1) 1 b = (if va_up (kdd q) (kn q - 1) true b then 1 else 0)
            by_cases e : b = (kn q - 1)
            · subst e
              rw [va_up_self]
              exact if_pos rfl
            · rw [va_up_ne _ _ e]
              exact (if_neg e).trans g5
          refine e_zret F hr if1n hlk ⟨?_, W1, (K.1, nI (kb q (kn q - 1)), K.2.2.1, K.2.2.2.1, K.2.2.2.2.1, K.2.2.2.2.2.1, upd K.2.2.2.2.2.2 (kn q - 1) 1), hH, fun _ => ⟨hcR, hrt1⟩, _, _, _, hrt1⟩ (by decide) (by decide) dX1_jump_113
          by_cases h9 : ktk v f q a ≤ kh q - kb q (kn q - 1) ∨ kdd q (kn q - 1) = true
          · rw [if_pos h9]; exact zbo.y ⟨by omega, h9⟩
          · rw [if_neg h9]; exact zbo.n (fun h8 => h9 h8.2)
      · refine r_iconst (v := 1) F dX1_jump_50 (by decide) ?_
        refine r_goto (tgt := 55) F dX1_jump_51 (by decide) ?_
        refine r_istore F dX1_jump_55 (by decide) ?_
        refine r_iload F dX1_jump_57 rfl ?_
        refine r_if_eq (tgt := 66) F dX1_jump_59 (by decide) (fun h9 => absurd h9 (by decide)) (fun _ => ?_)
        refine r_iconst (v := 0) F dX1_jump_62 (by decide) ?_
        refine r_goto (tgt := 72) F dX1_jump_63 (by decide) ?_
        refine r_istore F dX1_jump_72 (by decide) ?_
        refine r_aload_n F dX1_jump_74 rfl ?_
        refine r_iload F dX1_jump_75 rfl ?_
        have e0 : ¬ ((kn q - 1) - a) = 0 := by
          have c9 := c31
          rw [nl0, nI_leI (by omega) (by omega)] at c9
          omega
        have hko := (hI.2.2.2.1 ((kn q - 1) - a) (by omega)).2 (by omega)
        have hb36 := (rg_1209 hv (k := 60 * f + ko q ((kn q - 1) - a)) (by omega)).2
        have htk : ktk v f q a = 0 := by
          unfold ktk bw
          rw [if_neg e0]
          exact if_pos (by have c9 := c47; rw [show (24 : Int32) = nI 24 from rfl, nI_eq (by omega) (by omega)] at c9; exact c9)
        rw [show (0 : Int32) = nI (ktk v f q a) by rw [htk]; rfl]
        refine c_Vi (ci := 2) F G (c_kpop hw1 a81 hH (t := (kn q - 1)) (h := kh q) (b := kb q (kn q - 1)) (dd := kdd q (kn q - 1)) (w := ktk v f q a) hQ.1 (by omega) hQ.2.1 hT.2.2.1 hbT (by omega) hT.2.2.2.2 (by have := htk; omega)) (cwV 1 F.2.2.2.2 (zgV km_X1_82 ki_X1_pop ke_X1_X1_pop kn_X1 ko_X1_pop) rfl rfl rfl ⟨rfl, hd_yX1_pop⟩ ⟨Nat.le_of_ble_eq_true rfl, Nat.le_of_ble_eq_true rfl⟩) rfl (by decide) A8 rfl rfl (Nat.le_of_ble_eq_true rfl) dX1_jump_77 ⟨Nat.le_of_ble_eq_true rfl, Nat.le_of_ble_eq_true rfl⟩ (fun r77 S77 h77 => ?_)
        obtain ⟨a77, hH⟩ := h77
        subst a77
        clear A8 JO IH Q22 Q24 Q26 Q28 Q30
        clear R0 Qw rw_ mw Qn rn mn Qe re me Qg rg_ mg Qb rb mb
        have a8k : oa (wK W1 (K.1, nI (if ktk v f q a ≤ kh q - kb q (kn q - 1) then kh q - ktk v f q a else kb q (kn q - 1)), K.2.2)) 8 := wK_a.mpr a81
        have A8 : zA S77 (ad 8) 2 := hH.al a8k rfl rfl
        have JO : zi S77 205 (ad 8) = ((K.1, nI (if ktk v f q a ≤ kh q - kb q (kn q - 1) then kh q - ktk v f q a else kb q (kn q - 1)), K.2.2)).1 := hH.i a8k rfl (by decide)
        have IH : zi S77 206 (ad 8) = ((K.1, nI (if ktk v f q a ≤ kh q - kb q (kn q - 1) then kh q - ktk v f q a else kb q (kn q - 1)), K.2.2)).2.1 := hH.i a8k rfl (by decide)
        have Q22 : zq S77 200 (ad 8) = some (ad 22) := hH.qS a8k rfl (by decide) ((wK_wr hw1).q a8k (by decide) rfl) rfl
        have a22 : oa (wK W1 (K.1, nI (if ktk v f q a ≤ kh q - kb q (kn q - 1) then kh q - ktk v f q a else kb q (kn q - 1)), K.2.2)) 22 := (wK_wr hw1).a a8k (id := 200) (by decide) rfl
        have n22 : onn (wK W1 (K.1, nI (if ktk v f q a ≤ kh q - kb q (kn q - 1) then kh q - ktk v f q a else kb q (kn q - 1)), K.2.2)) 22 = 61 := (wK_wr hw1).n a8k (id := 200) (by decide) rfl (by decide)
        have Q24 : zq S77 201 (ad 8) = some (ad 24) := hH.qS a8k rfl (by decide) ((wK_wr hw1).q a8k (by decide) rfl) rfl
        have a24 : oa (wK W1 (K.1, nI (if ktk v f q a ≤ kh q - kb q (kn q - 1) then kh q - ktk v f q a else kb q (kn q - 1)), K.2.2)) 24 := (wK_wr hw1).a a8k (id := 201) (by decide) rfl
        have n24 : onn (wK W1 (K.1, nI (if ktk v f q a ≤ kh q - kb q (kn q - 1) then kh q - ktk v f q a else kb q (kn q - 1)), K.2.2)) 24 = 61 := (wK_wr hw1).n a8k (id := 201) (by decide) rfl (by decide)
        have Q26 : zq S77 202 (ad 8) = some (ad 26) := hH.qS a8k rfl (by decide) ((wK_wr hw1).q a8k (by decide) rfl) rfl
        have a26 : oa (wK W1 (K.1, nI (if ktk v f q a ≤ kh q - kb q (kn q - 1) then kh q - ktk v f q a else kb q (kn q - 1)), K.2.2)) 26 := (wK_wr hw1).a a8k (id := 202) (by decide) rfl
        have n26 : onn (wK W1 (K.1, nI (if ktk v f q a ≤ kh q - kb q (kn q - 1) then kh q - ktk v f q a else kb q (kn q - 1)), K.2.2)) 26 = 61 := (wK_wr hw1).n a8k (id := 202) (by decide) rfl (by decide)
        have Q28 : zq S77 203 (ad 8) = some (ad 28) := hH.qS a8k rfl (by decide) ((wK_wr hw1).q a8k (by decide) rfl) rfl
        have a28 : oa (wK W1 (K.1, nI (if ktk v f q a ≤ kh q - kb q (kn q - 1) then kh q - ktk v f q a else kb q (kn q - 1)), K.2.2)) 28 := (wK_wr hw1).a a8k (id := 203) (by decide) rfl
        have n28 : onn (wK W1 (K.1, nI (if ktk v f q a ≤ kh q - kb q (kn q - 1) then kh q - ktk v f q a else kb q (kn q - 1)), K.2.2)) 28 = 61 := (wK_wr hw1).n a8k (id := 203) (by decide) rfl (by decide)
        have Q30 : zq S77 204 (ad 8) = some (ad 30) := hH.qS a8k rfl (by decide) ((wK_wr hw1).q a8k (by decide) rfl) rfl
        have a30 : oa (wK W1 (K.1, nI (if ktk v f q a ≤ kh q - kb q (kn q - 1) then kh q - ktk v f q a else kb q (kn q - 1)), K.2.2)) 30 := (wK_wr hw1).a a8k (id := 204) (by decide) rfl
        have n30 : onn (wK W1 (K.1, nI (if ktk v f q a ≤ kh q - kb q (kn q - 1) then kh q - ktk v f q a else kb q (kn q - 1)), K.2.2)) 30 = 61 := (wK_wr hw1).n a8k (id := 204) (by decide) rfl (by decide)
        have R0 : zA S77 (ad (200 + 12 * f)) 7 := hH.al (wK_a.mpr hra1) rfl hkr.1
        have Qw : zq S77 705 (ad (200 + 12 * f)) = some (ad ((200 + 12 * f) + 2)) := hH.qS (wK_a.mpr hra1) rfl (by rw [hkr.1]; decide) ((wK_wr hw1).q (wK_a.mpr hra1) (by decide) hkr.1) rfl
        have rw_ : oa (wK W1 (K.1, nI (if ktk v f q a ≤ kh q - kb q (kn q - 1) then kh q - ktk v f q a else kb q (kn q - 1)), K.2.2)) ((200 + 12 * f) + 2) := (wK_wr hw1).a (wK_a.mpr hra1) (id := 705) (by decide) hkr.1
        have mw : onn (wK W1 (K.1, nI (if ktk v f q a ≤ kh q - kb q (kn q - 1) then kh q - ktk v f q a else kb q (kn q - 1)), K.2.2)) ((200 + 12 * f) + 2) = 60 := (wK_wr hw1).n (wK_a.mpr hra1) (id := 705) (by decide) hkr.1 (by decide)
        have Qn : zq S77 706 (ad (200 + 12 * f)) = some (ad ((200 + 12 * f) + 4)) := hH.qS (wK_a.mpr hra1) rfl (by rw [hkr.1]; decide) ((wK_wr hw1).q (wK_a.mpr hra1) (by decide) hkr.1) rfl
        have rn : oa (wK W1 (K.1, nI (if ktk v f q a ≤ kh q - kb q (kn q - 1) then kh q - ktk v f q a else kb q (kn q - 1)), K.2.2)) ((200 + 12 * f) + 4) := (wK_wr hw1).a (wK_a.mpr hra1) (id := 706) (by decide) hkr.1
        have mn : onn (wK W1 (K.1, nI (if ktk v f q a ≤ kh q - kb q (kn q - 1) then kh q - ktk v f q a else kb q (kn q - 1)), K.2.2)) ((200 + 12 * f) + 4) = 60 := (wK_wr hw1).n (wK_a.mpr hra1) (id := 706) (by decide) hkr.1 (by decide)
        have Qe : zq S77 707 (ad (200 + 12 * f)) = some (ad ((200 + 12 * f) + 6)) := hH.qS (wK_a.mpr hra1) rfl (by rw [hkr.1]; decide) ((wK_wr hw1).q (wK_a.mpr hra1) (by decide) hkr.1) rfl
        have re : oa (wK W1 (K.1, nI (if ktk v f q a ≤ kh q - kb q (kn q - 1) then kh q - ktk v f q a else kb q (kn q - 1)), K.2.2)) ((200 + 12 * f) + 6) := (wK_wr hw1).a (wK_a.mpr hra1) (id := 707) (by decide) hkr.1
        have me : onn (wK W1 (K.1, nI (if ktk v f q a ≤ kh q - kb q (kn q - 1) then kh q - ktk v f q a else kb q (kn q - 1)), K.2.2)) ((200 + 12 * f) + 6) = 60 := (wK_wr hw1).n (wK_a.mpr hra1) (id := 707) (by decide) hkr.1 (by decide)
        have Qg : zq S77 708 (ad (200 + 12 * f)) = some (ad ((200 + 12 * f) + 8)) := hH.qS (wK_a.mpr hra1) rfl (by rw [hkr.1]; decide) ((wK_wr hw1).q (wK_a.mpr hra1) (by decide) hkr.1) rfl
        have rg_ : oa (wK W1 (K.1, nI (if ktk v f q a ≤ kh q - kb q (kn q - 1) then kh q - ktk v f q a else kb q (kn q - 1)), K.2.2)) ((200 + 12 * f) + 8) := (wK_wr hw1).a (wK_a.mpr hra1) (id := 708) (by decide) hkr.1
        have mg : onn (wK W1 (K.1, nI (if ktk v f q a ≤ kh q - kb q (kn q - 1) then kh q - ktk v f q a else kb q (kn q - 1)), K.2.2)) ((200 + 12 * f) + 8) = 60 := (wK_wr hw1).n (wK_a.mpr hra1) (id := 708) (by decide) hkr.1 (by decide)
        have Qb : zq S77 709 (ad (200 + 12 * f)) = some (ad ((200 + 12 * f) + 10)) := hH.qS (wK_a.mpr hra1) rfl (by rw [hkr.1]; decide) ((wK_wr hw1).q (wK_a.mpr hra1) (by decide) hkr.1) rfl
        have rb : oa (wK W1 (K.1, nI (if ktk v f q a ≤ kh q - kb q (kn q - 1) then kh q - ktk v f q a else kb q (kn q - 1)), K.2.2)) ((200 + 12 * f) + 10) := (wK_wr hw1).a (wK_a.mpr hra1) (id := 709) (by decide) hkr.1
        have mb : onn (wK W1 (K.1, nI (if ktk v f q a ≤ kh q - kb q (kn q - 1) then kh q - ktk v f q a else kb q (kn q - 1)), K.2.2)) ((200 + 12 * f) + 10) = 60 := (wK_wr hw1).n (wK_a.mpr hra1) (id := 709) (by decide) hkr.1 (by decide)
        refine r_istore F dX1_jump_80 (by decide) ?_
        refine r_aload_n F dX1_jump_82 rfl ?_
        refine r_getS (ci := 7) (k := 5) (id := 705) (C := RX6) (T := TX6) (N := 13) F G rfl (by decide) (by decide) rfl (zinL inG7) (zin kf_X1_71) (fun _ h9 => h9) dX1_jump_83 R0 Qw ?_
        refine r_iload_n F dX1_jump_86 rfl ?_
        refine v_iald F G hH (n := k) rw_ rfl hkr.2.1 (by omega) (by omega) dX1_jump_87 ?_
        rw [vw1 _ (by omega)]
        refine r_bipush (v := 28) F dX1_jump_88 (by decide) ?_
        refine r_icmp_ne (tgt := 100) F dX1_jump_90 (by decide) (fun c90 => ?_) (fun c90 => ?_)
        · refine r_aload_n F dX1_jump_100 rfl ?_
          refine r_dup F dX1_jump_101 rfl ?_
          refine r_getiS (ci := 2) (k := 6) (id := 206) (C := RX1) (T := TX1) (N := 7) F G rfl (by decide) (by decide) rfl (zinL inG2) (zin kf_X1_51) (fun _ h9 => h9) dX1_jump_102 A8 IH ?_
          refine r_iload F dX1_jump_105 rfl ?_
          refine r_iadd F dX1_jump_107 ?_
          rw [show nI (if ktk v f q a ≤ kh q - kb q (kn q - 1) then kh q - ktk v f q a else kb q (kn q - 1)) + nI (ktk v f q a) = nI ((if ktk v f q a ≤ kh q - kb q (kn q - 1) then kh q - ktk v f q a else kb q (kn q - 1)) + ktk v f q a) from nI_add _ _]
          refine r_puti (ci := 2) (k := 6) (id := 206) (C := RX1) (T := TX1) (N := 7) (ty := .int) (ty0 := tyX1) F G rfl (by decide) (by decide) rfl (zinL inG2) (zin kf_X1_51) (fun _ h9 => h9) tyX1_ok nmX1 rfl pd2_6 rfl rfl dX1_jump_108 A8 ?_
          refine zgen (P := zH t0 X S0 ad (wK W1 (K.1, nI ((if ktk v f q a ≤ kh q - kb q (kn q - 1) then kh q - ktk v f q a else kb q (kn q - 1)) + ktk v f q a), K.2.2))) (by rw [← wK_h (K := (K.1, nI (if ktk v f q a ≤ kh q - kb q (kn q - 1) then kh q - ktk v f q a else kb q (kn q - 1)), K.2.2))]; exact hH.pi a8k rfl rfl (by decide) _) (fun S hH => ?_)
          refine r_iload F dX1_jump_111 rfl ?_
          have hw28 : ¬ w = 28 := fun h9 => c90 (by rw [hw9, h9]; rfl)
          have hcR : cR ((fun c1 => if w = 28 then kDie c1 else setH c1 (kh c1 + ktk v f q a)) (setH q (if ktk v f q a ≤ kh q - kb q (kn q - 1) then kh q - ktk v f q a else kb q (kn q - 1)))) (K.1, nI ((if ktk v f q a ≤ kh q - kb q (kn q - 1) then kh q - ktk v f q a else kb q (kn q - 1)) + ktk v f q a), K.2.2) := by
            show cR (if w = 28 then _ else _) _
            rw [if_neg hw28]
            exact ⟨hQ.1, rfl, fun b hb => hQ.2.2 b hb⟩
          refine e_zret F hr if1n hlk ⟨?_, W1, (K.1, nI ((if ktk v f q a ≤ kh q - kb q (kn q - 1) then kh q - ktk v f q a else kb q (kn q - 1)) + ktk v f q a), K.2.2), hH, fun _ => ⟨hcR, hrt1⟩, _, _, _, hrt1⟩ (by decide) (by decide) dX1_jump_113
          by_cases h9 : ktk v f q a ≤ kh q - kb q (kn q - 1) ∨ kdd q (kn q - 1) = true
          · rw [if_pos h9]; exact zbo.y ⟨by omega, h9⟩
          · rw [if_neg h9]; exact zbo.n (fun h8 => h9 h8.2)
        · refine r_aload_n F dX1_jump_93 rfl ?_
          refine c_Vv (ci := 2) F G (c_kabandon hw1 a81 hH (t := (kn q - 1)) (b := kb q (kn q - 1)) hQ.1 (by omega) hT.2.2.1) (cwV 0 F.2.2.2.2 (zgV km_X1_96 ki_X1_abandon ke_X1_X1_abandon kn_X1 ko_X1_abandon) rfl rfl rfl ⟨rfl, hd_yX1_abandon⟩ ⟨Nat.le_of_ble_eq_true rfl, Nat.le_of_ble_eq_true rfl⟩) rfl (by decide) A8 rfl rfl (Nat.le_of_ble_eq_true rfl) dX1_jump_94 ⟨Nat.le_of_ble_eq_true rfl, Nat.le_of_ble_eq_true rfl⟩ (fun S94 hH => ?_)
          refine r_goto (tgt := 111) F dX1_jump_97 (by decide) ?_
          refine r_iload F dX1_jump_111 rfl ?_
          have hw28 : w = 28 := by
            have c9 := c90
            have h36 := (rg_1209 hv (k := 60 * f + k) (by omega)).2
            rw [show (28 : Int32) = nI 28 from rfl, nI_eq (by omega) (by omega)] at c9
            omega
          have hcR : cR ((fun c1 => if w = 28 then kDie c1 else setH c1 (kh c1 + ktk v f q a)) (setH q (if ktk v f q a ≤ kh q - kb q (kn q - 1) then kh q - ktk v f q a else kb q (kn q - 1)))) (K.1, nI (kb q (kn q - 1)), K.2.2.1, K.2.2.2.1, K.2.2.2.2.1, K.2.2.2.2.2.1, upd K.2.2.2.2.2.2 (kn q - 1) 1) := by
            show cR (if w = 28 then _ else _) _
            rw [if_pos hw28]
            refine ⟨hQ.1, rfl, fun b hb => ?_⟩
            obtain ⟨g1, g2, g3, g4, g5⟩ := hQ.2.2 b hb
            refine ⟨g1, g2, g3, g4, ?_⟩
            show upd K.2.2.2.2.2.2 (kn q - 1) 1 b = (if va_up (kdd q) (kn q - 1) true b then 1 else 0)
            by_cases e : b = (kn q - 1)
            · subst e
              rw [va_up_self]
              exact if_pos rfl
            · rw [va_up_ne _ _ e]
              exact (if_neg e).trans g5
          refine e_zret F hr if1n hlk ⟨?_, W1, (K.1, nI (kb q (kn q - 1)), K.2.2.1, K.2.2.2.1, K.2.2.2.2.1, K.2.2.2.2.2.1, upd K.2.2.2.2.2.2 (kn q - 1) 1), hH, fun _ => ⟨hcR, hrt1⟩, _, _, _, hrt1⟩ (by decide) (by decide) dX1_jump_113
          by_cases h9 : ktk v f q a ≤ kh q - kb q (kn q - 1) ∨ kdd q (kn q - 1) = true
          · rw [if_pos h9]; exact zbo.y ⟨by omega, h9⟩
          · rw [if_neg h9]; exact zbo.n (fun h8 => h9 h8.2)
  · refine r_iconst (v := 0) F dX1_jump_16 (by decide) ?_
    exact e_zret F hr rfl hlk ⟨zbo.n (fun h => by have := (nI_subge (t := (kn q - 1)) (j := a) (by omega) (by omega)).mp (Int32.not_le.mp c13); omega), W, K, hH, fun h => absurd h (fun h => by have := (nI_subge (t := (kn q - 1)) (j := a) (by omega) (by omega)).mp (Int32.not_le.mp c13); omega), _, _, _, rtX.rf⟩ (by decide) (by decide) dX1_jump_17
