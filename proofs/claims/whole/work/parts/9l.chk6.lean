/-- the rows of a routine behind its first words -/
def xE (v : zV) (f : Nat) (E : Nat → Int32) : Nat → Nat → Int32
  | 0 => E
  | k + 1 => match kRun v f k with
    | some q => sE (cn v 1209 (60 * f + k)) q k (xE v f E k)
    | none => xE v f E k
def xG (v : zV) (f : Nat) (G : Nat → Int32) : Nat → Nat → Int32
  | 0 => G
  | k + 1 => match kRun v f k with
    | some q => sG (cn v 1209 (60 * f + k)) (v.1 1210 (60 * f + k)).toNatClampNeg q k (xG v f G k)
    | none => xG v f G k
def xB (v : zV) (f : Nat) (B : Nat → Int32) : Nat → Nat → Int32
  | 0 => B
  | k + 1 => match kRun v f k with
    | some q => sB (cn v 1209 (60 * f + k)) q k (xB v f B k)
    | none => xB v f B k
theorem xE_s {v : zV} {f k : Nat} {E : Nat → Int32} {q : ckS} (h : kRun v f k = some q) : xE v f E (k + 1) = sE (cn v 1209 (60 * f + k)) q k (xE v f E k) := by
  show (match kRun v f k with | some q => sE (cn v 1209 (60 * f + k)) q k (xE v f E k) | none => xE v f E k) = _
  rw [h]
theorem xG_s {v : zV} {f k : Nat} {E : Nat → Int32} {q : ckS} (h : kRun v f k = some q) : xG v f E (k + 1) = sG (cn v 1209 (60 * f + k)) (v.1 1210 (60 * f + k)).toNatClampNeg q k (xG v f E k) := by
  show (match kRun v f k with | some q => sG (cn v 1209 (60 * f + k)) (v.1 1210 (60 * f + k)).toNatClampNeg q k (xG v f E k) | none => xG v f E k) = _
  rw [h]
theorem xB_s {v : zV} {f k : Nat} {E : Nat → Int32} {q : ckS} (h : kRun v f k = some q) : xB v f E (k + 1) = sB (cn v 1209 (60 * f + k)) q k (xB v f E k) := by
  show (match kRun v f k with | some q => sB (cn v 1209 (60 * f + k)) q k (xB v f E k) | none => xB v f E k) = _
  rw [h]
theorem cR.beg {v : zV} {f : Nat} {K : kS} {x : Int32} (hx : x = nI (cn v 1206 f)) : cR (kBeg v f) (nI 0, 0, upd K.2.2.1 0 (-1), upd K.2.2.2.1 0 (-1), upd K.2.2.2.2.1 0 0, upd K.2.2.2.2.2.1 0 x, upd K.2.2.2.2.2.2 0 0) := by
  refine ⟨rfl, rfl, fun b hb => ?_⟩
  have e : b = 0 := by have : b < 1 := hb; omega
  subst e
  exact ⟨rfl, rfl, rfl, hx, rfl⟩
theorem kI.beg {v : zV} {f : Nat} (hv : vRg v) (hf : f < 48) : kI 0 0 (kBeg v f) := ⟨Nat.le_refl _, Nat.le_refl _, Nat.le_refl _, fun b hb => ⟨(rg_1206 hv hf).2, fun h1 => by have : b < 1 := hb; omega⟩, fun b hb => Nat.le_refl _, Nat.le_refl _⟩
theorem kC_some {q : ckS} : (kC q).isSome = true ↔ (kh q - kb q (kn q - 1) = kl q (kn q - 1) ∨ (kdd q (kn q - 1) = true ∧ kh q - kb q (kn q - 1) < kl q (kn q - 1))) := by
  unfold kC
  by_cases h : kh q - kb q (kn q - 1) = kl q (kn q - 1) ∨ (kdd q (kn q - 1) = true ∧ kh q - kb q (kn q - 1) < kl q (kn q - 1))
  · rw [if_pos h]; exact ⟨fun _ => h, fun _ => rfl⟩
  · rw [if_neg h]; exact ⟨fun h9 => absurd h9 (by decide), fun h9 => absurd h9 h⟩
theorem rpR.rt {v : zV} {W W' : zO} {f : Nat} {E G B : Nat → Int32} (h : rpR v W f) (hrt : rtX W W' f E G B) : rpR v W' f := h.same (fun _ _ => rfl) (fun _ _ => ⟨rfl, rfl⟩) (fun k hk => hrt.1 _ (by omega) (by omega) (by omega))
set_option maxRecDepth 100000 in
set_option maxHeartbeats 4000000 in
theorem c_kfirst {l : Launch} {N0 t0 : Nat} {D : va_G} {cy : Nat → ClassId} {S : zS} {X : Nat → Prop} {S0 : zS} {ad : Nat → Nat} {W : zO} {K : kS} (hw : wr W) (a8 : oa W 8) (hH : zH t0 X S0 ad (wK W K) S) {v : zV} {f : Nat} (hv : vRg v) (hf : f < 48) (ht : f % 8 < cn v 1202 (f / 8)) (hB : Bld v W) (hA : vA v) (hD : vD v) (hO : cn v 1201 0 ≤ 6) (hgood : ∀ k, k < cn v 1208 f → gW v f (cn v 1209 (60 * f + k)) (v.1 1210 (60 * f + k))) : zMi l yX1_firstWrong (zws yX1_firstWrong cX1_firstWrong 3 (some .int)) { frames := 5, cells := 0, slots := 0, locals := 112 } N0 t0 D cy S [.ref (ad 8), .ref (ad (200 + 12 * f))] (fun r S' => r = enc (wpl v f) ∧ ∃ (W' : zO) (K' : kS), zH t0 X S0 ad (wK W' K') S' ∧ (wpl v f = none → rtX W W' f (xE v f (ori W (200 + 12 * f + 6)) (cn v 1208 f)) (xG v f (ori W (200 + 12 * f + 8)) (cn v 1208 f)) (xB v f (ori W (200 + 12 * f + 10)) (cn v 1208 f))) ∧ ∃ E2 G2 B2, rtX W W' f E2 G2 B2) 0 0 := by
  refine zMi.of (cc := cX1_firstWrong) (maxL := 3) (ret := (some .int)) (by decide) rfl (Nat.le_of_ble_eq_true rfl) ?_
  intro p e s m args below meth c F G hr hlk hnm
  have hkr := kd_r f hf
  have hR := hB.2.2.1 f hf ht
  have hra := hR.1
  have hres := rg_1206 hv (k := f) hf
  have hlen := rg_1208 hv (k := f) hf
  have hlen2 := hlen.2
  have a8k : oa (wK W K) 8 := wK_a.mpr a8
  have A8 : zA S (ad 8) 2 := hH.al a8k rfl rfl
  have JO : zi S 205 (ad 8) = (K).1 := hH.i a8k rfl (by decide)
  have IH : zi S 206 (ad 8) = (K).2.1 := hH.i a8k rfl (by decide)
  have Q22 : zq S 200 (ad 8) = some (ad 22) := hH.qS a8k rfl (by decide) ((wK_wr hw).q a8k (by decide) rfl) rfl
  have a22 : oa (wK W K) 22 := (wK_wr hw).a a8k (id := 200) (by decide) rfl
  have n22 : onn (wK W K) 22 = 61 := (wK_wr hw).n a8k (id := 200) (by decide) rfl (by decide)
  have Q24 : zq S 201 (ad 8) = some (ad 24) := hH.qS a8k rfl (by decide) ((wK_wr hw).q a8k (by decide) rfl) rfl
  have a24 : oa (wK W K) 24 := (wK_wr hw).a a8k (id := 201) (by decide) rfl
  have n24 : onn (wK W K) 24 = 61 := (wK_wr hw).n a8k (id := 201) (by decide) rfl (by decide)
  have Q26 : zq S 202 (ad 8) = some (ad 26) := hH.qS a8k rfl (by decide) ((wK_wr hw).q a8k (by decide) rfl) rfl
  have a26 : oa (wK W K) 26 := (wK_wr hw).a a8k (id := 202) (by decide) rfl
  have n26 : onn (wK W K) 26 = 61 := (wK_wr hw).n a8k (id := 202) (by decide) rfl (by decide)
  have Q28 : zq S 203 (ad 8) = some (ad 28) := hH.qS a8k rfl (by decide) ((wK_wr hw).q a8k (by decide) rfl) rfl
  have a28 : oa (wK W K) 28 := (wK_wr hw).a a8k (id := 203) (by decide) rfl
  have n28 : onn (wK W K) 28 = 61 := (wK_wr hw).n a8k (id := 203) (by decide) rfl (by decide)
  have Q30 : zq S 204 (ad 8) = some (ad 30) := hH.qS a8k rfl (by decide) ((wK_wr hw).q a8k (by decide) rfl) rfl
  have a30 : oa (wK W K) 30 := (wK_wr hw).a a8k (id := 204) (by decide) rfl
  have n30 : onn (wK W K) 30 = 61 := (wK_wr hw).n a8k (id := 204) (by decide) rfl (by decide)
  have R0 : zA S (ad (200 + 12 * f)) 7 := hH.al (wK_a.mpr hR.1) rfl hkr.1
  refine r_aload_n F dX1_firstWrong_0 rfl ?_
  refine r_iconst (v := -1) F dX1_firstWrong_1 (by decide) ?_
  refine r_puti (ci := 2) (k := 5) (id := 205) (C := RX1) (T := TX1) (N := 7) (ty := .int) (ty0 := tyX1) F G rfl (by decide) (by decide) rfl (zinL inG2) (zin kf_X1_48) (fun _ h9 => h9) tyX1_ok nmX1 rfl pd2_5 rfl rfl dX1_firstWrong_2 A8 ?_
  refine zgen (P := zH t0 X S0 ad (wK W (-1, K.2))) (by rw [← wK_o]; exact hH.pi a8k rfl rfl (by decide) _) (fun S hH => ?_)
  clear A8 JO IH Q22 Q24 Q26 Q28 Q30
  clear R0
  have a8k : oa (wK W (-1, K.2)) 8 := wK_a.mpr a8
  have A8 : zA S (ad 8) 2 := hH.al a8k rfl rfl
  have JO : zi S 205 (ad 8) = ((-1, K.2)).1 := hH.i a8k rfl (by decide)
  have IH : zi S 206 (ad 8) = ((-1, K.2)).2.1 := hH.i a8k rfl (by decide)
  have Q22 : zq S 200 (ad 8) = some (ad 22) := hH.qS a8k rfl (by decide) ((wK_wr hw).q a8k (by decide) rfl) rfl
  have a22 : oa (wK W (-1, K.2)) 22 := (wK_wr hw).a a8k (id := 200) (by decide) rfl
  have n22 : onn (wK W (-1, K.2)) 22 = 61 := (wK_wr hw).n a8k (id := 200) (by decide) rfl (by decide)
  have Q24 : zq S 201 (ad 8) = some (ad 24) := hH.qS a8k rfl (by decide) ((wK_wr hw).q a8k (by decide) rfl) rfl
  have a24 : oa (wK W (-1, K.2)) 24 := (wK_wr hw).a a8k (id := 201) (by decide) rfl
  have n24 : onn (wK W (-1, K.2)) 24 = 61 := (wK_wr hw).n a8k (id := 201) (by decide) rfl (by decide)
  have Q26 : zq S 202 (ad 8) = some (ad 26) := hH.qS a8k rfl (by decide) ((wK_wr hw).q a8k (by decide) rfl) rfl
  have a26 : oa (wK W (-1, K.2)) 26 := (wK_wr hw).a a8k (id := 202) (by decide) rfl
  have n26 : onn (wK W (-1, K.2)) 26 = 61 := (wK_wr hw).n a8k (id := 202) (by decide) rfl (by decide)
  have Q28 : zq S 203 (ad 8) = some (ad 28) := hH.qS a8k rfl (by decide) ((wK_wr hw).q a8k (by decide) rfl) rfl
  have a28 : oa (wK W (-1, K.2)) 28 := (wK_wr hw).a a8k (id := 203) (by decide) rfl
  have n28 : onn (wK W (-1, K.2)) 28 = 61 := (wK_wr hw).n a8k (id := 203) (by decide) rfl (by decide)
  have Q30 : zq S 204 (ad 8) = some (ad 30) := hH.qS a8k rfl (by decide) ((wK_wr hw).q a8k (by decide) rfl) rfl
  have a30 : oa (wK W (-1, K.2)) 30 := (wK_wr hw).a a8k (id := 204) (by decide) rfl
  have n30 : onn (wK W (-1, K.2)) 30 = 61 := (wK_wr hw).n a8k (id := 204) (by decide) rfl (by decide)
  refine r_aload_n F dX1_firstWrong_5 rfl ?_
  refine r_iconst (v := 0) F dX1_firstWrong_6 (by decide) ?_
  refine r_puti (ci := 2) (k := 6) (id := 206) (C := RX1) (T := TX1) (N := 7) (ty := .int) (ty0 := tyX1) F G rfl (by decide) (by decide) rfl (zinL inG2) (zin kf_X1_51) (fun _ h9 => h9) tyX1_ok nmX1 rfl pd2_6 rfl rfl dX1_firstWrong_7 A8 ?_
  refine zgen (P := zH t0 X S0 ad (wK W (-1, 0, K.2.2))) (by rw [← wK_h (K := (-1, K.2))]; exact hH.pi a8k rfl rfl (by decide) _) (fun S hH => ?_)
  clear A8 JO IH Q22 Q24 Q26 Q28 Q30
  have a8k : oa (wK W (-1, 0, K.2.2)) 8 := wK_a.mpr a8
  have A8 : zA S (ad 8) 2 := hH.al a8k rfl rfl
  have JO : zi S 205 (ad 8) = ((-1, 0, K.2.2)).1 := hH.i a8k rfl (by decide)
  have IH : zi S 206 (ad 8) = ((-1, 0, K.2.2)).2.1 := hH.i a8k rfl (by decide)
  have Q22 : zq S 200 (ad 8) = some (ad 22) := hH.qS a8k rfl (by decide) ((wK_wr hw).q a8k (by decide) rfl) rfl
  have a22 : oa (wK W (-1, 0, K.2.2)) 22 := (wK_wr hw).a a8k (id := 200) (by decide) rfl
  have n22 : onn (wK W (-1, 0, K.2.2)) 22 = 61 := (wK_wr hw).n a8k (id := 200) (by decide) rfl (by decide)
  have Q24 : zq S 201 (ad 8) = some (ad 24) := hH.qS a8k rfl (by decide) ((wK_wr hw).q a8k (by decide) rfl) rfl
  have a24 : oa (wK W (-1, 0, K.2.2)) 24 := (wK_wr hw).a a8k (id := 201) (by decide) rfl
  have n24 : onn (wK W (-1, 0, K.2.2)) 24 = 61 := (wK_wr hw).n a8k (id := 201) (by decide) rfl (by decide)
  have Q26 : zq S 202 (ad 8) = some (ad 26) := hH.qS a8k rfl (by decide) ((wK_wr hw).q a8k (by decide) rfl) rfl
  have a26 : oa (wK W (-1, 0, K.2.2)) 26 := (wK_wr hw).a a8k (id := 202) (by decide) rfl
  have n26 : onn (wK W (-1, 0, K.2.2)) 26 = 61 := (wK_wr hw).n a8k (id := 202) (by decide) rfl (by decide)
  have Q28 : zq S 203 (ad 8) = some (ad 28) := hH.qS a8k rfl (by decide) ((wK_wr hw).q a8k (by decide) rfl) rfl
  have a28 : oa (wK W (-1, 0, K.2.2)) 28 := (wK_wr hw).a a8k (id := 203) (by decide) rfl
  have n28 : onn (wK W (-1, 0, K.2.2)) 28 = 61 := (wK_wr hw).n a8k (id := 203) (by decide) rfl (by decide)
  have Q30 : zq S 204 (ad 8) = some (ad 30) := hH.qS a8k rfl (by decide) ((wK_wr hw).q a8k (by decide) rfl) rfl
  have a30 : oa (wK W (-1, 0, K.2.2)) 30 := (wK_wr hw).a a8k (id := 204) (by decide) rfl
  have n30 : onn (wK W (-1, 0, K.2.2)) 30 = 61 := (wK_wr hw).n a8k (id := 204) (by decide) rfl (by decide)
  have R0 : zA S (ad (200 + 12 * f)) 7 := hH.al (wK_a.mpr hra) rfl hkr.1
  have Ires : zi S 703 (ad (200 + 12 * f)) = nI (cn v 1206 f) := (hH.i (wK_a.mpr hra) rfl (by rw [hkr.1]; decide)).trans (by show (wK W (-1, 0, K.2.2) (200 + 12 * f)).2.1 703 = _; rw [wK_n (c := 200 + 12 * f) (rcell (k := 0) (by omega))]; exact hR.2.2.2.2.1.trans hres.1)
  refine r_aload_n F dX1_firstWrong_10 rfl ?_
  refine r_iconst (v := -1) F dX1_firstWrong_11 (by decide) ?_
  refine r_aload_n F dX1_firstWrong_12 rfl ?_
  refine r_getiS (ci := 7) (k := 3) (id := 703) (C := RX6) (T := TX6) (N := 13) F G rfl (by decide) (by decide) rfl (zinL inG7) (zin kf_X1_54) (fun _ h9 => h9) dX1_firstWrong_13 R0 Ires ?_
  refine c_Vv (ci := 2) F G (c_kbegin hw a8 hH (t := 0) (show (-1 : Int32) + 1 = nI 0 by decide) (by omega)) (cwV 2 F.2.2.2.2 (zgV km_X1_57 ki_X1_begin ke_X1_X1_begin kn_X1 ko_X1_begin) rfl rfl rfl ⟨rfl, hd_yX1_begin⟩ ⟨Nat.le_of_ble_eq_true rfl, Nat.le_of_ble_eq_true rfl⟩) rfl (by decide) A8 rfl rfl (Nat.le_of_ble_eq_true rfl) dX1_firstWrong_16 ⟨Nat.le_of_ble_eq_true rfl, Nat.le_of_ble_eq_true rfl⟩ (fun S16 h16 => ?_)
  have hH9 : zH t0 X S0 ad (wK W (nI 0, 0, upd K.2.2.1 0 (-1), upd K.2.2.2.1 0 (-1), upd K.2.2.2.2.1 0 0, upd K.2.2.2.2.2.1 0 (nI (cn v 1206 f)), upd K.2.2.2.2.2.2 0 0)) S16 := h16
  clear h16 hH
  have hH := hH9
  clear hH9 Ires
  refine r_iconst (v := 0) F dX1_firstWrong_19 (by decide) ?_
  refine r_istore_n F dX1_firstWrong_20 (by decide) ?_
  refine z_loop (fun n2 S9 lv => ∃ (k : Nat) (q : ckS) (W1 : zO) (K1 : kS), k + n2 = (cn v 1208 f) ∧ kRun v f k = some q ∧ cR q K1 ∧ kI k (2 * k) q ∧ kEl q k ∧ rtX W W1 f (xE v f (ori W (200 + 12 * f + 6)) k) (xG v f (ori W (200 + 12 * f + 8)) k) (xB v f (ori W (200 + 12 * f + 10)) k) ∧ zH t0 X S0 ad (wK W1 K1) S9 ∧ lv = [(2, .int (nI k)), (0, .ref (ad 8)), (1, .ref (ad (200 + 12 * f)))]) (cn v 1208 f) ?_ ⟨0, kBeg v f, W, _, by omega, rfl, cR.beg rfl, kI.beg hv hf, fun b hb z hz => (by cases hz), rtX.rf, hH, rfl⟩
  clear hH A8 JO IH Q22 Q24 Q26 Q28 Q30 R0
  rintro n2 S lv ⟨k, q, W1, K1, hn2, hrun, hQ, hI, hEl, hrt1, hH, rfl⟩ ih
  have hw1 := hrt1.wr hw
  have a81 := hrt1.oa.mpr a8
  have hra1 := hrt1.oa.mpr hR.1
  have hR1 := hR.rt hrt1
  have hB1 := hB.rt hO hf hrt1
  have hn1 := hI.1
  have hn2q := hI.2.1
  have hhH := hI.2.2.1
  have hT := hQ.2.2 (kn q - 1) (by omega)
  have hl1 := (hI.2.2.2.1 (kn q - 1) (by omega)).1
  have hbT := hI.2.2.2.2.2
  have a8k : oa (wK W1 K1) 8 := wK_a.mpr a81
  have A8 : zA S (ad 8) 2 := hH.al a8k rfl rfl
  have JO : zi S 205 (ad 8) = (K1).1 := hH.i a8k rfl (by decide)
  have IH : zi S 206 (ad 8) = (K1).2.1 := hH.i a8k rfl (by decide)
  have Q22 : zq S 200 (ad 8) = some (ad 22) := hH.qS a8k rfl (by decide) ((wK_wr hw1).q a8k (by decide) rfl) rfl
  have a22 : oa (wK W1 K1) 22 := (wK_wr hw1).a a8k (id := 200) (by decide) rfl
  have n22 : onn (wK W1 K1) 22 = 61 := (wK_wr hw1).n a8k (id := 200) (by decide) rfl (by decide)
  have Q24 : zq S 201 (ad 8) = some (ad 24) := hH.qS a8k rfl (by decide) ((wK_wr hw1).q a8k (by decide) rfl) rfl
  have a24 : oa (wK W1 K1) 24 := (wK_wr hw1).a a8k (id := 201) (by decide) rfl
  have n24 : onn (wK W1 K1) 24 = 61 := (wK_wr hw1).n a8k (id := 201) (by decide) rfl (by decide)
  have Q26 : zq S 202 (ad 8) = some (ad 26) := hH.qS a8k rfl (by decide) ((wK_wr hw1).q a8k (by decide) rfl) rfl
  have a26 : oa (wK W1 K1) 26 := (wK_wr hw1).a a8k (id := 202) (by decide) rfl
  have n26 : onn (wK W1 K1) 26 = 61 := (wK_wr hw1).n a8k (id := 202) (by decide) rfl (by decide)
  have Q28 : zq S 203 (ad 8) = some (ad 28) := hH.qS a8k rfl (by decide) ((wK_wr hw1).q a8k (by decide) rfl) rfl
  have a28 : oa (wK W1 K1) 28 := (wK_wr hw1).a a8k (id := 203) (by decide) rfl
  have n28 : onn (wK W1 K1) 28 = 61 := (wK_wr hw1).n a8k (id := 203) (by decide) rfl (by decide)
  have Q30 : zq S 204 (ad 8) = some (ad 30) := hH.qS a8k rfl (by decide) ((wK_wr hw1).q a8k (by decide) rfl) rfl
  have a30 : oa (wK W1 K1) 30 := (wK_wr hw1).a a8k (id := 204) (by decide) rfl
  have n30 : onn (wK W1 K1) 30 = 61 := (wK_wr hw1).n a8k (id := 204) (by decide) rfl (by decide)
  have R0 : zA S (ad (200 + 12 * f)) 7 := hH.al (wK_a.mpr hra1) rfl hkr.1
  have Isz : zi S 710 (ad (200 + 12 * f)) = nI (cn v 1208 f) := (hH.i (wK_a.mpr hra1) rfl (by rw [hkr.1]; decide)).trans (by show (wK W1 K1 (200 + 12 * f)).2.1 710 = _; rw [wK_n (c := 200 + 12 * f) (rcell (k := 0) (by omega)), hrt1.1 _ (by omega) (by omega) (by omega)]; exact hR.2.2.2.2.2.2.1.trans hlen.1)
  rw [hQ.1] at JO
  refine r_iload_n F dX1_firstWrong_21 rfl ?_
  refine r_aload_n F dX1_firstWrong_22 rfl ?_
  refine r_getiS (ci := 7) (k := 10) (id := 710) (C := RX6) (T := TX6) (N := 13) F G rfl (by decide) (by decide) rfl (zinL inG7) (zin kf_X1_61) (fun _ h9 => h9) dX1_firstWrong_23 R0 Isz ?_
  refine r_icmp_ge (tgt := 46) F dX1_firstWrong_26 (by decide) (fun c26 => ?_) (fun c26 => ?_)
  · have hkn : k = cn v 1208 f := by rw [nI_leI (by omega) (by omega)] at c26; omega
    subst hkn
    have hwe := wpl_e hrun
    refine r_aload_n F dX1_firstWrong_46 rfl ?_
    refine r_getiS (ci := 2) (k := 5) (id := 205) (C := RX1) (T := TX1) (N := 7) F G rfl (by decide) (by decide) rfl (zinL inG2) (zin kf_X1_48) (fun _ h9 => h9) dX1_firstWrong_47 A8 JO ?_
    refine r_if_ne (tgt := 64) F dX1_firstWrong_50 (by decide) (fun c50 => ?_) (fun c50 => ?_)
    · refine r_aload_n F dX1_firstWrong_64 rfl ?_
      refine r_getiS (ci := 7) (k := 10) (id := 710) (C := RX6) (T := TX6) (N := 13) F G rfl (by decide) (by decide) rfl (zinL inG7) (zin kf_X1_61) (fun _ h9 => h9) dX1_firstWrong_65 R0 Isz ?_
      rw [if_neg (fun h9 => c50 (by rw [h9.1]; rfl))] at hwe
      exact e_iret F hr hlk ⟨by rw [hwe]; rfl, W1, _, hH, fun h9 => (by rw [hwe] at h9; cases h9), _, _, _, hrt1⟩ (by decide) (by decide) dX1_firstWrong_68
    · refine r_aload_n F dX1_firstWrong_53 rfl ?_
      refine c_Vi (ci := 2) F G (c_kcloses hw1 a81 hH (t := (kn q - 1)) (h := kh q) (b := kb q (kn q - 1)) (dd := kdd q (kn q - 1)) (w := kl q (kn q - 1)) hQ.1 (by omega) hQ.2.1 hT.2.2.1 hbT (by omega) hT.2.2.2.2 (by omega) hT.2.2.2.1) (cwV 0 F.2.2.2.2 (zgV km_X1_67 ki_X1_closes ke_X1_X1_closes kn_X1 ko_X1_closes) rfl rfl rfl ⟨rfl, hd_yX1_closes⟩ ⟨Nat.le_of_ble_eq_true rfl, Nat.le_of_ble_eq_true rfl⟩) rfl (by decide) A8 rfl rfl (Nat.le_of_ble_eq_true rfl) dX1_firstWrong_54 ⟨Nat.le_of_ble_eq_true rfl, Nat.le_of_ble_eq_true rfl⟩ (fun r54 S54 h54 => ?_)
      obtain ⟨e54, hH⟩ := h54
      subst e54
      clear R0 Isz
      have R0 : zA S54 (ad (200 + 12 * f)) 7 := hH.al (wK_a.mpr hra1) rfl hkr.1
      have Isz : zi S54 710 (ad (200 + 12 * f)) = nI (cn v 1208 f) := (hH.i (wK_a.mpr hra1) rfl (by rw [hkr.1]; decide)).trans (by show (wK W1 (K1.1, nI (kb q (kn q - 1)), K1.2.2) (200 + 12 * f)).2.1 710 = _; rw [wK_n (c := 200 + 12 * f) (rcell (k := 0) (by omega)), hrt1.1 _ (by omega) (by omega) (by omega)]; exact hR.2.2.2.2.2.2.1.trans hlen.1)
      refine r_if_eq (tgt := 64) F dX1_firstWrong_57 (by decide) (fun c57 => ?_) (fun c57 => ?_)
      · refine r_aload_n F dX1_firstWrong_64 rfl ?_
        refine r_getiS (ci := 7) (k := 10) (id := 710) (C := RX6) (T := TX6) (N := 13) F G rfl (by decide) (by decide) rfl (zinL inG7) (zin kf_X1_61) (fun _ h9 => h9) dX1_firstWrong_65 R0 Isz ?_
        rw [if_neg (fun h9 => if01 c57 (kC_some.mp h9.2))] at hwe
        exact e_iret F hr hlk ⟨by rw [hwe]; rfl, W1, _, hH, fun h9 => (by rw [hwe] at h9; cases h9), _, _, _, hrt1⟩ (by decide) (by decide) dX1_firstWrong_68
      · refine r_iconst (v := -1) F dX1_firstWrong_60 (by decide) ?_
        refine r_goto (tgt := 68) F dX1_firstWrong_61 (by decide) ?_
        rw [if_pos ⟨by have c9 := c50; rw [nl0, nI_eq (by omega) (by omega)] at c9; omega, kC_some.mpr (if10 c57)⟩] at hwe
        exact e_iret F hr hlk ⟨by rw [hwe]; rfl, W1, _, hH, fun h9 => hrt1, _, _, _, hrt1⟩ (by decide) (by decide) dX1_firstWrong_68
  · have hk : k < (cn v 1208 f) := by rw [nI_leI (by omega) (by omega)] at c26; omega
    have hk60 : k < 60 := by omega
    refine r_aload_n F dX1_firstWrong_29 rfl ?_
    refine r_aload_n F dX1_firstWrong_30 rfl ?_
    refine r_iload_n F dX1_firstWrong_31 rfl ?_
    refine c_Vi (ci := 2) F G (c_kword hw1 a81 hH hv hf hR1 hQ hI hk60 (by omega) hEl hB1 hA hD hO ht rfl rfl (hgood k hk)) (cwV 2 F.2.2.2.2 (zgV km_X1_63 ki_X1_wordFits ke_X1_X1_wordFits kn_X1 ko_X1_wordFits) rfl rfl rfl ⟨rfl, hd_yX1_wordFits⟩ ⟨Nat.le_of_ble_eq_true rfl, Nat.le_of_ble_eq_true rfl⟩) rfl (by decide) A8 rfl rfl (Nat.le_of_ble_eq_true rfl) dX1_firstWrong_32 ⟨Nat.le_of_ble_eq_true rfl, Nat.le_of_ble_eq_true rfl⟩ (fun r32 S32 h32 => ?_)
    obtain ⟨z32, W2, K2, hH, hc2, E2, G2, B2, hrt9⟩ := h32
    refine r_if_ne (tgt := 40) F dX1_firstWrong_35 (by decide) (fun c35 => ?_) (fun c35 => ?_)
    · obtain ⟨q', hq'⟩ := Option.isSome_iff_exists.mp (z32.t c35)
      obtain ⟨hQ2, hrt2⟩ := hc2 q' hq'
      rw [hrt1.E, hrt1.G, hrt1.B] at hrt2
      have hrt3 := hrt1.tr hrt2
      have hgk := hgood k hk
      have hp9 := pp_le hv hD (o := f / 8) (w := cn v 1209 (60 * f + k)) (a := v.1 1210 (60 * f + k)) (by omega) (Nat.lt_succ_of_le (rg_1209 hv (k := 60 * f + k) (by omega)).2) (fun h9 => by obtain ⟨j, q1, q2, _⟩ := hgk.2.2.2.2.1 (Or.inl h9); exact ⟨j, q2, q1⟩) (fun h9 => by obtain ⟨j, q1, q2⟩ := hgk.2.2.2.2.2.1 h9; exact ⟨j, q2, q1⟩)
      have hI2 := kSt_I hv hI hEl hp9.2 (fun h9 => by obtain ⟨j, q1, q2⟩ := hgk.2.2.1 h9; rw [q2, nI_clamp (by omega)]; exact q1) hq'
      refine r_iinc F dX1_firstWrong_40 rfl (by decide) ?_
      refine r_goto (tgt := 21) F dX1_firstWrong_43 (by decide) ?_
      exact ih (n2 - 1) _ _ (by omega) ⟨k + 1, q', W2, K2, by omega, kRun_s hrun hq', hQ2, hI2.1, hI2.2, by rw [xE_s hrun, xG_s hrun, xB_s hrun]; exact hrt3, hH, by rw [show nI k + Int32.ofInt 1 = nI (k + 1) from nI_add k 1]; rfl⟩
    · refine r_iload_n F dX1_firstWrong_38 rfl ?_
      have hnn : kSt v f k q = none := Option.not_isSome_iff_eq_none.mp (z32.f c35)
      have hwk := wpl_k hk hrun hnn
      exact e_iret F hr hlk ⟨by rw [hwk]; rfl, W2, K2, hH, fun h9 => (by rw [hwk] at h9; cases h9), _, _, _, hrt1.tr hrt9⟩ (by decide) (by decide) dX1_firstWrong_39
