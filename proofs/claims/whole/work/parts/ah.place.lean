theorem wK_me (W : zO) : wK W (oi W 8 205, oi W 8 206, ori W 22, ori W 24, ori W 26, ori W 28, ori W 30) = W := by
  funext c
  unfold wK
  by_cases h : c = 8
  · rw [if_pos h, h]
    refine zE_ext rfl ?_ rfl
    show va_up (va_up (W 8).2.1 205 (oi W 8 205)) 206 (oi W 8 206) = (W 8).2.1
    funext j
    by_cases e : j = 206
    · rw [e, va_up_self]
    · rw [va_up_ne _ _ e]
      by_cases e2 : j = 205
      · rw [e2, va_up_self]
      · rw [va_up_ne _ _ e2]
  · rw [if_neg h]
    by_cases h1 : c = 22
    · rw [if_pos h1, h1]
    · rw [if_neg h1]
      by_cases h2 : c = 24
      · rw [if_pos h2, h2]
      · rw [if_neg h2]
        by_cases h3 : c = 26
        · rw [if_pos h3, h3]
        · rw [if_neg h3]
          by_cases h4 : c = 28
          · rw [if_pos h4, h4]
          · rw [if_neg h4]
            by_cases h5 : c = 30
            · rw [if_pos h5, h5]
            · rw [if_neg h5]
/-- what stands while linking goes on; W0: the world at its start -/
def lnQ (v : zV) (W0 W : zO) : Prop := Bld v W ∧ oa W 2 ∧ (∀ c, 60 ≤ c → oa W c → oa W0 c) ∧ (W 4 = W0 4 ∧ W 5 = W0 5 ∧ W 14 = W0 14 ∧ W 58 = W0 58) ∧ (vl W 32 (pS v 1202 6) (fun i => 200 + 12 * eN v 1202 8 i) ∧ vl W 34 (pS v 1203 6) (fun i => 800 + 4 * eN v 1203 4 i) ∧ vl W 36 (pS v 1204 6) (fun i => 900 + 2 * eN v 1204 16 i)) ∧ nmS v W 96 ∧ SrcOK v W ∧ (∃ n f, n ≤ 48 ∧ vl W 38 n f ∧ ∀ i, i < n → kd (f i) = 7) ∧ ∀ d, 44 ≤ d → d < 50 → W d = W0 d
theorem lnQ.same {v : zV} {W0 W W' : zO} (h : lnQ v W0 W) (hB : Bld v W') (h2 : oa W' 2) (hal : ∀ c, 60 ≤ c → oa W' c → oa W c) (hs : ∀ c, c = 4 ∨ c = 5 ∨ c = 14 ∨ c = 16 ∨ c = 18 ∨ c = 20 ∨ c = 58 ∨ (32 ≤ c ∧ c < 40) ∨ (44 ≤ c ∧ c < 50) ∨ (900 ≤ c ∧ c < 1092) → W' c = W c) : lnQ v W0 W' := by
  obtain ⟨q1, q2, q3, ⟨q4, q5, q6, q7⟩, ⟨q8, q9, q10⟩, q11, q12, ⟨n, f, q13, q14, q15⟩, q16⟩ := h
  refine ⟨hB, h2, fun c hc h9 => q3 c hc (hal c hc h9), ⟨(hs 4 (by omega)).trans q4, (hs 5 (by omega)).trans q5, (hs 14 (by omega)).trans q6, (hs 58 (by omega)).trans q7⟩, ⟨q8.same (hs _ (by omega)) (hs _ (by omega)), q9.same (hs _ (by omega)) (hs _ (by omega)), q10.same (hs _ (by omega)) (hs _ (by omega))⟩, ?_, fun y hy ht => ?_, ⟨n, f, q13, q14.same (hs _ (by omega)) (hs _ (by omega)), q15⟩, fun d h1 h2 => (hs d (by omega)).trans (q16 d h1 h2)⟩
  · unfold nmS orq
    rw [hs 16 (by omega), hs 18 (by omega), hs 20 (by omega)]
    exact q11
  · show (W' (cY y)).2.2.1 907 = _
    rw [hs (cY y) (by unfold cY; omega)]
    exact q12 y hy ht
/-- what the looks before fault w have left -/
def lnS (v : zV) (W : zO) (w : Nat) : Prop := (2 < w → ∀ f, f < 48 → f % 8 < cn v 1202 (f / 8) → xR v W f) ∧ (7 < w → adK v W ∧ oi W 10 307 = nI (aS v 24))
theorem xR.same {v : zV} {W W' : zO} {f : Nat} (h : xR v W f) (hs : ∀ c, c = 200 + 12 * f + 6 ∨ c = 200 + 12 * f + 8 ∨ c = 200 + 12 * f + 10 → W' c = W c) : xR v W' f := by
  obtain ⟨E, G, B, h1, h2, h3⟩ := h
  refine ⟨E, G, B, ?_, ?_, ?_⟩
  · show (W' (200 + 12 * f + 6)).2.2.2.2.2.1 = _
    rw [hs _ (by omega)]; exact h1
  · show (W' (200 + 12 * f + 8)).2.2.2.2.2.1 = _
    rw [hs _ (by omega)]; exact h2
  · show (W' (200 + 12 * f + 10)).2.2.2.2.2.1 = _
    rw [hs _ (by omega)]; exact h3
theorem nB.s {v : zV} {w : Nat} (h : nB v w) (h1 : w = 1 → nW v 1) (h2 : w = 2 → nW v 2) (h3 : w = 3 → nY v 3) (h4 : w = 4 → nY v 4) (h5 : w = 5 → nY v 5) (h6 : w = 6 → nW v 6) (h7 : w = 7 → aS v 24 ≤ 1024) : nB v (w + 1) := by
  obtain ⟨a1, a2, a3, a4, a5, a6, a7⟩ := h
  refine ⟨fun h => ?_, fun h => ?_, fun h => ?_, fun h => ?_, fun h => ?_, fun h => ?_, fun h => ?_⟩
  · by_cases e : w = 1; exact h1 e; exact a1 (by omega)
  · by_cases e : w = 2; exact h2 e; exact a2 (by omega)
  · by_cases e : w = 3; exact h3 e; exact a3 (by omega)
  · by_cases e : w = 4; exact h4 e; exact a4 (by omega)
  · by_cases e : w = 5; exact h5 e; exact a5 (by omega)
  · by_cases e : w = 6; exact h6 e; exact a6 (by omega)
  · by_cases e : w = 7; exact h7 e; exact a7 (by omega)
theorem lk.pl {v : zV} (hv : vRg v) {w pl : Nat} (h : lk v w pl) : pl < 10000 := by
  rcases h.2 with ⟨e, f, k, hf, hb, -, -, ep⟩ | ⟨e, y, hy, -, -, ep⟩ | ⟨e, -, ep⟩
  · rw [ep]
    have h60 := (rg_1208 hv hf).2
    have hk : k ≤ 60 := by
      unfold bW at hb
      by_cases e2 : w = 2
      · rw [if_pos e2] at hb
        have h9 := hb.2
        unfold wpl at h9
        split at h9
        · rename_i k9 hs
          cases h9
          have := (fnd_iff.mp hs).1
          omega
        · split at h9
          · cases h9; omega
          · split at h9
            · cases h9
            · cases h9; omega
      · rw [if_neg e2] at hb
        have := hb.2.1
        omega
    unfold plW
    omega
  · rw [ep]
    unfold plY
    omega
  · omega
set_option maxRecDepth 100000 in
set_option maxHeartbeats 4000000 in
theorem c_placeOf {l : Launch} {N0 t0 : Nat} {D : va_G} {cy : Nat → ClassId} {S : zS} {X : Nat → Prop} {S0 : zS} {ad : Nat → Nat} {W : zO} (hH : zH t0 X S0 ad W S) {v : zV} {W0 : zO} (hv : vRg v) (hA : vA v) (hD : vD v) (hO : cn v 1201 0 ≤ 6) (hQ : lnQ v W0 W) {w : Nat} (hw1 : 1 ≤ w) (hw7 : w ≤ 7) (hnB : nB v w) (hS9 : lnS v W w) : zMi l yX11_placeOf (zws yX11_placeOf cX11_placeOf 2 (some .int)) { frames := 7, cells := 0, slots := 0, locals := 158 } N0 t0 D cy S [.ref (ad 2), .int (nI w)] (fun r S' => ∃ W', zH t0 X S0 ad W' S' ∧ lnQ v W0 W' ∧ W' 2 = W 2 ∧ ((r = -1 ∧ nB v (w + 1) ∧ lnS v W' (w + 1)) ∨ ∃ pl, r = nI pl ∧ lk v w pl)) 0 0 := by
  refine zMi.of (cc := cX11_placeOf) (maxL := 2) (ret := (some .int)) (by decide) rfl (Nat.le_of_ble_eq_true rfl) ?_
  intro p e s m args below meth c F G hr hlk hnm
  obtain ⟨hB, a2, hal, hsm, ⟨hL1, hL3, hL4⟩, hN, hSr, h38, hby⟩ := id hQ
  have hw := hB.1
  have a6 : oa W 6 := hw.a a2 (id := 1101) (by decide) rfl
  have a8 : oa W 8 := hw.a a2 (id := 1102) (by decide) rfl
  have a10 : oa W 10 := hw.a a2 (id := 1103) (by decide) rfl
  have A2 : zA S (ad 2) 11 := hH.al a2 rfl rfl
  have A6 : zA S (ad 6) 6 := hH.al a6 rfl rfl
  have A8 : zA S (ad 8) 2 := hH.al a8 rfl rfl
  have A10 : zA S (ad 10) 3 := hH.al a10 rfl rfl
  have Q6 : zq S 1101 (ad 2) = some (ad 6) := hH.qS a2 rfl (by decide) (hw.q a2 (by decide) rfl) rfl
  have Q8 : zq S 1102 (ad 2) = some (ad 8) := hH.qS a2 rfl (by decide) (hw.q a2 (by decide) rfl) rfl
  have Q10 : zq S 1103 (ad 2) = some (ad 10) := hH.qS a2 rfl (by decide) (hw.q a2 (by decide) rfl) rfl
  have Q32 : zq S 300 (ad 10) = some (ad 32) := hH.qS a10 rfl (by decide) (hw.q a10 (by decide) rfl) rfl
  have Q36 : zq S 302 (ad 10) = some (ad 36) := hH.qS a10 rfl (by decide) (hw.q a10 (by decide) rfl) rfl
  refine r_iload_n F dX11_placeOf_0 rfl ?_
  rcases (show (w = 1) ∨ (w = 2) ∨ (w = 3) ∨ (w = 4) ∨ (w = 5) ∨ (w = 6) ∨ (w = 7) by omega) with w1 | w1 | w1 | w1 | w1 | w1 | w1
  · refine r_table (off := 39) (tgt := 40) F dX11_placeOf_1 ((show ∀ w : Nat, w < 8 → (w = 1) → (if (nI w).toInt < 1 ∨ 6 < (nI w).toInt then some (115 : Int) else (#[39, 47, 62, 77, 92, 107] : Array Int)[((nI w).toInt - 1).toNat]?) = some (39 : Int) from by decide) w (by omega) w1) (by decide) ?_
    refine r_aload_n F dX11_placeOf_40 rfl ?_
    refine r_getS (ci := 11) (k := 3) (id := 1103) (C := RX11) (T := TX11) (N := 8) F G rfl (by decide) (by decide) rfl (zinL inG11) (zin kf_X11_33) (fun _ h9 => h9) dX11_placeOf_41 A2 Q10 ?_
    refine c_Vi (ci := 3) F G (c_wrongNumber hH hB hv hA a10 rfl hL1) (cwV 0 F.2.2.2.2 (zgV km_X11_229 ki_X2_wrongNumber ke_X2_X2_wrongNumber kn_X2 ko_X2_wrongNumber) rfl rfl rfl ⟨rfl, hd_yX2_wrongNumber⟩ ⟨Nat.le_of_ble_eq_true rfl, Nat.le_of_ble_eq_true rfl⟩) rfl (by decide) A10 rfl rfl (Nat.le_of_ble_eq_true rfl) dX11_placeOf_44 ⟨Nat.le_of_ble_eq_true rfl, Nat.le_of_ble_eq_true rfl⟩ (fun r44 S44 h44 => ?_)
    obtain ⟨es, hq⟩ := h44
    have hs := es.symm
    subst hs
    refine e_iret F hr hlk ⟨W, hH, hQ, rfl, ?_⟩ (by decide) (by decide) dX11_placeOf_47
    rcases hq with ⟨e1, e2⟩ | ⟨f, k, h1, h2, h3, h4, h5⟩
    · exact Or.inl ⟨e1, hnB.s (fun _ => e2) (fun h9 => absurd h9 (by omega)) (fun h9 => absurd h9 (by omega)) (fun h9 => absurd h9 (by omega)) (fun h9 => absurd h9 (by omega)) (fun h9 => absurd h9 (by omega)) (fun h9 => absurd h9 (by omega)), ⟨fun h9 => absurd h9 (by omega), fun h9 => absurd h9 (by omega)⟩⟩
    · exact Or.inr ⟨plW f k, h5, by rw [w1]; exact ⟨by rw [← w1]; exact hnB, Or.inl ⟨by decide, f, k, h1, h2, h3, h4, rfl⟩⟩⟩
  · refine r_table (off := 47) (tgt := 48) F dX11_placeOf_1 ((show ∀ w : Nat, w < 8 → (w = 2) → (if (nI w).toInt < 1 ∨ 6 < (nI w).toInt then some (115 : Int) else (#[39, 47, 62, 77, 92, 107] : Array Int)[((nI w).toInt - 1).toNat]?) = some (47 : Int) from by decide) w (by omega) w1) (by decide) ?_
    refine r_aload_n F dX11_placeOf_48 rfl ?_
    refine r_getS (ci := 11) (k := 2) (id := 1102) (C := RX11) (T := TX11) (N := 8) F G rfl (by decide) (by decide) rfl (zinL inG11) (zin kf_X11_26) (fun _ h9 => h9) dX11_placeOf_49 A2 Q8 ?_
    refine r_aload_n F dX11_placeOf_52 rfl ?_
    refine r_getS (ci := 11) (k := 3) (id := 1103) (C := RX11) (T := TX11) (N := 8) F G rfl (by decide) (by decide) rfl (zinL inG11) (zin kf_X11_33) (fun _ h9 => h9) dX11_placeOf_53 A2 Q10 ?_
    refine r_getS (ci := 3) (k := 0) (id := 300) (C := RX2) (T := TX2) (N := 8) F G rfl (by decide) (by decide) rfl (zinL inG3) (zin kf_X11_179) (fun _ h9 => h9) dX11_placeOf_56 A10 Q32 ?_
    have hK := wK_me W
    generalize (oi W 8 205, oi W 8 206, ori W 22, ori W 24, ori W 26, ori W 28, ori W 30) = K at hK
    have hHK : zH t0 X S0 ad (wK W K) S := by rw [hK]; exact hH
    refine c_Vi (ci := 2) F G (c_wrongCode hw a8 hHK hv hB hA hD hO (hnB.1 (by omega)) hL1) (cwV 1 F.2.2.2.2 (zgV km_X11_232 ki_X1_wrongCode ke_X1_X1_wrongCode kn_X1 ko_X1_wrongCode) rfl rfl rfl ⟨rfl, hd_yX1_wrongCode⟩ ⟨Nat.le_of_ble_eq_true rfl, Nat.le_of_ble_eq_true rfl⟩) rfl (by decide) A8 rfl rfl (Nat.le_of_ble_eq_true rfl) dX11_placeOf_59 ⟨Nat.le_of_ble_eq_true rfl, Nat.le_of_ble_eq_true rfl⟩ (fun r59 S59 h59 => ?_)
    obtain ⟨W1, K1, hH1, hrt, hq⟩ := h59
    have hsK : ∀ c, c ≠ 8 ∧ c ≠ 22 ∧ c ≠ 24 ∧ c ≠ 26 ∧ c ≠ 28 ∧ c ≠ 30 → (∀ f, f < 48 → c ≠ 200 + 12 * f + 6 ∧ c ≠ 200 + 12 * f + 8 ∧ c ≠ 200 + 12 * f + 10) → wK W1 K1 c = W c := fun c h1 h2 => (wK_n h1).trans (hrt.1 c h2)
    have hB1 : Bld v (wK W1 K1) := (hrt.B hB hO).k hO
    have hQ1 : lnQ v W0 (wK W1 K1) := hQ.same hB1 (wK_a.mpr (hrt.oa.mpr a2)) (fun c hc h9 => hrt.oa.mp (wK_a.mp h9)) (fun c hc => hsK c (by omega) (fun f hf => by omega))
    refine e_iret F hr hlk ⟨wK W1 K1, hH1, hQ1, hsK 2 (by decide) (fun f hf => by omega), ?_⟩ (by decide) (by decide) dX11_placeOf_62
    rcases hq with ⟨e1, e2, e3⟩ | ⟨f, k, h1, h2, h3, h4, h5⟩
    · exact Or.inl ⟨e1, hnB.s (fun h9 => absurd h9 (by omega)) (fun _ => e2) (fun h9 => absurd h9 (by omega)) (fun h9 => absurd h9 (by omega)) (fun h9 => absurd h9 (by omega)) (fun h9 => absurd h9 (by omega)) (fun h9 => absurd h9 (by omega)), ⟨fun _ f hf ht => (e3 f hf ht).same (fun c hc => wK_n (by omega)), fun h9 => absurd h9 (by omega)⟩⟩
    · exact Or.inr ⟨plW f k, h5, by rw [w1]; exact ⟨by rw [← w1]; exact hnB, Or.inl ⟨by decide, f, k, h1, h2, h3, h4, rfl⟩⟩⟩
  · refine r_table (off := 62) (tgt := 63) F dX11_placeOf_1 ((show ∀ w : Nat, w < 8 → (w = 3) → (if (nI w).toInt < 1 ∨ 6 < (nI w).toInt then some (115 : Int) else (#[39, 47, 62, 77, 92, 107] : Array Int)[((nI w).toInt - 1).toNat]?) = some (62 : Int) from by decide) w (by omega) w1) (by decide) ?_
    refine r_aload_n F dX11_placeOf_63 rfl ?_
    refine r_getS (ci := 11) (k := 1) (id := 1101) (C := RX11) (T := TX11) (N := 8) F G rfl (by decide) (by decide) rfl (zinL inG11) (zin kf_X11_19) (fun _ h9 => h9) dX11_placeOf_64 A2 Q6 ?_
    refine r_aload_n F dX11_placeOf_67 rfl ?_
    refine r_getS (ci := 11) (k := 3) (id := 1103) (C := RX11) (T := TX11) (N := 8) F G rfl (by decide) (by decide) rfl (zinL inG11) (zin kf_X11_33) (fun _ h9 => h9) dX11_placeOf_68 A2 Q10 ?_
    refine r_getS (ci := 3) (k := 2) (id := 302) (C := RX2) (T := TX2) (N := 8) F G rfl (by decide) (by decide) rfl (zinL inG3) (zin kf_X11_157) (fun _ h9 => h9) dX11_placeOf_71 A10 Q36 ?_
    refine c_Vi (ci := 6) F G (c_doubled hH hw hv a6 (fun y hy ht => hB.2.2.2.2 y hy ht) hN rfl rfl hL4) (cwV 1 F.2.2.2.2 (zgV km_X11_236 ki_X5_doubled ke_X5_X5_doubled kn_X5 ko_X5_doubled) rfl rfl rfl ⟨rfl, hd_yX5_doubled⟩ ⟨Nat.le_of_ble_eq_true rfl, Nat.le_of_ble_eq_true rfl⟩) rfl (by decide) A6 rfl rfl (Nat.le_of_ble_eq_true rfl) dX11_placeOf_74 ⟨Nat.le_of_ble_eq_true rfl, Nat.le_of_ble_eq_true rfl⟩ (fun r74 S74 h74 => ?_)
    obtain ⟨es, hq⟩ := h74
    have hs := es.symm
    subst hs
    refine e_iret F hr hlk ⟨W, hH, hQ, rfl, ?_⟩ (by decide) (by decide) dX11_placeOf_77
    rcases hq with ⟨e1, e2⟩ | ⟨z, h1, h2, h3, h5⟩
    · exact Or.inl ⟨e1, hnB.s (fun h9 => absurd h9 (by omega)) (fun h9 => absurd h9 (by omega)) (fun _ => e2) (fun h9 => absurd h9 (by omega)) (fun h9 => absurd h9 (by omega)) (fun h9 => absurd h9 (by omega)) (fun h9 => absurd h9 (by omega)), ⟨fun h9 => hS9.1 (by omega), fun h9 => absurd h9 (by omega)⟩⟩
    · exact Or.inr ⟨plY z, h5, by rw [w1]; exact ⟨by rw [← w1]; exact hnB, Or.inr (Or.inl ⟨by decide, z, h1, h2, h3, rfl⟩)⟩⟩
  · refine r_table (off := 77) (tgt := 78) F dX11_placeOf_1 ((show ∀ w : Nat, w < 8 → (w = 4) → (if (nI w).toInt < 1 ∨ 6 < (nI w).toInt then some (115 : Int) else (#[39, 47, 62, 77, 92, 107] : Array Int)[((nI w).toInt - 1).toNat]?) = some (77 : Int) from by decide) w (by omega) w1) (by decide) ?_
    refine r_aload_n F dX11_placeOf_78 rfl ?_
    refine r_getS (ci := 11) (k := 1) (id := 1101) (C := RX11) (T := TX11) (N := 8) F G rfl (by decide) (by decide) rfl (zinL inG11) (zin kf_X11_19) (fun _ h9 => h9) dX11_placeOf_79 A2 Q6 ?_
    refine r_aload_n F dX11_placeOf_82 rfl ?_
    refine r_getS (ci := 11) (k := 3) (id := 1103) (C := RX11) (T := TX11) (N := 8) F G rfl (by decide) (by decide) rfl (zinL inG11) (zin kf_X11_33) (fun _ h9 => h9) dX11_placeOf_83 A2 Q10 ?_
    refine r_getS (ci := 3) (k := 2) (id := 302) (C := RX2) (T := TX2) (N := 8) F G rfl (by decide) (by decide) rfl (zinL inG3) (zin kf_X11_157) (fun _ h9 => h9) dX11_placeOf_86 A10 Q36 ?_
    refine c_Vi (ci := 6) F G (c_missing hH hw hv a6 (fun y hy ht => hB.2.2.2.2 y hy ht) hN rfl rfl hL4) (cwV 1 F.2.2.2.2 (zgV km_X11_239 ki_X5_missing ke_X5_X5_missing kn_X5 ko_X5_missing) rfl rfl rfl ⟨rfl, hd_yX5_missing⟩ ⟨Nat.le_of_ble_eq_true rfl, Nat.le_of_ble_eq_true rfl⟩) rfl (by decide) A6 rfl rfl (Nat.le_of_ble_eq_true rfl) dX11_placeOf_89 ⟨Nat.le_of_ble_eq_true rfl, Nat.le_of_ble_eq_true rfl⟩ (fun r89 S89 h89 => ?_)
    obtain ⟨es, hq⟩ := h89
    have hs := es.symm
    subst hs
    refine e_iret F hr hlk ⟨W, hH, hQ, rfl, ?_⟩ (by decide) (by decide) dX11_placeOf_92
    rcases hq with ⟨e1, e2⟩ | ⟨z, h1, h2, h3, h5⟩
    · exact Or.inl ⟨e1, hnB.s (fun h9 => absurd h9 (by omega)) (fun h9 => absurd h9 (by omega)) (fun h9 => absurd h9 (by omega)) (fun _ => e2) (fun h9 => absurd h9 (by omega)) (fun h9 => absurd h9 (by omega)) (fun h9 => absurd h9 (by omega)), ⟨fun h9 => hS9.1 (by omega), fun h9 => absurd h9 (by omega)⟩⟩
    · exact Or.inr ⟨plY z, h5, by rw [w1]; exact ⟨by rw [← w1]; exact hnB, Or.inr (Or.inl ⟨by decide, z, h1, h2, h3, rfl⟩)⟩⟩
  · refine r_table (off := 92) (tgt := 93) F dX11_placeOf_1 ((show ∀ w : Nat, w < 8 → (w = 5) → (if (nI w).toInt < 1 ∨ 6 < (nI w).toInt then some (115 : Int) else (#[39, 47, 62, 77, 92, 107] : Array Int)[((nI w).toInt - 1).toNat]?) = some (92 : Int) from by decide) w (by omega) w1) (by decide) ?_
    refine r_aload_n F dX11_placeOf_93 rfl ?_
    refine r_getS (ci := 11) (k := 1) (id := 1101) (C := RX11) (T := TX11) (N := 8) F G rfl (by decide) (by decide) rfl (zinL inG11) (zin kf_X11_19) (fun _ h9 => h9) dX11_placeOf_94 A2 Q6 ?_
    refine r_aload_n F dX11_placeOf_97 rfl ?_
    refine r_getS (ci := 11) (k := 3) (id := 1103) (C := RX11) (T := TX11) (N := 8) F G rfl (by decide) (by decide) rfl (zinL inG11) (zin kf_X11_33) (fun _ h9 => h9) dX11_placeOf_98 A2 Q10 ?_
    refine r_getS (ci := 3) (k := 2) (id := 302) (C := RX2) (T := TX2) (N := 8) F G rfl (by decide) (by decide) rfl (zinL inG3) (zin kf_X11_157) (fun _ h9 => h9) dX11_placeOf_101 A10 Q36 ?_
    refine c_Vi (ci := 6) F G (c_otherKind hH hw hv a6 (fun y hy ht => hB.2.2.2.2 y hy ht) hN rfl rfl hL4) (cwV 1 F.2.2.2.2 (zgV km_X11_242 ki_X5_otherKind ke_X5_X5_otherKind kn_X5 ko_X5_otherKind) rfl rfl rfl ⟨rfl, hd_yX5_otherKind⟩ ⟨Nat.le_of_ble_eq_true rfl, Nat.le_of_ble_eq_true rfl⟩) rfl (by decide) A6 rfl rfl (Nat.le_of_ble_eq_true rfl) dX11_placeOf_104 ⟨Nat.le_of_ble_eq_true rfl, Nat.le_of_ble_eq_true rfl⟩ (fun r104 S104 h104 => ?_)
    obtain ⟨es, hq⟩ := h104
    have hs := es.symm
    subst hs
    refine e_iret F hr hlk ⟨W, hH, hQ, rfl, ?_⟩ (by decide) (by decide) dX11_placeOf_107
    rcases hq with ⟨e1, e2⟩ | ⟨z, h1, h2, h3, h5⟩
    · exact Or.inl ⟨e1, hnB.s (fun h9 => absurd h9 (by omega)) (fun h9 => absurd h9 (by omega)) (fun h9 => absurd h9 (by omega)) (fun h9 => absurd h9 (by omega)) (fun _ => e2) (fun h9 => absurd h9 (by omega)) (fun h9 => absurd h9 (by omega)), ⟨fun h9 => hS9.1 (by omega), fun h9 => absurd h9 (by omega)⟩⟩
    · exact Or.inr ⟨plY z, h5, by rw [w1]; exact ⟨by rw [← w1]; exact hnB, Or.inr (Or.inl ⟨by decide, z, h1, h2, h3, rfl⟩)⟩⟩
  · refine r_table (off := 107) (tgt := 108) F dX11_placeOf_1 ((show ∀ w : Nat, w < 8 → (w = 6) → (if (nI w).toInt < 1 ∨ 6 < (nI w).toInt then some (115 : Int) else (#[39, 47, 62, 77, 92, 107] : Array Int)[((nI w).toInt - 1).toNat]?) = some (107 : Int) from by decide) w (by omega) w1) (by decide) ?_
    refine r_aload_n F dX11_placeOf_108 rfl ?_
    refine r_getS (ci := 11) (k := 3) (id := 1103) (C := RX11) (T := TX11) (N := 8) F G rfl (by decide) (by decide) rfl (zinL inG11) (zin kf_X11_33) (fun _ h9 => h9) dX11_placeOf_109 A2 Q10 ?_
    refine c_Vi (ci := 3) F G (c_otherSignature hH hB hv hA a10 rfl hL1 hD (hnB.1 (by omega)) (fun y hy ht hk0 z hz => (kEq.of (fun z hz h9 => hnB.2.2.2.2.1 (by omega) z hz h9) y hy ht z hz).trans hk0) hSr) (cwV 0 F.2.2.2.2 (zgV km_X11_245 ki_X2_otherSignature ke_X2_X2_otherSignature kn_X2 ko_X2_otherSignature) rfl rfl rfl ⟨rfl, hd_yX2_otherSignature⟩ ⟨Nat.le_of_ble_eq_true rfl, Nat.le_of_ble_eq_true rfl⟩) rfl (by decide) A10 rfl rfl (Nat.le_of_ble_eq_true rfl) dX11_placeOf_112 ⟨Nat.le_of_ble_eq_true rfl, Nat.le_of_ble_eq_true rfl⟩ (fun r112 S112 h112 => ?_)
    obtain ⟨es, hq⟩ := h112
    have hs := es.symm
    subst hs
    refine e_iret F hr hlk ⟨W, hH, hQ, rfl, ?_⟩ (by decide) (by decide) dX11_placeOf_115
    rcases hq with ⟨e1, e2⟩ | ⟨f, k, h1, h2, h3, h4, h5⟩
    · exact Or.inl ⟨e1, hnB.s (fun h9 => absurd h9 (by omega)) (fun h9 => absurd h9 (by omega)) (fun h9 => absurd h9 (by omega)) (fun h9 => absurd h9 (by omega)) (fun h9 => absurd h9 (by omega)) (fun _ => e2) (fun h9 => absurd h9 (by omega)), ⟨fun h9 => hS9.1 (by omega), fun h9 => absurd h9 (by omega)⟩⟩
    · exact Or.inr ⟨plW f k, h5, by rw [w1]; exact ⟨by rw [← w1]; exact hnB, Or.inl ⟨by decide, f, k, h1, h2, h3, h4, rfl⟩⟩⟩
  · refine r_table (off := 115) (tgt := 116) F dX11_placeOf_1 ((show ∀ w : Nat, w < 8 → (w = 7) → (if (nI w).toInt < 1 ∨ 6 < (nI w).toInt then some (115 : Int) else (#[39, 47, 62, 77, 92, 107] : Array Int)[((nI w).toInt - 1).toNat]?) = some (115 : Int) from by decide) w (by omega) w1) (by decide) ?_
    refine r_aload_n F dX11_placeOf_116 rfl ?_
    refine r_getS (ci := 11) (k := 3) (id := 1103) (C := RX11) (T := TX11) (N := 8) F G rfl (by decide) (by decide) rfl (zinL inG11) (zin kf_X11_33) (fun _ h9 => h9) dX11_placeOf_117 A2 Q10 ?_
    refine c_Vv (ci := 3) F G (c_layOut hH hB hv hO a10 hL3) (cwV 0 F.2.2.2.2 (zgV km_X11_248 ki_X2_layOut ke_X2_X2_layOut kn_X2 ko_X2_layOut) rfl rfl rfl ⟨rfl, hd_yX2_layOut⟩ ⟨Nat.le_of_ble_eq_true rfl, Nat.le_of_ble_eq_true rfl⟩) rfl (by decide) A10 rfl rfl (Nat.le_of_ble_eq_true rfl) dX11_placeOf_120 ⟨Nat.le_of_ble_eq_true rfl, Nat.le_of_ble_eq_true rfl⟩ (fun S120 h120 => ?_)
    obtain ⟨W1, hH1, hsg, e307, hadr⟩ := h120
    have hs1 : ∀ c, c ≠ 10 → (∀ g, g < 24 → c ≠ 800 + 4 * g) → W1 c = W c := fun c h1 h2 => (hsg c).2.2.2 h1 h2
    have hB1 := hsg.B hB hO
    have a21 : oa W1 2 := hsg.oa.mpr a2
    have a101 : oa W1 10 := hsg.oa.mpr a10
    have hQ1 : lnQ v W0 W1 := hQ.same hB1 a21 (fun c hc h9 => hsg.oa.mp h9) (fun c hc => hs1 c (by omega) (fun g hg => by omega))
    clear A2 A10 Q10
    have A2 : zA S120 (ad 2) 11 := hH1.al a21 rfl rfl
    have A10 : zA S120 (ad 10) 3 := hH1.al a101 rfl rfl
    have Q10 : zq S120 1103 (ad 2) = some (ad 10) := hH1.qS a21 rfl (by decide) (hB1.1.q a21 (by decide) rfl) rfl
    have I7 : zi S120 307 (ad 10) = nI (aS v 24) := (hH1.i a101 rfl (by decide)).trans e307
    have ha24 := aS_le hv 24 (Nat.le_refl _)
    refine r_aload_n F dX11_placeOf_123 rfl ?_
    refine r_getS (ci := 11) (k := 3) (id := 1103) (C := RX11) (T := TX11) (N := 8) F G rfl (by decide) (by decide) rfl (zinL inG11) (zin kf_X11_33) (fun _ h9 => h9) dX11_placeOf_124 A2 Q10 ?_
    refine r_getiS (ci := 3) (k := 7) (id := 307) (C := RX2) (T := TX2) (N := 8) F G rfl (by decide) (by decide) rfl (zinL inG3) (zin kf_X11_186) (fun _ h9 => h9) dX11_placeOf_127 A10 I7 ?_
    refine r_sipush (v := 1024) F dX11_placeOf_130 (by decide) ?_
    rw [show (1024 : Int32) = nI 1024 from rfl]
    refine r_icmp_le (tgt := 140) F dX11_placeOf_133 (by decide) (fun c133 => ?_) (fun c133 => ?_)
    · refine r_iconst (v := -1) F dX11_placeOf_140 (by decide) ?_
      have hle : aS v 24 ≤ 1024 := by have c9 := c133; rw [nI_leI (by omega) (by omega)] at c9; exact c9
      exact e_iret F hr hlk ⟨W1, hH1, hQ1, hs1 2 (by decide) (fun g hg => by omega), Or.inl ⟨rfl, hnB.s (fun h9 => absurd h9 (by omega)) (fun h9 => absurd h9 (by omega)) (fun h9 => absurd h9 (by omega)) (fun h9 => absurd h9 (by omega)) (fun h9 => absurd h9 (by omega)) (fun h9 => absurd h9 (by omega)) (fun _ => hle), ⟨fun _ f hf ht => (hS9.1 (by omega) f hf ht).same (fun c hc => hs1 c (by omega) (fun g hg => by omega)), fun _ => ⟨hadr, e307⟩⟩⟩⟩ (by decide) (by decide) dX11_placeOf_141
    · refine r_iconst (v := 0) F dX11_placeOf_136 (by decide) ?_
      refine r_goto (tgt := 141) F dX11_placeOf_137 (by decide) ?_
      have hgt : 1024 < aS v 24 := by have c9 := c133; rw [nI_leI (by omega) (by omega)] at c9; omega
      exact e_iret F hr hlk ⟨W1, hH1, hQ1, hs1 2 (by decide) (fun g hg => by omega), Or.inr ⟨0, rfl, by rw [w1]; exact ⟨by rw [← w1]; exact hnB, Or.inr (Or.inr ⟨rfl, hgt, rfl⟩)⟩⟩⟩ (by decide) (by decide) dX11_placeOf_141
