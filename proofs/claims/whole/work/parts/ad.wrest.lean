section ZEQ
variable {p : Program} {l : Launch} {e : Env} {R : Room} {s : State} {m : MethodId} {args : Array Value} {below : List Frame} {meth : Method} {c : Code} {Q : State → Prop} {N0 : Nat} {D : va_G} {cy : Nat → ClassId} {nL pc cells slots : Nat} {S : zS} {lv : List (Nat × Value)} {st : List Value}
/-- the upper number is another's equal -/
theorem zeq {x y : Int32} (h : x = y) (k : zW p l e R s m args below meth c Q N0 D cy nL cells slots S lv pc (.int y :: st)) : zW p l e R s m args below meth c Q N0 D cy nL cells slots S lv pc (.int x :: st) := by
  rw [h]
  exact k
end ZEQ
set_option maxRecDepth 100000 in
set_option maxHeartbeats 4000000 in
theorem c_rest {l : Launch} {N0 t0 : Nat} {D : va_G} {cy : Nat → ClassId} {S : zS} {X : Nat → Prop} {S0 : zS} {ad : Nat → Nat} {W : zO} (hH : zH t0 X S0 ad W S) {v : zV} {Ts Ss : List Nat} (hLd : ldd v W Ts Ss) {Lm Ls Lb : List Int32} {km ks kb : Nat} (hM : bL W 44 Lm km) (hC : bL W 46 Ls ks) (hY : bL W 48 Lb kb) (hv : vRg v) (hA : vA v) (hD : vD v) (hK : kEq v) {f k : Nat} (hf : f < 48) (ht : f % 8 < cn v 1202 (f / 8)) (hkk : k < cn v 1208 f) {w : Nat} (hwe : cn v 1209 (60 * f + k) = w) {aa : Int32} (hae : v.1 1210 (60 * f + k) = aa) (hg : gW v f w aa) {t : Option Nat} (hte : fO v (16 * (f / 8) + aa.toNatClampNeg) = t) (hlim : Lb.length ≤ 39000) {d9 : Nat} (hde : aO v (16 * (f / 8) + aa.toNatClampNeg) = d9) (hnT : nD Ts 10) (hnS : nD Ss 48) (h32 : w = 32 → ∃ j, plc Ts (some aa.toNatClampNeg) = some j) : zMv l yX4_writeRest (zws yX4_writeRest cX4_writeRest 6 none) { frames := 6, cells := ((gk kb Lb.length ((wR v Ts Ss w aa t d9)).length) - kb), slots := 2 * (((gk kb Lb.length ((wR v Ts Ss w aa t d9)).length) - kb)), locals := 142 } N0 t0 D cy S [.ref (ad 12), .ref (ad 10), .ref (ad (200 + 12 * f)), .int (nI k)] (fun S' => yZ t0 X S0 ad W (Lm) (km) (Ls) (ks) (Lb ++ (wR v Ts Ss w aa t d9)) ((gk kb Lb.length ((wR v Ts Ss w aa t d9)).length)) S') (((gk kb Lb.length ((wR v Ts Ss w aa t d9)).length) - kb)) (2 * (((gk kb Lb.length ((wR v Ts Ss w aa t d9)).length) - kb))) := by
  refine zMv.of (cc := cX4_writeRest) (maxL := 6) (ret := none) (by decide) rfl (Nat.le_of_ble_eq_true rfl) ?_
  intro p e s m args below meth c F G hr hlk hnm
  have hw := hLd.1.1
  have a12 := hLd.2.2.2.2.2.2.2.2.2.1
  have a121 : ∀ {W1 : zO}, (∀ d, d < 44 ∨ 50 ≤ d → W1 d = W d) → oa W1 12 := fun {W1} kw => by show (W1 12).1; rw [kw 12 (by decide)]; exact a12
  have hw1 : ∀ {W1 : zO} {L1 L2 L3 : List Int32} {k1 k2 k3 : Nat}, (∀ d, d < 44 ∨ 50 ≤ d → W1 d = W d) → bL W1 44 L1 k1 → bL W1 46 L2 k2 → bL W1 48 L3 k3 → wr W1 := fun {W1} {_} {_} {_} {_} {_} {_} kw h1 h2 h3 => wr_y hw kw h1.2.1 h2.2.1 h3.2.1
  have hkd := kd_r f hf
  have h60 := (rg_1208 hv hf).2
  have hw36 : v.1 1209 (60 * f + k) = nI w ∧ w ≤ 35 := by
    have h9 := rg_1209 hv (k := 60 * f + k) (by omega)
    unfold ok1 at h9
    rw [hwe] at h9
    exact h9
  have w36 : w < 36 := by have h9 := hw36.2; omega
  have ka : ∀ d, d ≠ 45 → d ≠ 47 → d ≠ 49 → ad d = ad d := fun _ _ _ _ => rfl
  have kw : ∀ d, d < 44 ∨ 50 ≤ d → W d = W d := fun _ _ => rfl
  have FF := yF hw a12 hH ka kw hM hC hY
  replace hY : bL W 48 (Lb ++ ([] : List Int32)) (gk kb Lb.length (([] : List Int32)).length) := by rw [List.append_nil]; exact hY
  have hL1 := hLd.same kw hM hC hY
  have hR1 := hL1.1.2.2.1 f hf ht
  have eaf := ka (200 + 12 * f) (by omega) (by omega) (by omega)
  have A1 := hH.al hR1.1 eaf hkd.1
  have fbb : kb ≤ (gk kb Lb.length (([] : List Int32)).length) := (gk_le _ _ _)
  have ffb : (gk kb Lb.length (([] : List Int32)).length) ≤ (gk kb Lb.length ((wR v Ts Ss w aa t d9)).length) := (gk_mono _ (by first | omega | (simp only [List.length_append, List.length_cons, List.length_nil]; omega)))
  refine zwid (c2 := (((gk kb Lb.length (([] : List Int32)).length) - kb))) (s2 := 2 * (((gk kb Lb.length (([] : List Int32)).length) - kb))) (Nat.zero_le _) (Nat.zero_le _) ?_
  refine r_aload_n F dX4_writeRest_0 rfl ?_
  refine r_getS (ci := 7) (k := 6) (id := 706) (C := RX6) (T := TX6) (N := 13) F G rfl (by decide) (by decide) rfl (zinL inG7) (zin kf_X4_152) (fun _ h9 => h9) dX4_writeRest_1 A1 (show zq S 706 (ad (200 + 12 * f)) = some (ad (200 + 12 * f + 4)) from hH.qS hR1.1 eaf (by rw [hkd.1]; decide) (hL1.1.1.q hR1.1 (by decide) hkd.1) rfl) ?_
  refine r_iload_n F dX4_writeRest_4 rfl ?_
  refine v_iald F G hH (show oa W (200 + 12 * f + 4) from hL1.1.1.a hR1.1 (id := 706) (by decide) hkd.1) rfl hkd.2.2.1 (by rw [show onn W (200 + 12 * f + 4) = 60 from hL1.1.1.n hR1.1 (id := 706) (by decide) hkd.1 (by decide)]; omega) (by rw [show onn W (200 + 12 * f + 4) = 60 from hL1.1.1.n hR1.1 (id := 706) (by decide) hkd.1 (by decide)]; decide) dX4_writeRest_5 ?_
  rw [hR1.2.2.2.2.2.2.2.2 k (by omega), hae]
  refine r_istore F dX4_writeRest_6 (by decide) ?_
  refine r_aload_n F dX4_writeRest_8 rfl ?_
  refine r_getS (ci := 7) (k := 5) (id := 705) (C := RX6) (T := TX6) (N := 13) F G rfl (by decide) (by decide) rfl (zinL inG7) (zin kf_X4_140) (fun _ h9 => h9) dX4_writeRest_9 A1 (show zq S 705 (ad (200 + 12 * f)) = some (ad (200 + 12 * f + 2)) from hH.qS hR1.1 eaf (by rw [hkd.1]; decide) (hL1.1.1.q hR1.1 (by decide) hkd.1) rfl) ?_
  refine r_iload_n F dX4_writeRest_12 rfl ?_
  refine v_iald F G hH (show oa W (200 + 12 * f + 2) from hL1.1.1.a hR1.1 (id := 705) (by decide) hkd.1) rfl hkd.2.1 (by rw [show onn W (200 + 12 * f + 2) = 60 from hL1.1.1.n hR1.1 (id := 705) (by decide) hkd.1 (by decide)]; omega) (by rw [show onn W (200 + 12 * f + 2) = 60 from hL1.1.1.n hR1.1 (id := 705) (by decide) hkd.1 (by decide)]; decide) dX4_writeRest_13 ?_
  rw [hR1.2.2.2.2.2.2.2.1 k (by omega), hw36.1]
  rcases (show (w = 0) ∨ ((1 ≤ w ∧ w ≤ 2) ∨ (28 ≤ w ∧ w ≤ 29)) ∨ ((3 ≤ w ∧ w ≤ 13) ∨ (17 ≤ w ∧ w ≤ 18) ∨ (26 ≤ w ∧ w ≤ 27) ∨ w = 30) ∨ ((14 ≤ w ∧ w ≤ 16)) ∨ ((19 ≤ w ∧ w ≤ 20)) ∨ ((21 ≤ w ∧ w ≤ 22)) ∨ ((23 ≤ w ∧ w ≤ 25)) ∨ (w = 31) ∨ (w = 32) ∨ (w = 33) ∨ (w = 34) ∨ (w = 35) by omega) with w14 | w14 | w14 | w14 | w14 | w14 | w14 | w14 | w14 | w14 | w14 | w14
  · refine r_table (off := 158) (tgt := 172) F dX4_writeRest_14 ((show ∀ w : Nat, w < 36 → (w = 0) → (if (nI w).toInt < 0 ∨ 35 < (nI w).toInt then some (352 : Int) else (#[158, 170, 170, 352, 352, 352, 352, 352, 352, 352, 352, 352, 352, 352, 182, 182, 182, 352, 352, 195, 195, 215, 215, 235, 235, 235, 352, 352, 170, 170, 352, 257, 284, 309, 324, 339] : Array Int)[((nI w).toInt - 0).toNat]?) = some (158 : Int) from by decide) w w36 w14) (by decide) ?_
    have hsb := sgn_b aa
    have hwr : (wR v Ts Ss w aa t d9) = ([] : List Int32) ++ sgn aa := by rcases (show w = 0 by omega) with h <;> rw [h] <;> simp [wR]
    rw [hwr] at ffb ⊢
    refine r_aload_n F dX4_writeRest_172 rfl ?_
    refine r_getS (ci := 5) (k := 2) (id := 502) (C := RX4) (T := TX4) (N := 3) F G rfl (by decide) (by decide) rfl (zinL inG5) (zin kf_X4_21) (fun _ h9 => h9) dX4_writeRest_173 FF.1 FF.2.2.2.1 ?_
    refine r_iload F dX4_writeRest_176 rfl ?_
    have fnb : (gk kb Lb.length (([] : List Int32)).length) ≤ (gk kb Lb.length (([] : List Int32) ++ sgn aa).length) := gk_mono _ (by first | omega | (simp only [List.length_append, List.length_cons, List.length_nil]; omega))
    have ffb : (gk kb Lb.length (([] : List Int32) ++ sgn aa).length) ≤ (gk kb Lb.length (([] : List Int32) ++ sgn aa).length) := (gk_mono _ (by first | omega | (simp only [List.length_append, List.length_cons, List.length_nil]; omega)))
    refine c_Vv (ci := 1) F G (c_nsigned hH (L := Lb) (P := ([] : List Int32)) hY (ka 48 (by decide) (by decide) (by decide)) (x := aa) (by first | omega | (simp only [List.length_append, List.length_cons, List.length_nil]; omega))) (cwV 1 F.2.2.2.2 (zgV km_X4_122 ki_X0_signed ke_X0_X0_signed kn_X0 ko_X0_signed) rfl rfl rfl ⟨rfl, hd_yX0_signed⟩ ⟨Nat.le_of_ble_eq_true rfl, Nat.le_of_ble_eq_true rfl⟩) rfl (by decide) FF.2.2.2.2.2.2.1 rfl rfl (Nat.le_of_ble_eq_true rfl) dX4_writeRest_178 ⟨by show (((gk kb Lb.length (([] : List Int32)).length) - kb)) + ((gk kb Lb.length (([] : List Int32) ++ sgn aa).length) - (gk kb Lb.length (([] : List Int32)).length)) ≤ ((gk kb Lb.length (([] : List Int32) ++ sgn aa).length) - kb); omega, by show 2 * (((gk kb Lb.length (([] : List Int32)).length) - kb)) + 2 * ((gk kb Lb.length (([] : List Int32) ++ sgn aa).length) - (gk kb Lb.length (([] : List Int32)).length)) ≤ 2 * (((gk kb Lb.length (([] : List Int32) ++ sgn aa).length) - kb)); omega⟩ (fun S178 h178 => ?_)
    obtain ⟨ad1, W1, hH, ka, kw, hM, hC, hY⟩ := yZ.b ka kw hM hC h178
    have FF := yF hw a12 hH ka kw hM hC hY
    have hL1 := hLd.same kw hM hC hY
    have hR1 := hL1.1.2.2.1 f hf ht
    have eaf := ka (200 + 12 * f) (by omega) (by omega) (by omega)
    have A1 := hH.al hR1.1 eaf hkd.1
    have fbb : kb ≤ (gk kb Lb.length (([] : List Int32) ++ sgn aa).length) := (gk_le _ _ _)
    refine zwid (c2 := (((gk kb Lb.length (([] : List Int32) ++ sgn aa).length) - kb))) (s2 := 2 * (((gk kb Lb.length (([] : List Int32) ++ sgn aa).length) - kb))) (by show (((gk kb Lb.length (([] : List Int32)).length) - kb)) + ((gk kb Lb.length (([] : List Int32) ++ sgn aa).length) - (gk kb Lb.length (([] : List Int32)).length)) ≤ _; omega) (by show 2 * (((gk kb Lb.length (([] : List Int32)).length) - kb)) + 2 * ((gk kb Lb.length (([] : List Int32) ++ sgn aa).length) - (gk kb Lb.length (([] : List Int32)).length)) ≤ _; omega) ?_
    refine r_goto (tgt := 366) F dX4_writeRest_181 (by decide) ?_
    exact e_vret F hr hlk ⟨_, _, hH, ka, kw, hM, hC, hY⟩ (Nat.le_refl _) (Nat.le_refl _) dX4_writeRest_366
  · refine r_table (off := 170) (tgt := 184) F dX4_writeRest_14 ((show ∀ w : Nat, w < 36 → ((1 ≤ w ∧ w ≤ 2) ∨ (28 ≤ w ∧ w ≤ 29)) → (if (nI w).toInt < 0 ∨ 35 < (nI w).toInt then some (352 : Int) else (#[158, 170, 170, 352, 352, 352, 352, 352, 352, 352, 352, 352, 352, 352, 182, 182, 182, 352, 352, 195, 195, 215, 215, 235, 235, 235, 352, 352, 170, 170, 352, 257, 284, 309, 324, 339] : Array Int)[((nI w).toInt - 0).toNat]?) = some (170 : Int) from by decide) w w36 w14) (by decide) ?_
    have hub := uns_b aa.toNatClampNeg
    have haj : aa = nI aa.toNatClampNeg ∧ aa.toNatClampNeg < 2 ^ 31 := by
      have h1 := (rg_1205 hv hf).2
      have h2 := (rg_1207 hv hf).2
      have key : ∀ j, j < 2 ^ 31 → aa = nI j → aa = nI aa.toNatClampNeg ∧ aa.toNatClampNeg < 2 ^ 31 := fun j hj ej => by
        rw [ej, nI_clamp hj]
        exact ⟨rfl, hj⟩
      by_cases h9 : w = 1 ∨ w = 2
      · obtain ⟨j, hj, ej⟩ := hg.1 h9
        exact key j (by omega) ej
      · obtain ⟨j, hj, ej⟩ := hg.2.2.2.1 (by omega)
        exact key j (by omega) ej
    have hwr : (wR v Ts Ss w aa t d9) = ([] : List Int32) ++ uns aa.toNatClampNeg := by rcases (show w = 1 ∨ w = 2 ∨ w = 28 ∨ w = 29 by omega) with h | h | h | h <;> rw [h] <;> simp [wR]
    rw [hwr] at ffb ⊢
    refine r_aload_n F dX4_writeRest_184 rfl ?_
    refine r_getS (ci := 5) (k := 2) (id := 502) (C := RX4) (T := TX4) (N := 3) F G rfl (by decide) (by decide) rfl (zinL inG5) (zin kf_X4_21) (fun _ h9 => h9) dX4_writeRest_185 FF.1 FF.2.2.2.1 ?_
    refine r_iload F dX4_writeRest_188 rfl ?_
    refine zeq (y := nI aa.toNatClampNeg) haj.1 ?_
    have fnb : (gk kb Lb.length (([] : List Int32)).length) ≤ (gk kb Lb.length (([] : List Int32) ++ uns aa.toNatClampNeg).length) := gk_mono _ (by first | omega | (simp only [List.length_append, List.length_cons, List.length_nil]; omega))
    have ffb : (gk kb Lb.length (([] : List Int32) ++ uns aa.toNatClampNeg).length) ≤ (gk kb Lb.length (([] : List Int32) ++ uns aa.toNatClampNeg).length) := (gk_mono _ (by first | omega | (simp only [List.length_append, List.length_cons, List.length_nil]; omega)))
    refine c_Vv (ci := 1) F G (c_nnumber hH (L := Lb) (P := ([] : List Int32)) hY (ka 48 (by decide) (by decide) (by decide)) (v := aa.toNatClampNeg) haj.2 (by first | omega | (simp only [List.length_append, List.length_cons, List.length_nil]; omega))) (cwV 1 F.2.2.2.2 (zgV km_X4_54 ki_X0_number ke_X0_X0_number kn_X0 ko_X0_number) rfl rfl rfl ⟨rfl, hd_yX0_number⟩ ⟨Nat.le_of_ble_eq_true rfl, Nat.le_of_ble_eq_true rfl⟩) rfl (by decide) FF.2.2.2.2.2.2.1 rfl rfl (Nat.le_of_ble_eq_true rfl) dX4_writeRest_190 ⟨by show (((gk kb Lb.length (([] : List Int32)).length) - kb)) + ((gk kb Lb.length (([] : List Int32) ++ uns aa.toNatClampNeg).length) - (gk kb Lb.length (([] : List Int32)).length)) ≤ ((gk kb Lb.length (([] : List Int32) ++ uns aa.toNatClampNeg).length) - kb); omega, by show 2 * (((gk kb Lb.length (([] : List Int32)).length) - kb)) + 2 * ((gk kb Lb.length (([] : List Int32) ++ uns aa.toNatClampNeg).length) - (gk kb Lb.length (([] : List Int32)).length)) ≤ 2 * (((gk kb Lb.length (([] : List Int32) ++ uns aa.toNatClampNeg).length) - kb)); omega⟩ (fun S190 h190 => ?_)
    obtain ⟨ad1, W1, hH, ka, kw, hM, hC, hY⟩ := yZ.b ka kw hM hC h190
    have FF := yF hw a12 hH ka kw hM hC hY
    have hL1 := hLd.same kw hM hC hY
    have hR1 := hL1.1.2.2.1 f hf ht
    have eaf := ka (200 + 12 * f) (by omega) (by omega) (by omega)
    have A1 := hH.al hR1.1 eaf hkd.1
    have fbb : kb ≤ (gk kb Lb.length (([] : List Int32) ++ uns aa.toNatClampNeg).length) := (gk_le _ _ _)
    refine zwid (c2 := (((gk kb Lb.length (([] : List Int32) ++ uns aa.toNatClampNeg).length) - kb))) (s2 := 2 * (((gk kb Lb.length (([] : List Int32) ++ uns aa.toNatClampNeg).length) - kb))) (by show (((gk kb Lb.length (([] : List Int32)).length) - kb)) + ((gk kb Lb.length (([] : List Int32) ++ uns aa.toNatClampNeg).length) - (gk kb Lb.length (([] : List Int32)).length)) ≤ _; omega) (by show 2 * (((gk kb Lb.length (([] : List Int32)).length) - kb)) + 2 * ((gk kb Lb.length (([] : List Int32) ++ uns aa.toNatClampNeg).length) - (gk kb Lb.length (([] : List Int32)).length)) ≤ _; omega) ?_
    refine r_goto (tgt := 366) F dX4_writeRest_193 (by decide) ?_
    exact e_vret F hr hlk ⟨_, _, hH, ka, kw, hM, hC, hY⟩ (Nat.le_refl _) (Nat.le_refl _) dX4_writeRest_366
  · refine r_table (off := 352) (tgt := 366) F dX4_writeRest_14 ((show ∀ w : Nat, w < 36 → ((3 ≤ w ∧ w ≤ 13) ∨ (17 ≤ w ∧ w ≤ 18) ∨ (26 ≤ w ∧ w ≤ 27) ∨ w = 30) → (if (nI w).toInt < 0 ∨ 35 < (nI w).toInt then some (352 : Int) else (#[158, 170, 170, 352, 352, 352, 352, 352, 352, 352, 352, 352, 352, 352, 182, 182, 182, 352, 352, 195, 195, 215, 215, 235, 235, 235, 352, 352, 170, 170, 352, 257, 284, 309, 324, 339] : Array Int)[((nI w).toInt - 0).toNat]?) = some (352 : Int) from by decide) w w36 w14) (by decide) ?_
    have hwr : (wR v Ts Ss w aa t d9) = ([] : List Int32) := by rcases (show w = 3 ∨ w = 4 ∨ w = 5 ∨ w = 6 ∨ w = 7 ∨ w = 8 ∨ w = 9 ∨ w = 10 ∨ w = 11 ∨ w = 12 ∨ w = 13 ∨ w = 17 ∨ w = 18 ∨ w = 26 ∨ w = 27 ∨ w = 30 by omega) with h | h | h | h | h | h | h | h | h | h | h | h | h | h | h | h <;> rw [h] <;> simp [wR]
    rw [hwr] at ffb ⊢
    exact e_vret F hr hlk ⟨_, _, hH, ka, kw, hM, hC, hY⟩ (Nat.le_refl _) (Nat.le_refl _) dX4_writeRest_366
  · refine r_table (off := 182) (tgt := 196) F dX4_writeRest_14 ((show ∀ w : Nat, w < 36 → ((14 ≤ w ∧ w ≤ 16)) → (if (nI w).toInt < 0 ∨ 35 < (nI w).toInt then some (352 : Int) else (#[158, 170, 170, 352, 352, 352, 352, 352, 352, 352, 352, 352, 352, 352, 182, 182, 182, 352, 352, 195, 195, 215, 215, 235, 235, 235, 352, 352, 170, 170, 352, 257, 284, 309, 324, 339] : Array Int)[((nI w).toInt - 0).toNat]?) = some (182 : Int) from by decide) w w36 w14) (by decide) ?_
    have hwr : (wR v Ts Ss w aa t d9) = ([] : List Int32) ++ [bv (nI 173)] := by rcases (show w = 14 ∨ w = 15 ∨ w = 16 by omega) with h | h | h <;> rw [h] <;> simp [wR]
    rw [hwr] at ffb ⊢
    refine r_aload_n F dX4_writeRest_196 rfl ?_
    refine r_getS (ci := 5) (k := 2) (id := 502) (C := RX4) (T := TX4) (N := 3) F G rfl (by decide) (by decide) rfl (zinL inG5) (zin kf_X4_21) (fun _ h9 => h9) dX4_writeRest_197 FF.1 FF.2.2.2.1 ?_
    refine r_sipush (v := 173) F dX4_writeRest_200 (by decide) ?_
    have fnb : (gk kb Lb.length (([] : List Int32)).length) ≤ (gk kb Lb.length (([] : List Int32) ++ [bv (nI 173)]).length) := gk_mono _ (by first | omega | (simp only [List.length_append, List.length_cons, List.length_nil]; omega))
    have ffb : (gk kb Lb.length (([] : List Int32) ++ [bv (nI 173)]).length) ≤ (gk kb Lb.length (([] : List Int32) ++ [bv (nI 173)]).length) := (gk_mono _ (by first | omega | (simp only [List.length_append, List.length_cons, List.length_nil]; omega)))
    refine c_Vv (ci := 1) F G (c_nput hH (L := Lb) (P := ([] : List Int32)) hY (ka 48 (by decide) (by decide) (by decide)) (x := nI 173) (by first | omega | (simp only [List.length_append, List.length_cons, List.length_nil]; omega))) (cwV 1 F.2.2.2.2 (zgV km_X4_50 ki_X0_put ke_X0_X0_put kn_X0 ko_X0_put) rfl rfl rfl ⟨rfl, hd_yX0_put⟩ ⟨Nat.le_of_ble_eq_true rfl, Nat.le_of_ble_eq_true rfl⟩) rfl (by decide) FF.2.2.2.2.2.2.1 rfl rfl (Nat.le_of_ble_eq_true rfl) dX4_writeRest_203 ⟨by show (((gk kb Lb.length (([] : List Int32)).length) - kb)) + ((gk kb Lb.length (([] : List Int32) ++ [bv (nI 173)]).length) - (gk kb Lb.length (([] : List Int32)).length)) ≤ ((gk kb Lb.length (([] : List Int32) ++ [bv (nI 173)]).length) - kb); omega, by show 2 * (((gk kb Lb.length (([] : List Int32)).length) - kb)) + 2 * ((gk kb Lb.length (([] : List Int32) ++ [bv (nI 173)]).length) - (gk kb Lb.length (([] : List Int32)).length)) ≤ 2 * (((gk kb Lb.length (([] : List Int32) ++ [bv (nI 173)]).length) - kb)); omega⟩ (fun S203 h203 => ?_)
    obtain ⟨ad1, W1, hH, ka, kw, hM, hC, hY⟩ := yZ.b ka kw hM hC h203
    have FF := yF hw a12 hH ka kw hM hC hY
    have hL1 := hLd.same kw hM hC hY
    have hR1 := hL1.1.2.2.1 f hf ht
    have eaf := ka (200 + 12 * f) (by omega) (by omega) (by omega)
    have A1 := hH.al hR1.1 eaf hkd.1
    have fbb : kb ≤ (gk kb Lb.length (([] : List Int32) ++ [bv (nI 173)]).length) := (gk_le _ _ _)
    refine zwid (c2 := (((gk kb Lb.length (([] : List Int32) ++ [bv (nI 173)]).length) - kb))) (s2 := 2 * (((gk kb Lb.length (([] : List Int32) ++ [bv (nI 173)]).length) - kb))) (by show (((gk kb Lb.length (([] : List Int32)).length) - kb)) + ((gk kb Lb.length (([] : List Int32) ++ [bv (nI 173)]).length) - (gk kb Lb.length (([] : List Int32)).length)) ≤ _; omega) (by show 2 * (((gk kb Lb.length (([] : List Int32)).length) - kb)) + 2 * ((gk kb Lb.length (([] : List Int32) ++ [bv (nI 173)]).length) - (gk kb Lb.length (([] : List Int32)).length)) ≤ _; omega) ?_
    refine r_goto (tgt := 366) F dX4_writeRest_206 (by decide) ?_
    exact e_vret F hr hlk ⟨_, _, hH, ka, kw, hM, hC, hY⟩ (Nat.le_refl _) (Nat.le_refl _) dX4_writeRest_366
  · refine r_table (off := 195) (tgt := 209) F dX4_writeRest_14 ((show ∀ w : Nat, w < 36 → ((19 ≤ w ∧ w ≤ 20)) → (if (nI w).toInt < 0 ∨ 35 < (nI w).toInt then some (352 : Int) else (#[158, 170, 170, 352, 352, 352, 352, 352, 352, 352, 352, 352, 352, 352, 182, 182, 182, 352, 352, 195, 195, 215, 215, 235, 235, 235, 352, 352, 170, 170, 352, 257, 284, 309, 324, 339] : Array Int)[((nI w).toInt - 0).toNat]?) = some (195 : Int) from by decide) w w36 w14) (by decide) ?_
    have hub := uns_b aa.toNatClampNeg
    obtain ⟨j, hj, ej⟩ := hg.2.1 (by omega)
    have haj : aa = nI aa.toNatClampNeg ∧ aa.toNatClampNeg < 2 ^ 31 := by
      rw [ej, nI_clamp (by omega)]
      exact ⟨rfl, by omega⟩
    have hwr : (wR v Ts Ss w aa t d9) = ([] : List Int32) ++ [bv (nI 3)] ++ uns aa.toNatClampNeg := by rcases (show w = 19 ∨ w = 20 by omega) with h | h <;> rw [h] <;> simp [wR]
    rw [hwr] at ffb ⊢
    refine r_aload_n F dX4_writeRest_209 rfl ?_
    refine r_getS (ci := 5) (k := 2) (id := 502) (C := RX4) (T := TX4) (N := 3) F G rfl (by decide) (by decide) rfl (zinL inG5) (zin kf_X4_21) (fun _ h9 => h9) dX4_writeRest_210 FF.1 FF.2.2.2.1 ?_
    refine r_iconst (v := 3) F dX4_writeRest_213 (by decide) ?_
    have fnb : (gk kb Lb.length (([] : List Int32)).length) ≤ (gk kb Lb.length (([] : List Int32) ++ [bv (nI 3)]).length) := gk_mono _ (by first | omega | (simp only [List.length_append, List.length_cons, List.length_nil]; omega))
    have ffb : (gk kb Lb.length (([] : List Int32) ++ [bv (nI 3)]).length) ≤ (gk kb Lb.length (([] : List Int32) ++ [bv (nI 3)] ++ uns aa.toNatClampNeg).length) := (gk_mono _ (by first | omega | (simp only [List.length_append, List.length_cons, List.length_nil]; omega)))
    refine c_Vv (ci := 1) F G (c_nput hH (L := Lb) (P := ([] : List Int32)) hY (ka 48 (by decide) (by decide) (by decide)) (x := nI 3) (by first | omega | (simp only [List.length_append, List.length_cons, List.length_nil]; omega))) (cwV 1 F.2.2.2.2 (zgV km_X4_50 ki_X0_put ke_X0_X0_put kn_X0 ko_X0_put) rfl rfl rfl ⟨rfl, hd_yX0_put⟩ ⟨Nat.le_of_ble_eq_true rfl, Nat.le_of_ble_eq_true rfl⟩) rfl (by decide) FF.2.2.2.2.2.2.1 rfl rfl (Nat.le_of_ble_eq_true rfl) dX4_writeRest_214 ⟨by show (((gk kb Lb.length (([] : List Int32)).length) - kb)) + ((gk kb Lb.length (([] : List Int32) ++ [bv (nI 3)]).length) - (gk kb Lb.length (([] : List Int32)).length)) ≤ ((gk kb Lb.length (([] : List Int32) ++ [bv (nI 3)] ++ uns aa.toNatClampNeg).length) - kb); omega, by show 2 * (((gk kb Lb.length (([] : List Int32)).length) - kb)) + 2 * ((gk kb Lb.length (([] : List Int32) ++ [bv (nI 3)]).length) - (gk kb Lb.length (([] : List Int32)).length)) ≤ 2 * (((gk kb Lb.length (([] : List Int32) ++ [bv (nI 3)] ++ uns aa.toNatClampNeg).length) - kb)); omega⟩ (fun S214 h214 => ?_)
    obtain ⟨ad1, W1, hH, ka, kw, hM, hC, hY⟩ := yZ.b ka kw hM hC h214
    have FF := yF hw a12 hH ka kw hM hC hY
    have hL1 := hLd.same kw hM hC hY
    have hR1 := hL1.1.2.2.1 f hf ht
    have eaf := ka (200 + 12 * f) (by omega) (by omega) (by omega)
    have A1 := hH.al hR1.1 eaf hkd.1
    have fbb : kb ≤ (gk kb Lb.length (([] : List Int32) ++ [bv (nI 3)]).length) := (gk_le _ _ _)
    refine zwid (c2 := (((gk kb Lb.length (([] : List Int32) ++ [bv (nI 3)]).length) - kb))) (s2 := 2 * (((gk kb Lb.length (([] : List Int32) ++ [bv (nI 3)]).length) - kb))) (by show (((gk kb Lb.length (([] : List Int32)).length) - kb)) + ((gk kb Lb.length (([] : List Int32) ++ [bv (nI 3)]).length) - (gk kb Lb.length (([] : List Int32)).length)) ≤ _; omega) (by show 2 * (((gk kb Lb.length (([] : List Int32)).length) - kb)) + 2 * ((gk kb Lb.length (([] : List Int32) ++ [bv (nI 3)]).length) - (gk kb Lb.length (([] : List Int32)).length)) ≤ _; omega) ?_
    refine r_aload_n F dX4_writeRest_217 rfl ?_
    refine r_getS (ci := 5) (k := 2) (id := 502) (C := RX4) (T := TX4) (N := 3) F G rfl (by decide) (by decide) rfl (zinL inG5) (zin kf_X4_21) (fun _ h9 => h9) dX4_writeRest_218 FF.1 FF.2.2.2.1 ?_
    refine r_iload F dX4_writeRest_221 rfl ?_
    refine zeq (y := nI aa.toNatClampNeg) haj.1 ?_
    have fnb : (gk kb Lb.length (([] : List Int32) ++ [bv (nI 3)]).length) ≤ (gk kb Lb.length (([] : List Int32) ++ [bv (nI 3)] ++ uns aa.toNatClampNeg).length) := gk_mono _ (by first | omega | (simp only [List.length_append, List.length_cons, List.length_nil]; omega))
    have ffb : (gk kb Lb.length (([] : List Int32) ++ [bv (nI 3)] ++ uns aa.toNatClampNeg).length) ≤ (gk kb Lb.length (([] : List Int32) ++ [bv (nI 3)] ++ uns aa.toNatClampNeg).length) := (gk_mono _ (by first | omega | (simp only [List.length_append, List.length_cons, List.length_nil]; omega)))
    refine c_Vv (ci := 1) F G (c_nnumber hH (L := Lb) (P := ([] : List Int32) ++ [bv (nI 3)]) hY (ka 48 (by decide) (by decide) (by decide)) (v := aa.toNatClampNeg) haj.2 (by first | omega | (simp only [List.length_append, List.length_cons, List.length_nil]; omega))) (cwV 1 F.2.2.2.2 (zgV km_X4_54 ki_X0_number ke_X0_X0_number kn_X0 ko_X0_number) rfl rfl rfl ⟨rfl, hd_yX0_number⟩ ⟨Nat.le_of_ble_eq_true rfl, Nat.le_of_ble_eq_true rfl⟩) rfl (by decide) FF.2.2.2.2.2.2.1 rfl rfl (Nat.le_of_ble_eq_true rfl) dX4_writeRest_223 ⟨by show (((gk kb Lb.length (([] : List Int32) ++ [bv (nI 3)]).length) - kb)) + ((gk kb Lb.length (([] : List Int32) ++ [bv (nI 3)] ++ uns aa.toNatClampNeg).length) - (gk kb Lb.length (([] : List Int32) ++ [bv (nI 3)]).length)) ≤ ((gk kb Lb.length (([] : List Int32) ++ [bv (nI 3)] ++ uns aa.toNatClampNeg).length) - kb); omega, by show 2 * (((gk kb Lb.length (([] : List Int32) ++ [bv (nI 3)]).length) - kb)) + 2 * ((gk kb Lb.length (([] : List Int32) ++ [bv (nI 3)] ++ uns aa.toNatClampNeg).length) - (gk kb Lb.length (([] : List Int32) ++ [bv (nI 3)]).length)) ≤ 2 * (((gk kb Lb.length (([] : List Int32) ++ [bv (nI 3)] ++ uns aa.toNatClampNeg).length) - kb)); omega⟩ (fun S223 h223 => ?_)
    obtain ⟨ad1, W1, hH, ka, kw, hM, hC, hY⟩ := yZ.b ka kw hM hC h223
    have FF := yF hw a12 hH ka kw hM hC hY
    have hL1 := hLd.same kw hM hC hY
    have hR1 := hL1.1.2.2.1 f hf ht
    have eaf := ka (200 + 12 * f) (by omega) (by omega) (by omega)
    have A1 := hH.al hR1.1 eaf hkd.1
    have fbb : kb ≤ (gk kb Lb.length (([] : List Int32) ++ [bv (nI 3)] ++ uns aa.toNatClampNeg).length) := (gk_le _ _ _)
    refine zwid (c2 := (((gk kb Lb.length (([] : List Int32) ++ [bv (nI 3)] ++ uns aa.toNatClampNeg).length) - kb))) (s2 := 2 * (((gk kb Lb.length (([] : List Int32) ++ [bv (nI 3)] ++ uns aa.toNatClampNeg).length) - kb))) (by show (((gk kb Lb.length (([] : List Int32) ++ [bv (nI 3)]).length) - kb)) + ((gk kb Lb.length (([] : List Int32) ++ [bv (nI 3)] ++ uns aa.toNatClampNeg).length) - (gk kb Lb.length (([] : List Int32) ++ [bv (nI 3)]).length)) ≤ _; omega) (by show 2 * (((gk kb Lb.length (([] : List Int32) ++ [bv (nI 3)]).length) - kb)) + 2 * ((gk kb Lb.length (([] : List Int32) ++ [bv (nI 3)] ++ uns aa.toNatClampNeg).length) - (gk kb Lb.length (([] : List Int32) ++ [bv (nI 3)]).length)) ≤ _; omega) ?_
    refine r_goto (tgt := 366) F dX4_writeRest_226 (by decide) ?_
    exact e_vret F hr hlk ⟨_, _, hH, ka, kw, hM, hC, hY⟩ (Nat.le_refl _) (Nat.le_refl _) dX4_writeRest_366
  · refine r_table (off := 215) (tgt := 229) F dX4_writeRest_14 ((show ∀ w : Nat, w < 36 → ((21 ≤ w ∧ w ≤ 22)) → (if (nI w).toInt < 0 ∨ 35 < (nI w).toInt then some (352 : Int) else (#[158, 170, 170, 352, 352, 352, 352, 352, 352, 352, 352, 352, 352, 352, 182, 182, 182, 352, 352, 195, 195, 215, 215, 235, 235, 235, 352, 352, 170, 170, 352, 257, 284, 309, 324, 339] : Array Int)[((nI w).toInt - 0).toNat]?) = some (215 : Int) from by decide) w w36 w14) (by decide) ?_
    have hub := uns_b aa.toNatClampNeg
    obtain ⟨j, hj, ej⟩ := hg.2.1 (by omega)
    have haj : aa = nI aa.toNatClampNeg ∧ aa.toNatClampNeg < 2 ^ 31 := by
      rw [ej, nI_clamp (by omega)]
      exact ⟨rfl, by omega⟩
    have hwr : (wR v Ts Ss w aa t d9) = ([] : List Int32) ++ [bv (nI 0)] ++ uns aa.toNatClampNeg := by rcases (show w = 21 ∨ w = 22 by omega) with h | h <;> rw [h] <;> simp [wR]
    rw [hwr] at ffb ⊢
    refine r_aload_n F dX4_writeRest_229 rfl ?_
    refine r_getS (ci := 5) (k := 2) (id := 502) (C := RX4) (T := TX4) (N := 3) F G rfl (by decide) (by decide) rfl (zinL inG5) (zin kf_X4_21) (fun _ h9 => h9) dX4_writeRest_230 FF.1 FF.2.2.2.1 ?_
    refine r_iconst (v := 0) F dX4_writeRest_233 (by decide) ?_
    have fnb : (gk kb Lb.length (([] : List Int32)).length) ≤ (gk kb Lb.length (([] : List Int32) ++ [bv (nI 0)]).length) := gk_mono _ (by first | omega | (simp only [List.length_append, List.length_cons, List.length_nil]; omega))
    have ffb : (gk kb Lb.length (([] : List Int32) ++ [bv (nI 0)]).length) ≤ (gk kb Lb.length (([] : List Int32) ++ [bv (nI 0)] ++ uns aa.toNatClampNeg).length) := (gk_mono _ (by first | omega | (simp only [List.length_append, List.length_cons, List.length_nil]; omega)))
    refine c_Vv (ci := 1) F G (c_nput hH (L := Lb) (P := ([] : List Int32)) hY (ka 48 (by decide) (by decide) (by decide)) (x := nI 0) (by first | omega | (simp only [List.length_append, List.length_cons, List.length_nil]; omega))) (cwV 1 F.2.2.2.2 (zgV km_X4_50 ki_X0_put ke_X0_X0_put kn_X0 ko_X0_put) rfl rfl rfl ⟨rfl, hd_yX0_put⟩ ⟨Nat.le_of_ble_eq_true rfl, Nat.le_of_ble_eq_true rfl⟩) rfl (by decide) FF.2.2.2.2.2.2.1 rfl rfl (Nat.le_of_ble_eq_true rfl) dX4_writeRest_234 ⟨by show (((gk kb Lb.length (([] : List Int32)).length) - kb)) + ((gk kb Lb.length (([] : List Int32) ++ [bv (nI 0)]).length) - (gk kb Lb.length (([] : List Int32)).length)) ≤ ((gk kb Lb.length (([] : List Int32) ++ [bv (nI 0)] ++ uns aa.toNatClampNeg).length) - kb); omega, by show 2 * (((gk kb Lb.length (([] : List Int32)).length) - kb)) + 2 * ((gk kb Lb.length (([] : List Int32) ++ [bv (nI 0)]).length) - (gk kb Lb.length (([] : List Int32)).length)) ≤ 2 * (((gk kb Lb.length (([] : List Int32) ++ [bv (nI 0)] ++ uns aa.toNatClampNeg).length) - kb)); omega⟩ (fun S234 h234 => ?_)
    obtain ⟨ad1, W1, hH, ka, kw, hM, hC, hY⟩ := yZ.b ka kw hM hC h234
    have FF := yF hw a12 hH ka kw hM hC hY
    have hL1 := hLd.same kw hM hC hY
    have hR1 := hL1.1.2.2.1 f hf ht
    have eaf := ka (200 + 12 * f) (by omega) (by omega) (by omega)
    have A1 := hH.al hR1.1 eaf hkd.1
    have fbb : kb ≤ (gk kb Lb.length (([] : List Int32) ++ [bv (nI 0)]).length) := (gk_le _ _ _)
    refine zwid (c2 := (((gk kb Lb.length (([] : List Int32) ++ [bv (nI 0)]).length) - kb))) (s2 := 2 * (((gk kb Lb.length (([] : List Int32) ++ [bv (nI 0)]).length) - kb))) (by show (((gk kb Lb.length (([] : List Int32)).length) - kb)) + ((gk kb Lb.length (([] : List Int32) ++ [bv (nI 0)]).length) - (gk kb Lb.length (([] : List Int32)).length)) ≤ _; omega) (by show 2 * (((gk kb Lb.length (([] : List Int32)).length) - kb)) + 2 * ((gk kb Lb.length (([] : List Int32) ++ [bv (nI 0)]).length) - (gk kb Lb.length (([] : List Int32)).length)) ≤ _; omega) ?_
    refine r_aload_n F dX4_writeRest_237 rfl ?_
    refine r_getS (ci := 5) (k := 2) (id := 502) (C := RX4) (T := TX4) (N := 3) F G rfl (by decide) (by decide) rfl (zinL inG5) (zin kf_X4_21) (fun _ h9 => h9) dX4_writeRest_238 FF.1 FF.2.2.2.1 ?_
    refine r_iload F dX4_writeRest_241 rfl ?_
    refine zeq (y := nI aa.toNatClampNeg) haj.1 ?_
    have fnb : (gk kb Lb.length (([] : List Int32) ++ [bv (nI 0)]).length) ≤ (gk kb Lb.length (([] : List Int32) ++ [bv (nI 0)] ++ uns aa.toNatClampNeg).length) := gk_mono _ (by first | omega | (simp only [List.length_append, List.length_cons, List.length_nil]; omega))
    have ffb : (gk kb Lb.length (([] : List Int32) ++ [bv (nI 0)] ++ uns aa.toNatClampNeg).length) ≤ (gk kb Lb.length (([] : List Int32) ++ [bv (nI 0)] ++ uns aa.toNatClampNeg).length) := (gk_mono _ (by first | omega | (simp only [List.length_append, List.length_cons, List.length_nil]; omega)))
    refine c_Vv (ci := 1) F G (c_nnumber hH (L := Lb) (P := ([] : List Int32) ++ [bv (nI 0)]) hY (ka 48 (by decide) (by decide) (by decide)) (v := aa.toNatClampNeg) haj.2 (by first | omega | (simp only [List.length_append, List.length_cons, List.length_nil]; omega))) (cwV 1 F.2.2.2.2 (zgV km_X4_54 ki_X0_number ke_X0_X0_number kn_X0 ko_X0_number) rfl rfl rfl ⟨rfl, hd_yX0_number⟩ ⟨Nat.le_of_ble_eq_true rfl, Nat.le_of_ble_eq_true rfl⟩) rfl (by decide) FF.2.2.2.2.2.2.1 rfl rfl (Nat.le_of_ble_eq_true rfl) dX4_writeRest_243 ⟨by show (((gk kb Lb.length (([] : List Int32) ++ [bv (nI 0)]).length) - kb)) + ((gk kb Lb.length (([] : List Int32) ++ [bv (nI 0)] ++ uns aa.toNatClampNeg).length) - (gk kb Lb.length (([] : List Int32) ++ [bv (nI 0)]).length)) ≤ ((gk kb Lb.length (([] : List Int32) ++ [bv (nI 0)] ++ uns aa.toNatClampNeg).length) - kb); omega, by show 2 * (((gk kb Lb.length (([] : List Int32) ++ [bv (nI 0)]).length) - kb)) + 2 * ((gk kb Lb.length (([] : List Int32) ++ [bv (nI 0)] ++ uns aa.toNatClampNeg).length) - (gk kb Lb.length (([] : List Int32) ++ [bv (nI 0)]).length)) ≤ 2 * (((gk kb Lb.length (([] : List Int32) ++ [bv (nI 0)] ++ uns aa.toNatClampNeg).length) - kb)); omega⟩ (fun S243 h243 => ?_)
    obtain ⟨ad1, W1, hH, ka, kw, hM, hC, hY⟩ := yZ.b ka kw hM hC h243
    have FF := yF hw a12 hH ka kw hM hC hY
    have hL1 := hLd.same kw hM hC hY
    have hR1 := hL1.1.2.2.1 f hf ht
    have eaf := ka (200 + 12 * f) (by omega) (by omega) (by omega)
    have A1 := hH.al hR1.1 eaf hkd.1
    have fbb : kb ≤ (gk kb Lb.length (([] : List Int32) ++ [bv (nI 0)] ++ uns aa.toNatClampNeg).length) := (gk_le _ _ _)
    refine zwid (c2 := (((gk kb Lb.length (([] : List Int32) ++ [bv (nI 0)] ++ uns aa.toNatClampNeg).length) - kb))) (s2 := 2 * (((gk kb Lb.length (([] : List Int32) ++ [bv (nI 0)] ++ uns aa.toNatClampNeg).length) - kb))) (by show (((gk kb Lb.length (([] : List Int32) ++ [bv (nI 0)]).length) - kb)) + ((gk kb Lb.length (([] : List Int32) ++ [bv (nI 0)] ++ uns aa.toNatClampNeg).length) - (gk kb Lb.length (([] : List Int32) ++ [bv (nI 0)]).length)) ≤ _; omega) (by show 2 * (((gk kb Lb.length (([] : List Int32) ++ [bv (nI 0)]).length) - kb)) + 2 * ((gk kb Lb.length (([] : List Int32) ++ [bv (nI 0)] ++ uns aa.toNatClampNeg).length) - (gk kb Lb.length (([] : List Int32) ++ [bv (nI 0)]).length)) ≤ _; omega) ?_
    refine r_goto (tgt := 366) F dX4_writeRest_246 (by decide) ?_
    exact e_vret F hr hlk ⟨_, _, hH, ka, kw, hM, hC, hY⟩ (Nat.le_refl _) (Nat.le_refl _) dX4_writeRest_366
  · refine r_table (off := 235) (tgt := 249) F dX4_writeRest_14 ((show ∀ w : Nat, w < 36 → ((23 ≤ w ∧ w ≤ 25)) → (if (nI w).toInt < 0 ∨ 35 < (nI w).toInt then some (352 : Int) else (#[158, 170, 170, 352, 352, 352, 352, 352, 352, 352, 352, 352, 352, 352, 182, 182, 182, 352, 352, 195, 195, 215, 215, 235, 235, 235, 352, 352, 170, 170, 352, 257, 284, 309, 324, 339] : Array Int)[((nI w).toInt - 0).toNat]?) = some (235 : Int) from by decide) w w36 w14) (by decide) ?_
    have hwr : (wR v Ts Ss w aa t d9) = ([] : List Int32) ++ [bv (nI (if aa = 0 then 64 else 126))] := by rcases (show w = 23 ∨ w = 24 ∨ w = 25 by omega) with h | h | h <;> rw [h] <;> simp [wR]
    rw [hwr] at ffb ⊢
    refine r_aload_n F dX4_writeRest_249 rfl ?_
    refine r_getS (ci := 5) (k := 2) (id := 502) (C := RX4) (T := TX4) (N := 3) F G rfl (by decide) (by decide) rfl (zinL inG5) (zin kf_X4_21) (fun _ h9 => h9) dX4_writeRest_250 FF.1 FF.2.2.2.1 ?_
    refine r_iload F dX4_writeRest_253 rfl ?_
    refine r_if_ne (tgt := 263) F dX4_writeRest_255 (by decide) (fun c255 => ?_) (fun c255 => ?_)
    · refine r_bipush (v := 126) F dX4_writeRest_263 (by decide) ?_
      rw [show (126 : Int32) = nI (if aa = 0 then 64 else 126) by rw [if_neg c255]; rfl]
      have fnb : (gk kb Lb.length (([] : List Int32)).length) ≤ (gk kb Lb.length (([] : List Int32) ++ [bv (nI (if aa = 0 then 64 else 126))]).length) := gk_mono _ (by first | omega | (simp only [List.length_append, List.length_cons, List.length_nil]; omega))
      have ffb : (gk kb Lb.length (([] : List Int32) ++ [bv (nI (if aa = 0 then 64 else 126))]).length) ≤ (gk kb Lb.length (([] : List Int32) ++ [bv (nI (if aa = 0 then 64 else 126))]).length) := (gk_mono _ (by first | omega | (simp only [List.length_append, List.length_cons, List.length_nil]; omega)))
      refine c_Vv (ci := 1) F G (c_nput hH (L := Lb) (P := ([] : List Int32)) hY (ka 48 (by decide) (by decide) (by decide)) (x := nI (if aa = 0 then 64 else 126)) (by first | omega | (simp only [List.length_append, List.length_cons, List.length_nil]; omega))) (cwV 1 F.2.2.2.2 (zgV km_X4_50 ki_X0_put ke_X0_X0_put kn_X0 ko_X0_put) rfl rfl rfl ⟨rfl, hd_yX0_put⟩ ⟨Nat.le_of_ble_eq_true rfl, Nat.le_of_ble_eq_true rfl⟩) rfl (by decide) FF.2.2.2.2.2.2.1 rfl rfl (Nat.le_of_ble_eq_true rfl) dX4_writeRest_265 ⟨by show (((gk kb Lb.length (([] : List Int32)).length) - kb)) + ((gk kb Lb.length (([] : List Int32) ++ [bv (nI (if aa = 0 then 64 else 126))]).length) - (gk kb Lb.length (([] : List Int32)).length)) ≤ ((gk kb Lb.length (([] : List Int32) ++ [bv (nI (if aa = 0 then 64 else 126))]).length) - kb); omega, by show 2 * (((gk kb Lb.length (([] : List Int32)).length) - kb)) + 2 * ((gk kb Lb.length (([] : List Int32) ++ [bv (nI (if aa = 0 then 64 else 126))]).length) - (gk kb Lb.length (([] : List Int32)).length)) ≤ 2 * (((gk kb Lb.length (([] : List Int32) ++ [bv (nI (if aa = 0 then 64 else 126))]).length) - kb)); omega⟩ (fun S265 h265 => ?_)
      obtain ⟨ad1, W1, hH, ka, kw, hM, hC, hY⟩ := yZ.b ka kw hM hC h265
      have FF := yF hw a12 hH ka kw hM hC hY
      have hL1 := hLd.same kw hM hC hY
      have hR1 := hL1.1.2.2.1 f hf ht
      have eaf := ka (200 + 12 * f) (by omega) (by omega) (by omega)
      have A1 := hH.al hR1.1 eaf hkd.1
      have fbb : kb ≤ (gk kb Lb.length (([] : List Int32) ++ [bv (nI (if aa = 0 then 64 else 126))]).length) := (gk_le _ _ _)
      refine zwid (c2 := (((gk kb Lb.length (([] : List Int32) ++ [bv (nI (if aa = 0 then 64 else 126))]).length) - kb))) (s2 := 2 * (((gk kb Lb.length (([] : List Int32) ++ [bv (nI (if aa = 0 then 64 else 126))]).length) - kb))) (by show (((gk kb Lb.length (([] : List Int32)).length) - kb)) + ((gk kb Lb.length (([] : List Int32) ++ [bv (nI (if aa = 0 then 64 else 126))]).length) - (gk kb Lb.length (([] : List Int32)).length)) ≤ _; omega) (by show 2 * (((gk kb Lb.length (([] : List Int32)).length) - kb)) + 2 * ((gk kb Lb.length (([] : List Int32) ++ [bv (nI (if aa = 0 then 64 else 126))]).length) - (gk kb Lb.length (([] : List Int32)).length)) ≤ _; omega) ?_
      refine r_goto (tgt := 366) F dX4_writeRest_268 (by decide) ?_
      exact e_vret F hr hlk ⟨_, _, hH, ka, kw, hM, hC, hY⟩ (Nat.le_refl _) (Nat.le_refl _) dX4_writeRest_366
    · refine r_bipush (v := 64) F dX4_writeRest_258 (by decide) ?_
      refine r_goto (tgt := 265) F dX4_writeRest_260 (by decide) ?_
      rw [show (64 : Int32) = nI (if aa = 0 then 64 else 126) by rw [if_pos c255]; rfl]
      have fnb : (gk kb Lb.length (([] : List Int32)).length) ≤ (gk kb Lb.length (([] : List Int32) ++ [bv (nI (if aa = 0 then 64 else 126))]).length) := gk_mono _ (by first | omega | (simp only [List.length_append, List.length_cons, List.length_nil]; omega))
      have ffb : (gk kb Lb.length (([] : List Int32) ++ [bv (nI (if aa = 0 then 64 else 126))]).length) ≤ (gk kb Lb.length (([] : List Int32) ++ [bv (nI (if aa = 0 then 64 else 126))]).length) := (gk_mono _ (by first | omega | (simp only [List.length_append, List.length_cons, List.length_nil]; omega)))
      refine c_Vv (ci := 1) F G (c_nput hH (L := Lb) (P := ([] : List Int32)) hY (ka 48 (by decide) (by decide) (by decide)) (x := nI (if aa = 0 then 64 else 126)) (by first | omega | (simp only [List.length_append, List.length_cons, List.length_nil]; omega))) (cwV 1 F.2.2.2.2 (zgV km_X4_50 ki_X0_put ke_X0_X0_put kn_X0 ko_X0_put) rfl rfl rfl ⟨rfl, hd_yX0_put⟩ ⟨Nat.le_of_ble_eq_true rfl, Nat.le_of_ble_eq_true rfl⟩) rfl (by decide) FF.2.2.2.2.2.2.1 rfl rfl (Nat.le_of_ble_eq_true rfl) dX4_writeRest_265 ⟨by show (((gk kb Lb.length (([] : List Int32)).length) - kb)) + ((gk kb Lb.length (([] : List Int32) ++ [bv (nI (if aa = 0 then 64 else 126))]).length) - (gk kb Lb.length (([] : List Int32)).length)) ≤ ((gk kb Lb.length (([] : List Int32) ++ [bv (nI (if aa = 0 then 64 else 126))]).length) - kb); omega, by show 2 * (((gk kb Lb.length (([] : List Int32)).length) - kb)) + 2 * ((gk kb Lb.length (([] : List Int32) ++ [bv (nI (if aa = 0 then 64 else 126))]).length) - (gk kb Lb.length (([] : List Int32)).length)) ≤ 2 * (((gk kb Lb.length (([] : List Int32) ++ [bv (nI (if aa = 0 then 64 else 126))]).length) - kb)); omega⟩ (fun S265 h265 => ?_)
      obtain ⟨ad1, W1, hH, ka, kw, hM, hC, hY⟩ := yZ.b ka kw hM hC h265
      have FF := yF hw a12 hH ka kw hM hC hY
      have hL1 := hLd.same kw hM hC hY
      have hR1 := hL1.1.2.2.1 f hf ht
      have eaf := ka (200 + 12 * f) (by omega) (by omega) (by omega)
      have A1 := hH.al hR1.1 eaf hkd.1
      have fbb : kb ≤ (gk kb Lb.length (([] : List Int32) ++ [bv (nI (if aa = 0 then 64 else 126))]).length) := (gk_le _ _ _)
      refine zwid (c2 := (((gk kb Lb.length (([] : List Int32) ++ [bv (nI (if aa = 0 then 64 else 126))]).length) - kb))) (s2 := 2 * (((gk kb Lb.length (([] : List Int32) ++ [bv (nI (if aa = 0 then 64 else 126))]).length) - kb))) (by show (((gk kb Lb.length (([] : List Int32)).length) - kb)) + ((gk kb Lb.length (([] : List Int32) ++ [bv (nI (if aa = 0 then 64 else 126))]).length) - (gk kb Lb.length (([] : List Int32)).length)) ≤ _; omega) (by show 2 * (((gk kb Lb.length (([] : List Int32)).length) - kb)) + 2 * ((gk kb Lb.length (([] : List Int32) ++ [bv (nI (if aa = 0 then 64 else 126))]).length) - (gk kb Lb.length (([] : List Int32)).length)) ≤ _; omega) ?_
      refine r_goto (tgt := 366) F dX4_writeRest_268 (by decide) ?_
      exact e_vret F hr hlk ⟨_, _, hH, ka, kw, hM, hC, hY⟩ (Nat.le_refl _) (Nat.le_refl _) dX4_writeRest_366
  · refine r_table (off := 257) (tgt := 271) F dX4_writeRest_14 ((show ∀ w : Nat, w < 36 → (w = 31) → (if (nI w).toInt < 0 ∨ 35 < (nI w).toInt then some (352 : Int) else (#[158, 170, 170, 352, 352, 352, 352, 352, 352, 352, 352, 352, 352, 352, 182, 182, 182, 352, 352, 195, 195, 215, 215, 235, 235, 235, 352, 352, 170, 170, 352, 257, 284, 309, 324, 339] : Array Int)[((nI w).toInt - 0).toNat]?) = some (257 : Int) from by decide) w w36 w14) (by decide) ?_
    have h31 : w = 31 := by omega
    obtain ⟨j, hj, ej, hk9⟩ := hg.2.2.2.2.1 (Or.inl h31)
    have hyb := (rg_1204 hv (k := f / 8) (by omega)).2
    have hy : 16 * (f / 8) + j < 96 := by omega
    have ht9 : (16 * (f / 8) + j) % 16 < cn v 1204 ((16 * (f / 8) + j) / 16) := by rw [show (16 * (f / 8) + j) / 16 = f / 8 by omega]; omega
    have etg : tgt v (16 * (f / 8) + j) = t := by
      rw [← hte, ej, nI_clamp (by omega)]
      exact tgt_fO (fun z hz => (hK _ hy ht9 z hz).trans hk9) (fun _ => hk9)
    refine r_aload_n F dX4_writeRest_271 rfl ?_
    refine r_iload_n F dX4_writeRest_272 rfl ?_
    refine c_Vq (ci := 7) F G (c_targetOf hH hL1.1 hv hL1.2.1 hA hf ht eaf (by omega) hj (hae.trans ej)) (cwV 1 F.2.2.2.2 (zgV km_X4_145 ki_X6_targetOf ke_X6_X6_targetOf kn_X6 ko_X6_targetOf) rfl rfl rfl ⟨rfl, hd_yX6_targetOf⟩ ⟨Nat.le_of_ble_eq_true rfl, Nat.le_of_ble_eq_true rfl⟩) rfl (by decide) A1 rfl rfl (Nat.le_of_ble_eq_true rfl) dX4_writeRest_273 ⟨by show (((gk kb Lb.length (([] : List Int32)).length) - kb)) + 0 ≤ ((gk kb Lb.length ((wR v Ts Ss w aa t d9)).length) - kb); omega, by show 2 * (((gk kb Lb.length (([] : List Int32)).length) - kb)) + 0 ≤ 2 * (((gk kb Lb.length ((wR v Ts Ss w aa t d9)).length) - kb)); omega⟩ (fun r273 S273 h273 => ?_)
    obtain ⟨er273, es273⟩ := h273
    have hs273 := es273.symm
    subst hs273
    subst er273
    rw [etg]
    refine zwid (c2 := (((gk kb Lb.length (([] : List Int32)).length) - kb))) (s2 := 2 * (((gk kb Lb.length (([] : List Int32)).length) - kb))) (Nat.le_refl _) (Nat.le_refl _) ?_
    cases t with
    | none =>
      have hwr : (wR v Ts Ss w aa none d9) = ([] : List Int32) := by rw [h31]; simp [wR]
      rw [hwr] at ffb ⊢
      refine r_astoreQ (x := none) F dX4_writeRest_276 (by decide) ?_
      refine r_aloadQ (x := none) F dX4_writeRest_278 rfl ?_
      refine r_ifnullN (tgt := 366) F dX4_writeRest_280 (by decide) ?_
      exact e_vret F hr hlk ⟨_, _, hH, ka, kw, hM, hC, hY⟩ (Nat.le_refl _) (Nat.le_refl _) dX4_writeRest_366
    | some g =>
      have hwr : (wR v Ts Ss w aa (some g) d9) = ([] : List Int32) ++ wid (pN v 1202 8 g) := by rw [h31]; simp [wR]
      rw [hwr] at ffb ⊢
      obtain ⟨hg48, hgt⟩ := tgt_t hv hD hy ht9 etg
      have hkd9 := kd_r g hg48
      have hR9 := hL1.1.2.2.1 g hg48 hgt
      have A9 := hH.al hR9.1 rfl hkd9.1
      have I9 : zi S 711 (ad (200 + 12 * g)) = nI (pN v 1202 8 g) := (hH.i hR9.1 rfl (by rw [hkd9.1]; decide)).trans (hL1.2.2.2.2.1 g hg48 hgt)
      have hpn : pN v 1202 8 g < 2 ^ 31 := by unfold pN; have := pS_le hv (g / 8) (by omega); omega
      have hwl := wid_l (pN v 1202 8 g)
      refine r_astore (x := ad (200 + 12 * g)) F dX4_writeRest_276 (by decide) ?_
      refine r_aload (x := ad (200 + 12 * g)) F dX4_writeRest_278 rfl ?_
      refine r_ifnull F dX4_writeRest_280 ?_
      refine r_aload_n F dX4_writeRest_283 rfl ?_
      refine r_getS (ci := 5) (k := 2) (id := 502) (C := RX4) (T := TX4) (N := 3) F G rfl (by decide) (by decide) rfl (zinL inG5) (zin kf_X4_21) (fun _ h9 => h9) dX4_writeRest_284 FF.1 FF.2.2.2.1 ?_
      refine r_aload F dX4_writeRest_287 rfl ?_
      refine r_getiS (ci := 7) (k := 11) (id := 711) (C := RX6) (T := TX6) (N := 13) F G rfl (by decide) (by decide) rfl (zinL inG7) (zin kf_X4_108) (fun _ h9 => h9) dX4_writeRest_289 A9 I9 ?_
      have fnb : (gk kb Lb.length (([] : List Int32)).length) ≤ (gk kb Lb.length (([] : List Int32) ++ wid (pN v 1202 8 g)).length) := gk_mono _ (by first | omega | (simp only [List.length_append, List.length_cons, List.length_nil]; omega))
      have ffb : (gk kb Lb.length (([] : List Int32) ++ wid (pN v 1202 8 g)).length) ≤ (gk kb Lb.length (([] : List Int32) ++ wid (pN v 1202 8 g)).length) := (gk_mono _ (by first | omega | (simp only [List.length_append, List.length_cons, List.length_nil]; omega)))
      refine c_Vv (ci := 1) F G (c_nwide hH (L := Lb) (P := ([] : List Int32)) hY (ka 48 (by decide) (by decide) (by decide)) (v := pN v 1202 8 g) hpn (by first | omega | (simp only [List.length_append, List.length_cons, List.length_nil]; omega))) (cwV 1 F.2.2.2.2 (zgV km_X4_155 ki_X0_wide ke_X0_X0_wide kn_X0 ko_X0_wide) rfl rfl rfl ⟨rfl, hd_yX0_wide⟩ ⟨Nat.le_of_ble_eq_true rfl, Nat.le_of_ble_eq_true rfl⟩) rfl (by decide) FF.2.2.2.2.2.2.1 rfl rfl (Nat.le_of_ble_eq_true rfl) dX4_writeRest_292 ⟨by show (((gk kb Lb.length (([] : List Int32)).length) - kb)) + ((gk kb Lb.length (([] : List Int32) ++ wid (pN v 1202 8 g)).length) - (gk kb Lb.length (([] : List Int32)).length)) ≤ ((gk kb Lb.length (([] : List Int32) ++ wid (pN v 1202 8 g)).length) - kb); omega, by show 2 * (((gk kb Lb.length (([] : List Int32)).length) - kb)) + 2 * ((gk kb Lb.length (([] : List Int32) ++ wid (pN v 1202 8 g)).length) - (gk kb Lb.length (([] : List Int32)).length)) ≤ 2 * (((gk kb Lb.length (([] : List Int32) ++ wid (pN v 1202 8 g)).length) - kb)); omega⟩ (fun S292 h292 => ?_)
      obtain ⟨ad1, W1, hH, ka, kw, hM, hC, hY⟩ := yZ.b ka kw hM hC h292
      have FF := yF hw a12 hH ka kw hM hC hY
      have hL1 := hLd.same kw hM hC hY
      have hR1 := hL1.1.2.2.1 f hf ht
      have eaf := ka (200 + 12 * f) (by omega) (by omega) (by omega)
      have A1 := hH.al hR1.1 eaf hkd.1
      have fbb : kb ≤ (gk kb Lb.length (([] : List Int32) ++ wid (pN v 1202 8 g)).length) := (gk_le _ _ _)
      refine zwid (c2 := (((gk kb Lb.length (([] : List Int32) ++ wid (pN v 1202 8 g)).length) - kb))) (s2 := 2 * (((gk kb Lb.length (([] : List Int32) ++ wid (pN v 1202 8 g)).length) - kb))) (by show (((gk kb Lb.length (([] : List Int32)).length) - kb)) + ((gk kb Lb.length (([] : List Int32) ++ wid (pN v 1202 8 g)).length) - (gk kb Lb.length (([] : List Int32)).length)) ≤ _; omega) (by show 2 * (((gk kb Lb.length (([] : List Int32)).length) - kb)) + 2 * ((gk kb Lb.length (([] : List Int32) ++ wid (pN v 1202 8 g)).length) - (gk kb Lb.length (([] : List Int32)).length)) ≤ _; omega) ?_
      refine r_goto (tgt := 366) F dX4_writeRest_295 (by decide) ?_
      exact e_vret F hr hlk ⟨_, _, hH, ka, kw, hM, hC, hY⟩ (Nat.le_refl _) (Nat.le_refl _) dX4_writeRest_366
  · refine r_table (off := 284) (tgt := 298) F dX4_writeRest_14 ((show ∀ w : Nat, w < 36 → (w = 32) → (if (nI w).toInt < 0 ∨ 35 < (nI w).toInt then some (352 : Int) else (#[158, 170, 170, 352, 352, 352, 352, 352, 352, 352, 352, 352, 352, 352, 182, 182, 182, 352, 352, 195, 195, 215, 215, 235, 235, 235, 352, 352, 170, 170, 352, 257, 284, 309, 324, 339] : Array Int)[((nI w).toInt - 0).toNat]?) = some (284 : Int) from by decide) w w36 w14) (by decide) ?_
    obtain ⟨j, hj, ej⟩ := hg.2.2.2.2.2.1 (by omega)
    obtain ⟨i9, hi9⟩ := h32 (by omega)
    have hil := plc_lt hi9
    have hl10 := nD_len _ _ hnT
    have haj : aa = nI aa.toNatClampNeg ∧ aa.toNatClampNeg < 10 := by
      rw [ej, nI_clamp (by omega)]
      exact ⟨rfl, by omega⟩
    have hwl := wid_l ((plc Ts (some aa.toNatClampNeg)).getD 0)
    have II := yI hL1 hH ka
    have hwr : (wR v Ts Ss w aa t d9) = ([] : List Int32) ++ wid ((plc Ts (some aa.toNatClampNeg)).getD 0) ++ [bv (nI 0)] := by rcases (show w = 32 by omega) with h <;> rw [h] <;> simp [wR]
    rw [hwr] at ffb ⊢
    refine r_aload_n F dX4_writeRest_298 rfl ?_
    refine r_getS (ci := 5) (k := 2) (id := 502) (C := RX4) (T := TX4) (N := 3) F G rfl (by decide) (by decide) rfl (zinL inG5) (zin kf_X4_21) (fun _ h9 => h9) dX4_writeRest_299 FF.1 FF.2.2.2.1 ?_
    refine r_aload_n F dX4_writeRest_302 rfl ?_
    refine r_getS (ci := 3) (k := 5) (id := 305) (C := RX2) (T := TX2) (N := 8) F G rfl (by decide) (by decide) rfl (zinL inG3) (zin kf_X4_89) (fun _ h9 => h9) dX4_writeRest_303 II.1 II.2.2.2.1 ?_
    refine r_iload F dX4_writeRest_306 rfl ?_
    refine zeq (y := nI aa.toNatClampNeg) haj.1 ?_
    refine v_iald F G hH (show oa W 42 from hL1.1.1.a hL1.2.2.2.2.2.2.2.2.1 (id := 305) (by decide) rfl) rfl rfl (by rw [(show onn W 42 = 10 from hL1.1.1.n hL1.2.2.2.2.2.2.2.2.1 (id := 305) (by decide) rfl (by decide))]; omega) (by rw [(show onn W 42 = 10 from hL1.1.1.n hL1.2.2.2.2.2.2.2.2.1 (id := 305) (by decide) rfl (by decide))]; decide) dX4_writeRest_308 ?_
    rw [hL1.2.2.1.2.1 _ haj.2, show enc (plc Ts (some aa.toNatClampNeg)) = nI ((plc Ts (some aa.toNatClampNeg)).getD 0) by rw [hi9]; rfl]
    have fnb : (gk kb Lb.length (([] : List Int32)).length) ≤ (gk kb Lb.length (([] : List Int32) ++ wid ((plc Ts (some aa.toNatClampNeg)).getD 0)).length) := gk_mono _ (by first | omega | (simp only [List.length_append, List.length_cons, List.length_nil]; omega))
    have ffb : (gk kb Lb.length (([] : List Int32) ++ wid ((plc Ts (some aa.toNatClampNeg)).getD 0)).length) ≤ (gk kb Lb.length (([] : List Int32) ++ wid ((plc Ts (some aa.toNatClampNeg)).getD 0) ++ [bv (nI 0)]).length) := (gk_mono _ (by first | omega | (simp only [List.length_append, List.length_cons, List.length_nil]; omega)))
    refine c_Vv (ci := 1) F G (c_nwide hH (L := Lb) (P := ([] : List Int32)) hY (ka 48 (by decide) (by decide) (by decide)) (v := (plc Ts (some aa.toNatClampNeg)).getD 0) (by rw [hi9]; show i9 < 2 ^ 31; omega) (by first | omega | (simp only [List.length_append, List.length_cons, List.length_nil]; omega))) (cwV 1 F.2.2.2.2 (zgV km_X4_155 ki_X0_wide ke_X0_X0_wide kn_X0 ko_X0_wide) rfl rfl rfl ⟨rfl, hd_yX0_wide⟩ ⟨Nat.le_of_ble_eq_true rfl, Nat.le_of_ble_eq_true rfl⟩) rfl (by decide) FF.2.2.2.2.2.2.1 rfl rfl (Nat.le_of_ble_eq_true rfl) dX4_writeRest_309 ⟨by show (((gk kb Lb.length (([] : List Int32)).length) - kb)) + ((gk kb Lb.length (([] : List Int32) ++ wid ((plc Ts (some aa.toNatClampNeg)).getD 0)).length) - (gk kb Lb.length (([] : List Int32)).length)) ≤ ((gk kb Lb.length (([] : List Int32) ++ wid ((plc Ts (some aa.toNatClampNeg)).getD 0) ++ [bv (nI 0)]).length) - kb); omega, by show 2 * (((gk kb Lb.length (([] : List Int32)).length) - kb)) + 2 * ((gk kb Lb.length (([] : List Int32) ++ wid ((plc Ts (some aa.toNatClampNeg)).getD 0)).length) - (gk kb Lb.length (([] : List Int32)).length)) ≤ 2 * (((gk kb Lb.length (([] : List Int32) ++ wid ((plc Ts (some aa.toNatClampNeg)).getD 0) ++ [bv (nI 0)]).length) - kb)); omega⟩ (fun S309 h309 => ?_)
    obtain ⟨ad1, W1, hH, ka, kw, hM, hC, hY⟩ := yZ.b ka kw hM hC h309
    have FF := yF hw a12 hH ka kw hM hC hY
    have hL1 := hLd.same kw hM hC hY
    have hR1 := hL1.1.2.2.1 f hf ht
    have eaf := ka (200 + 12 * f) (by omega) (by omega) (by omega)
    have A1 := hH.al hR1.1 eaf hkd.1
    have fbb : kb ≤ (gk kb Lb.length (([] : List Int32) ++ wid ((plc Ts (some aa.toNatClampNeg)).getD 0)).length) := (gk_le _ _ _)
    refine zwid (c2 := (((gk kb Lb.length (([] : List Int32) ++ wid ((plc Ts (some aa.toNatClampNeg)).getD 0)).length) - kb))) (s2 := 2 * (((gk kb Lb.length (([] : List Int32) ++ wid ((plc Ts (some aa.toNatClampNeg)).getD 0)).length) - kb))) (by show (((gk kb Lb.length (([] : List Int32)).length) - kb)) + ((gk kb Lb.length (([] : List Int32) ++ wid ((plc Ts (some aa.toNatClampNeg)).getD 0)).length) - (gk kb Lb.length (([] : List Int32)).length)) ≤ _; omega) (by show 2 * (((gk kb Lb.length (([] : List Int32)).length) - kb)) + 2 * ((gk kb Lb.length (([] : List Int32) ++ wid ((plc Ts (some aa.toNatClampNeg)).getD 0)).length) - (gk kb Lb.length (([] : List Int32)).length)) ≤ _; omega) ?_
    refine r_aload_n F dX4_writeRest_312 rfl ?_
    refine r_getS (ci := 5) (k := 2) (id := 502) (C := RX4) (T := TX4) (N := 3) F G rfl (by decide) (by decide) rfl (zinL inG5) (zin kf_X4_21) (fun _ h9 => h9) dX4_writeRest_313 FF.1 FF.2.2.2.1 ?_
    refine r_iconst (v := 0) F dX4_writeRest_316 (by decide) ?_
    have fnb : (gk kb Lb.length (([] : List Int32) ++ wid ((plc Ts (some aa.toNatClampNeg)).getD 0)).length) ≤ (gk kb Lb.length (([] : List Int32) ++ wid ((plc Ts (some aa.toNatClampNeg)).getD 0) ++ [bv (nI 0)]).length) := gk_mono _ (by first | omega | (simp only [List.length_append, List.length_cons, List.length_nil]; omega))
    have ffb : (gk kb Lb.length (([] : List Int32) ++ wid ((plc Ts (some aa.toNatClampNeg)).getD 0) ++ [bv (nI 0)]).length) ≤ (gk kb Lb.length (([] : List Int32) ++ wid ((plc Ts (some aa.toNatClampNeg)).getD 0) ++ [bv (nI 0)]).length) := (gk_mono _ (by first | omega | (simp only [List.length_append, List.length_cons, List.length_nil]; omega)))
    refine c_Vv (ci := 1) F G (c_nput hH (L := Lb) (P := ([] : List Int32) ++ wid ((plc Ts (some aa.toNatClampNeg)).getD 0)) hY (ka 48 (by decide) (by decide) (by decide)) (x := nI 0) (by first | omega | (simp only [List.length_append, List.length_cons, List.length_nil]; omega))) (cwV 1 F.2.2.2.2 (zgV km_X4_50 ki_X0_put ke_X0_X0_put kn_X0 ko_X0_put) rfl rfl rfl ⟨rfl, hd_yX0_put⟩ ⟨Nat.le_of_ble_eq_true rfl, Nat.le_of_ble_eq_true rfl⟩) rfl (by decide) FF.2.2.2.2.2.2.1 rfl rfl (Nat.le_of_ble_eq_true rfl) dX4_writeRest_317 ⟨by show (((gk kb Lb.length (([] : List Int32) ++ wid ((plc Ts (some aa.toNatClampNeg)).getD 0)).length) - kb)) + ((gk kb Lb.length (([] : List Int32) ++ wid ((plc Ts (some aa.toNatClampNeg)).getD 0) ++ [bv (nI 0)]).length) - (gk kb Lb.length (([] : List Int32) ++ wid ((plc Ts (some aa.toNatClampNeg)).getD 0)).length)) ≤ ((gk kb Lb.length (([] : List Int32) ++ wid ((plc Ts (some aa.toNatClampNeg)).getD 0) ++ [bv (nI 0)]).length) - kb); omega, by show 2 * (((gk kb Lb.length (([] : List Int32) ++ wid ((plc Ts (some aa.toNatClampNeg)).getD 0)).length) - kb)) + 2 * ((gk kb Lb.length (([] : List Int32) ++ wid ((plc Ts (some aa.toNatClampNeg)).getD 0) ++ [bv (nI 0)]).length) - (gk kb Lb.length (([] : List Int32) ++ wid ((plc Ts (some aa.toNatClampNeg)).getD 0)).length)) ≤ 2 * (((gk kb Lb.length (([] : List Int32) ++ wid ((plc Ts (some aa.toNatClampNeg)).getD 0) ++ [bv (nI 0)]).length) - kb)); omega⟩ (fun S317 h317 => ?_)
    obtain ⟨ad1, W1, hH, ka, kw, hM, hC, hY⟩ := yZ.b ka kw hM hC h317
    have FF := yF hw a12 hH ka kw hM hC hY
    have hL1 := hLd.same kw hM hC hY
    have hR1 := hL1.1.2.2.1 f hf ht
    have eaf := ka (200 + 12 * f) (by omega) (by omega) (by omega)
    have A1 := hH.al hR1.1 eaf hkd.1
    have fbb : kb ≤ (gk kb Lb.length (([] : List Int32) ++ wid ((plc Ts (some aa.toNatClampNeg)).getD 0) ++ [bv (nI 0)]).length) := (gk_le _ _ _)
    refine zwid (c2 := (((gk kb Lb.length (([] : List Int32) ++ wid ((plc Ts (some aa.toNatClampNeg)).getD 0) ++ [bv (nI 0)]).length) - kb))) (s2 := 2 * (((gk kb Lb.length (([] : List Int32) ++ wid ((plc Ts (some aa.toNatClampNeg)).getD 0) ++ [bv (nI 0)]).length) - kb))) (by show (((gk kb Lb.length (([] : List Int32) ++ wid ((plc Ts (some aa.toNatClampNeg)).getD 0)).length) - kb)) + ((gk kb Lb.length (([] : List Int32) ++ wid ((plc Ts (some aa.toNatClampNeg)).getD 0) ++ [bv (nI 0)]).length) - (gk kb Lb.length (([] : List Int32) ++ wid ((plc Ts (some aa.toNatClampNeg)).getD 0)).length)) ≤ _; omega) (by show 2 * (((gk kb Lb.length (([] : List Int32) ++ wid ((plc Ts (some aa.toNatClampNeg)).getD 0)).length) - kb)) + 2 * ((gk kb Lb.length (([] : List Int32) ++ wid ((plc Ts (some aa.toNatClampNeg)).getD 0) ++ [bv (nI 0)]).length) - (gk kb Lb.length (([] : List Int32) ++ wid ((plc Ts (some aa.toNatClampNeg)).getD 0)).length)) ≤ _; omega) ?_
    refine r_goto (tgt := 366) F dX4_writeRest_320 (by decide) ?_
    exact e_vret F hr hlk ⟨_, _, hH, ka, kw, hM, hC, hY⟩ (Nat.le_refl _) (Nat.le_refl _) dX4_writeRest_366
  · refine r_table (off := 309) (tgt := 323) F dX4_writeRest_14 ((show ∀ w : Nat, w < 36 → (w = 33) → (if (nI w).toInt < 0 ∨ 35 < (nI w).toInt then some (352 : Int) else (#[158, 170, 170, 352, 352, 352, 352, 352, 352, 352, 352, 352, 352, 352, 182, 182, 182, 352, 352, 195, 195, 215, 215, 235, 235, 235, 352, 352, 170, 170, 352, 257, 284, 309, 324, 339] : Array Int)[((nI w).toInt - 0).toNat]?) = some (309 : Int) from by decide) w w36 w14) (by decide) ?_
    obtain ⟨j, hj, ej, hk9⟩ := hg.2.2.2.2.2.2 (by omega)
    have hyb := (rg_1204 hv (k := f / 8) (by omega)).2
    have hy : 16 * (f / 8) + j < 96 := by omega
    have ht9 : (16 * (f / 8) + j) % 16 < cn v 1204 ((16 * (f / 8) + j) / 16) := by rw [show (16 * (f / 8) + j) / 16 = f / 8 by omega]; omega
    have hk1 : ¬ v.1 1215 (16 * (f / 8) + j) = 0 := by rw [hk9]; decide
    have edd : aO v (16 * (f / 8) + j) = d9 := by rw [← hde, ej, nI_clamp (by omega)]
    have hd31 : d9 < 2 ^ 31 := by rw [← edd]; exact Nat.lt_of_le_of_lt (Nat.le_of_lt_succ (aO_lt hv hD hy ht9 (fun z hz => by rw [hK _ hy ht9 z hz]; exact hk1))) (by decide)
    have hwl := wid_l d9
    have hwr : (wR v Ts Ss w aa t d9) = ([] : List Int32) ++ wid d9 := by rcases (show w = 33 by omega) with h <;> rw [h] <;> simp [wR]
    rw [hwr] at ffb ⊢
    refine r_aload_n F dX4_writeRest_323 rfl ?_
    refine r_getS (ci := 5) (k := 2) (id := 502) (C := RX4) (T := TX4) (N := 3) F G rfl (by decide) (by decide) rfl (zinL inG5) (zin kf_X4_21) (fun _ h9 => h9) dX4_writeRest_324 FF.1 FF.2.2.2.1 ?_
    refine r_aload_n F dX4_writeRest_327 rfl ?_
    refine r_iload_n F dX4_writeRest_328 rfl ?_
    refine c_Vi (ci := 7) F G (c_addressOf hH hL1.1 hv hD hL1.2.1 hL1.2.2.2.2.2.1 hK hA (fun _ => hk1) hf ht eaf (by omega) hj (hae.trans ej)) (cwV 1 F.2.2.2.2 (zgV km_X4_158 ki_X6_addressOf ke_X6_X6_addressOf kn_X6 ko_X6_addressOf) rfl rfl rfl ⟨rfl, hd_yX6_addressOf⟩ ⟨Nat.le_of_ble_eq_true rfl, Nat.le_of_ble_eq_true rfl⟩) rfl (by decide) A1 rfl rfl (Nat.le_of_ble_eq_true rfl) dX4_writeRest_329 ⟨by show (((gk kb Lb.length (([] : List Int32)).length) - kb)) + 0 ≤ ((gk kb Lb.length (([] : List Int32) ++ wid d9).length) - kb); omega, by show 2 * (((gk kb Lb.length (([] : List Int32)).length) - kb)) + 0 ≤ 2 * (((gk kb Lb.length (([] : List Int32) ++ wid d9).length) - kb)); omega⟩ (fun r329 S329 h329 => ?_)
    obtain ⟨er329, es329⟩ := h329
    have hs329 := es329.symm
    subst hs329
    rw [edd] at er329
    subst er329
    refine zwid (c2 := (((gk kb Lb.length (([] : List Int32)).length) - kb))) (s2 := 2 * (((gk kb Lb.length (([] : List Int32)).length) - kb))) (Nat.le_refl _) (Nat.le_refl _) ?_
    have fnb : (gk kb Lb.length (([] : List Int32)).length) ≤ (gk kb Lb.length (([] : List Int32) ++ wid d9).length) := gk_mono _ (by first | omega | (simp only [List.length_append, List.length_cons, List.length_nil]; omega))
    have ffb : (gk kb Lb.length (([] : List Int32) ++ wid d9).length) ≤ (gk kb Lb.length (([] : List Int32) ++ wid d9).length) := (gk_mono _ (by first | omega | (simp only [List.length_append, List.length_cons, List.length_nil]; omega)))
    refine c_Vv (ci := 1) F G (c_nwide hH (L := Lb) (P := ([] : List Int32)) hY (ka 48 (by decide) (by decide) (by decide)) (v := d9) hd31 (by first | omega | (simp only [List.length_append, List.length_cons, List.length_nil]; omega))) (cwV 1 F.2.2.2.2 (zgV km_X4_155 ki_X0_wide ke_X0_X0_wide kn_X0 ko_X0_wide) rfl rfl rfl ⟨rfl, hd_yX0_wide⟩ ⟨Nat.le_of_ble_eq_true rfl, Nat.le_of_ble_eq_true rfl⟩) rfl (by decide) FF.2.2.2.2.2.2.1 rfl rfl (Nat.le_of_ble_eq_true rfl) dX4_writeRest_332 ⟨by show (((gk kb Lb.length (([] : List Int32)).length) - kb)) + ((gk kb Lb.length (([] : List Int32) ++ wid d9).length) - (gk kb Lb.length (([] : List Int32)).length)) ≤ ((gk kb Lb.length (([] : List Int32) ++ wid d9).length) - kb); omega, by show 2 * (((gk kb Lb.length (([] : List Int32)).length) - kb)) + 2 * ((gk kb Lb.length (([] : List Int32) ++ wid d9).length) - (gk kb Lb.length (([] : List Int32)).length)) ≤ 2 * (((gk kb Lb.length (([] : List Int32) ++ wid d9).length) - kb)); omega⟩ (fun S332 h332 => ?_)
    obtain ⟨ad1, W1, hH, ka, kw, hM, hC, hY⟩ := yZ.b ka kw hM hC h332
    have FF := yF hw a12 hH ka kw hM hC hY
    have hL1 := hLd.same kw hM hC hY
    have hR1 := hL1.1.2.2.1 f hf ht
    have eaf := ka (200 + 12 * f) (by omega) (by omega) (by omega)
    have A1 := hH.al hR1.1 eaf hkd.1
    have fbb : kb ≤ (gk kb Lb.length (([] : List Int32) ++ wid d9).length) := (gk_le _ _ _)
    refine zwid (c2 := (((gk kb Lb.length (([] : List Int32) ++ wid d9).length) - kb))) (s2 := 2 * (((gk kb Lb.length (([] : List Int32) ++ wid d9).length) - kb))) (by show (((gk kb Lb.length (([] : List Int32)).length) - kb)) + ((gk kb Lb.length (([] : List Int32) ++ wid d9).length) - (gk kb Lb.length (([] : List Int32)).length)) ≤ _; omega) (by show 2 * (((gk kb Lb.length (([] : List Int32)).length) - kb)) + 2 * ((gk kb Lb.length (([] : List Int32) ++ wid d9).length) - (gk kb Lb.length (([] : List Int32)).length)) ≤ _; omega) ?_
    refine r_goto (tgt := 366) F dX4_writeRest_335 (by decide) ?_
    exact e_vret F hr hlk ⟨_, _, hH, ka, kw, hM, hC, hY⟩ (Nat.le_refl _) (Nat.le_refl _) dX4_writeRest_366
  · refine r_table (off := 324) (tgt := 338) F dX4_writeRest_14 ((show ∀ w : Nat, w < 36 → (w = 34) → (if (nI w).toInt < 0 ∨ 35 < (nI w).toInt then some (352 : Int) else (#[158, 170, 170, 352, 352, 352, 352, 352, 352, 352, 352, 352, 352, 352, 182, 182, 182, 352, 352, 195, 195, 215, 215, 235, 235, 235, 352, 352, 170, 170, 352, 257, 284, 309, 324, 339] : Array Int)[((nI w).toInt - 0).toNat]?) = some (324 : Int) from by decide) w w36 w14) (by decide) ?_
    have h34 : w = 34 := by omega
    obtain ⟨j, hj, ej, hk9⟩ := hg.2.2.2.2.1 (Or.inr h34)
    have hyb := (rg_1204 hv (k := f / 8) (by omega)).2
    have hy : 16 * (f / 8) + j < 96 := by omega
    have ht9 : (16 * (f / 8) + j) % 16 < cn v 1204 ((16 * (f / 8) + j) / 16) := by rw [show (16 * (f / 8) + j) / 16 = f / 8 by omega]; omega
    have etg : tgt v (16 * (f / 8) + j) = t := by
      rw [← hte, ej, nI_clamp (by omega)]
      exact tgt_fO (fun z hz => (hK _ hy ht9 z hz).trans hk9) (fun _ => hk9)
    have hl48 := nD_len _ _ hnS
    have hsl := slN_le Ss t
    have hwl := wid_l (slN Ss t)
    have hwr : (wR v Ts Ss w aa t d9) = ([] : List Int32) ++ wid (slN Ss t) := by rcases (show w = 34 by omega) with h <;> rw [h] <;> simp [wR]
    rw [hwr] at ffb ⊢
    refine r_aload_n F dX4_writeRest_338 rfl ?_
    refine r_getS (ci := 5) (k := 2) (id := 502) (C := RX4) (T := TX4) (N := 3) F G rfl (by decide) (by decide) rfl (zinL inG5) (zin kf_X4_21) (fun _ h9 => h9) dX4_writeRest_339 FF.1 FF.2.2.2.1 ?_
    refine r_aload_n F dX4_writeRest_342 rfl ?_
    refine r_iload_n F dX4_writeRest_343 rfl ?_
    refine c_Vi (ci := 7) F G (c_slotOf hH hL1.1 hv hD hL1.2.1 hL1.2.2.2.1 hA hf ht eaf (by omega) hj (hae.trans ej)) (cwV 1 F.2.2.2.2 (zgV km_X4_162 ki_X6_slotOf ke_X6_X6_slotOf kn_X6 ko_X6_slotOf) rfl rfl rfl ⟨rfl, hd_yX6_slotOf⟩ ⟨Nat.le_of_ble_eq_true rfl, Nat.le_of_ble_eq_true rfl⟩) rfl (by decide) A1 rfl rfl (Nat.le_of_ble_eq_true rfl) dX4_writeRest_344 ⟨by show (((gk kb Lb.length (([] : List Int32)).length) - kb)) + 0 ≤ ((gk kb Lb.length (([] : List Int32) ++ wid (slN Ss t)).length) - kb); omega, by show 2 * (((gk kb Lb.length (([] : List Int32)).length) - kb)) + 0 ≤ 2 * (((gk kb Lb.length (([] : List Int32) ++ wid (slN Ss t)).length) - kb)); omega⟩ (fun r344 S344 h344 => ?_)
    obtain ⟨er344, es344⟩ := h344
    have hs344 := es344.symm
    subst hs344
    rw [etg] at er344
    subst er344
    refine zwid (c2 := (((gk kb Lb.length (([] : List Int32)).length) - kb))) (s2 := 2 * (((gk kb Lb.length (([] : List Int32)).length) - kb))) (Nat.le_refl _) (Nat.le_refl _) ?_
    have fnb : (gk kb Lb.length (([] : List Int32)).length) ≤ (gk kb Lb.length (([] : List Int32) ++ wid (slN Ss t)).length) := gk_mono _ (by first | omega | (simp only [List.length_append, List.length_cons, List.length_nil]; omega))
    have ffb : (gk kb Lb.length (([] : List Int32) ++ wid (slN Ss t)).length) ≤ (gk kb Lb.length (([] : List Int32) ++ wid (slN Ss t)).length) := (gk_mono _ (by first | omega | (simp only [List.length_append, List.length_cons, List.length_nil]; omega)))
    refine c_Vv (ci := 1) F G (c_nwide hH (L := Lb) (P := ([] : List Int32)) hY (ka 48 (by decide) (by decide) (by decide)) (v := slN Ss t) (by omega) (by first | omega | (simp only [List.length_append, List.length_cons, List.length_nil]; omega))) (cwV 1 F.2.2.2.2 (zgV km_X4_155 ki_X0_wide ke_X0_X0_wide kn_X0 ko_X0_wide) rfl rfl rfl ⟨rfl, hd_yX0_wide⟩ ⟨Nat.le_of_ble_eq_true rfl, Nat.le_of_ble_eq_true rfl⟩) rfl (by decide) FF.2.2.2.2.2.2.1 rfl rfl (Nat.le_of_ble_eq_true rfl) dX4_writeRest_347 ⟨by show (((gk kb Lb.length (([] : List Int32)).length) - kb)) + ((gk kb Lb.length (([] : List Int32) ++ wid (slN Ss t)).length) - (gk kb Lb.length (([] : List Int32)).length)) ≤ ((gk kb Lb.length (([] : List Int32) ++ wid (slN Ss t)).length) - kb); omega, by show 2 * (((gk kb Lb.length (([] : List Int32)).length) - kb)) + 2 * ((gk kb Lb.length (([] : List Int32) ++ wid (slN Ss t)).length) - (gk kb Lb.length (([] : List Int32)).length)) ≤ 2 * (((gk kb Lb.length (([] : List Int32) ++ wid (slN Ss t)).length) - kb)); omega⟩ (fun S347 h347 => ?_)
    obtain ⟨ad1, W1, hH, ka, kw, hM, hC, hY⟩ := yZ.b ka kw hM hC h347
    have FF := yF hw a12 hH ka kw hM hC hY
    have hL1 := hLd.same kw hM hC hY
    have hR1 := hL1.1.2.2.1 f hf ht
    have eaf := ka (200 + 12 * f) (by omega) (by omega) (by omega)
    have A1 := hH.al hR1.1 eaf hkd.1
    have fbb : kb ≤ (gk kb Lb.length (([] : List Int32) ++ wid (slN Ss t)).length) := (gk_le _ _ _)
    refine zwid (c2 := (((gk kb Lb.length (([] : List Int32) ++ wid (slN Ss t)).length) - kb))) (s2 := 2 * (((gk kb Lb.length (([] : List Int32) ++ wid (slN Ss t)).length) - kb))) (by show (((gk kb Lb.length (([] : List Int32)).length) - kb)) + ((gk kb Lb.length (([] : List Int32) ++ wid (slN Ss t)).length) - (gk kb Lb.length (([] : List Int32)).length)) ≤ _; omega) (by show 2 * (((gk kb Lb.length (([] : List Int32)).length) - kb)) + 2 * ((gk kb Lb.length (([] : List Int32) ++ wid (slN Ss t)).length) - (gk kb Lb.length (([] : List Int32)).length)) ≤ _; omega) ?_
    refine r_goto (tgt := 366) F dX4_writeRest_350 (by decide) ?_
    exact e_vret F hr hlk ⟨_, _, hH, ka, kw, hM, hC, hY⟩ (Nat.le_refl _) (Nat.le_refl _) dX4_writeRest_366
  · refine r_table (off := 339) (tgt := 353) F dX4_writeRest_14 ((show ∀ w : Nat, w < 36 → (w = 35) → (if (nI w).toInt < 0 ∨ 35 < (nI w).toInt then some (352 : Int) else (#[158, 170, 170, 352, 352, 352, 352, 352, 352, 352, 352, 352, 352, 352, 182, 182, 182, 352, 352, 195, 195, 215, 215, 235, 235, 235, 352, 352, 170, 170, 352, 257, 284, 309, 324, 339] : Array Int)[((nI w).toInt - 0).toNat]?) = some (339 : Int) from by decide) w w36 w14) (by decide) ?_
    have hsb := sgn_b (nI 1024)
    have hwr : (wR v Ts Ss w aa t d9) = ([] : List Int32) ++ sgn (nI 1024) := by rcases (show w = 35 by omega) with h <;> rw [h] <;> simp [wR]
    rw [hwr] at ffb ⊢
    refine r_aload_n F dX4_writeRest_353 rfl ?_
    refine r_getS (ci := 5) (k := 2) (id := 502) (C := RX4) (T := TX4) (N := 3) F G rfl (by decide) (by decide) rfl (zinL inG5) (zin kf_X4_21) (fun _ h9 => h9) dX4_writeRest_354 FF.1 FF.2.2.2.1 ?_
    refine r_sipush (v := 1024) F dX4_writeRest_357 (by decide) ?_
    have fnb : (gk kb Lb.length (([] : List Int32)).length) ≤ (gk kb Lb.length (([] : List Int32) ++ sgn (nI 1024)).length) := gk_mono _ (by first | omega | (simp only [List.length_append, List.length_cons, List.length_nil]; omega))
    have ffb : (gk kb Lb.length (([] : List Int32) ++ sgn (nI 1024)).length) ≤ (gk kb Lb.length (([] : List Int32) ++ sgn (nI 1024)).length) := (gk_mono _ (by first | omega | (simp only [List.length_append, List.length_cons, List.length_nil]; omega)))
    refine c_Vv (ci := 1) F G (c_nsigned hH (L := Lb) (P := ([] : List Int32)) hY (ka 48 (by decide) (by decide) (by decide)) (x := nI 1024) (by first | omega | (simp only [List.length_append, List.length_cons, List.length_nil]; omega))) (cwV 1 F.2.2.2.2 (zgV km_X4_122 ki_X0_signed ke_X0_X0_signed kn_X0 ko_X0_signed) rfl rfl rfl ⟨rfl, hd_yX0_signed⟩ ⟨Nat.le_of_ble_eq_true rfl, Nat.le_of_ble_eq_true rfl⟩) rfl (by decide) FF.2.2.2.2.2.2.1 rfl rfl (Nat.le_of_ble_eq_true rfl) dX4_writeRest_360 ⟨by show (((gk kb Lb.length (([] : List Int32)).length) - kb)) + ((gk kb Lb.length (([] : List Int32) ++ sgn (nI 1024)).length) - (gk kb Lb.length (([] : List Int32)).length)) ≤ ((gk kb Lb.length (([] : List Int32) ++ sgn (nI 1024)).length) - kb); omega, by show 2 * (((gk kb Lb.length (([] : List Int32)).length) - kb)) + 2 * ((gk kb Lb.length (([] : List Int32) ++ sgn (nI 1024)).length) - (gk kb Lb.length (([] : List Int32)).length)) ≤ 2 * (((gk kb Lb.length (([] : List Int32) ++ sgn (nI 1024)).length) - kb)); omega⟩ (fun S360 h360 => ?_)
    obtain ⟨ad1, W1, hH, ka, kw, hM, hC, hY⟩ := yZ.b ka kw hM hC h360
    have FF := yF hw a12 hH ka kw hM hC hY
    have hL1 := hLd.same kw hM hC hY
    have hR1 := hL1.1.2.2.1 f hf ht
    have eaf := ka (200 + 12 * f) (by omega) (by omega) (by omega)
    have A1 := hH.al hR1.1 eaf hkd.1
    have fbb : kb ≤ (gk kb Lb.length (([] : List Int32) ++ sgn (nI 1024)).length) := (gk_le _ _ _)
    refine zwid (c2 := (((gk kb Lb.length (([] : List Int32) ++ sgn (nI 1024)).length) - kb))) (s2 := 2 * (((gk kb Lb.length (([] : List Int32) ++ sgn (nI 1024)).length) - kb))) (by show (((gk kb Lb.length (([] : List Int32)).length) - kb)) + ((gk kb Lb.length (([] : List Int32) ++ sgn (nI 1024)).length) - (gk kb Lb.length (([] : List Int32)).length)) ≤ _; omega) (by show 2 * (((gk kb Lb.length (([] : List Int32)).length) - kb)) + 2 * ((gk kb Lb.length (([] : List Int32) ++ sgn (nI 1024)).length) - (gk kb Lb.length (([] : List Int32)).length)) ≤ _; omega) ?_
    refine r_goto (tgt := 366) F dX4_writeRest_363 (by decide) ?_
    exact e_vret F hr hlk ⟨_, _, hH, ka, kw, hM, hC, hY⟩ (Nat.le_refl _) (Nat.le_refl _) dX4_writeRest_366
