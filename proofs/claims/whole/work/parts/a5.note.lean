theorem slN_hit {Ss : List Nat} {x k : Nat} (h : plc Ss (some x) = some k) : slN Ss (some x) = k + 1 := by
  unfold slN
  rw [h]
theorem slN_no {Ss : List Nat} {x : Nat} (h : plc Ss (some x) = none) : slN Ss (some x) = 0 := by
  unfold slN
  rw [h]
theorem slN_ne {Ss : List Nat} {x z : Nat} (h : z ≠ x) : slN (Ss ++ [x]) (some z) = slN Ss (some z) := by
  unfold slN
  rw [plc_hitn h]
theorem slN_le (Ss : List Nat) (x : Option Nat) : slN Ss x ≤ Ss.length := by
  unfold slN
  cases h : plc Ss x with
  | none => exact Nat.zero_le _
  | some k => exact plc_lt h
theorem CC_add {Ss : List Nat} {x : Nat} : CC Ss.length ≤ CC (addT Ss x).length ∧ CS Ss.length ≤ CS (addT Ss x).length := by
  unfold addT
  split
  · rw [List.length_append]
    exact ⟨Nat.le_add_right _ _, Nat.le_add_right _ _⟩
  · exact ⟨Nat.le_refl _, Nat.le_refl _⟩
set_option maxRecDepth 100000 in
set_option maxHeartbeats 4000000 in
theorem c_noteSlot0 {l : Launch} {N0 t0 : Nat} {D : va_G} {cy : Nat → ClassId} {S : zS} {a : Nat} : zMv l yX2_noteSlot (zws yX2_noteSlot cX2_noteSlot 2 none) { frames := 7, cells := 0, slots := 0, locals := 169 } N0 t0 D cy S [.ref a, .null] (fun S' => S' = S) 0 0 := by
  refine zMv.of (cc := cX2_noteSlot) (maxL := 2) (ret := none) (by decide) rfl (Nat.le_of_ble_eq_true rfl) ?_
  intro p e s m args below meth c F G hr hlk hnm
  refine r_aload_nQ (x := none) F dX2_noteSlot_0 rfl ?_
  refine r_ifnullN (tgt := 35) F dX2_noteSlot_1 (by decide) ?_
  exact e_vret F hr hlk rfl (by decide) (by decide) dX2_noteSlot_35
set_option maxRecDepth 100000 in
set_option maxHeartbeats 4000000 in
theorem c_noteSlot {l : Launch} {N0 t0 : Nat} {D : va_G} {cy : Nat → ClassId} {S : zS} {X : Nat → Prop} {S0 : zS} {ad : Nat → Nat} {W : zO} (hH : zH t0 X S0 ad W S) {v : zV} {Ss : List Nat} {g : Nat} (hB : Bld v W) (hU : nuS v W Ss) (hn : nD Ss 48) (hg : g < 48) (ht : g % 8 < cn v 1202 (g / 8)) (a10 : oa W 10) : zMv l yX2_noteSlot (zws yX2_noteSlot cX2_noteSlot 2 none) { frames := 7, cells := (CC (addT Ss g).length - CC Ss.length), slots := (CS (addT Ss g).length - CS Ss.length), locals := 169 } N0 t0 D cy S [.ref (ad 10), .ref (ad (200 + 12 * g))] (fun S' => ∃ (ad' : Nat → Nat) (W' : zO), zH t0 X S0 ad' W' S' ∧ (∀ d, d ≠ 39 → ad' d = ad d) ∧ nuA W W' ∧ nuS v W' (addT Ss g) ∧ (∀ d, d ≠ 38 → d ≠ 39 → d ≠ 200 + 12 * g → W' d = W d) ∧ ∀ d, d ≠ 38 → d ≠ 39 → oi W' d 711 = oi W d 711) (CC (addT Ss g).length - CC Ss.length) (CS (addT Ss g).length - CS Ss.length) := by
  refine zMv.of (cc := cX2_noteSlot) (maxL := 2) (ret := none) (by decide) rfl (Nat.le_of_ble_eq_true rfl) ?_
  intro p e s m args below meth c F G hr hlk hnm
  have hw := hB.1
  have hR := hB.2.2.1 g hg ht
  have hk := (kd_r g hg).1
  have A0 : zA S (ad 10) 3 := hH.al a10 rfl rfl
  have A1 : zA S (ad (200 + 12 * g)) 7 := hH.al hR.1 rfl hk
  have Q1 : zq S 303 (ad 10) = some (ad 38) := hH.qS a10 rfl (by decide) (hw.q a10 (by decide) rfl) rfl
  have I1 : zi S 712 (ad (200 + 12 * g)) = nI (slN Ss (some g)) := (hH.i hR.1 rfl (by rw [hk]; decide)).trans (hU.2 g hg ht)
  have hl := nD_len _ _ hn
  have hsl := slN_le Ss (some g)
  refine r_aload_n F dX2_noteSlot_0 rfl ?_
  refine r_ifnull F dX2_noteSlot_1 ?_
  refine r_aload_n F dX2_noteSlot_4 rfl ?_
  refine r_getiS (ci := 7) (k := 12) (id := 712) (C := RX6) (T := TX6) (N := 13) F G rfl (by decide) (by decide) rfl (zinL inG7) (zin kf_X2_105) (fun _ h9 => h9) dX2_noteSlot_5 A1 I1 ?_
  refine r_if_ne (tgt := 35) F dX2_noteSlot_8 (by decide) (fun c8 => ?_) (fun c8 => ?_)
  · obtain ⟨j, hj⟩ : ∃ j, plc Ss (some g) = some j := by
      cases he : plc Ss (some g) with
      | some j => exact ⟨j, rfl⟩
      | none => exact absurd (show nI (slN Ss (some g)) = 0 by rw [slN_no he]; rfl) c8
    exact e_vret F hr hlk ⟨ad, W, hH, fun _ _ => rfl, nuA.rf, by rw [addT_hit hj]; exact hU, fun _ _ _ _ => rfl, fun _ _ _ => rfl⟩ (Nat.zero_le _) (Nat.zero_le _) dX2_noteSlot_35
  · have hpn : plc Ss (some g) = none := by
      cases he : plc Ss (some g) with
      | none => rfl
      | some j =>
        rw [slN_hit he, nl0, nI_eq (by have := plc_lt he; omega) (by omega)] at c8
        omega
    have hadd := addT_new hpn
    have hl2 : Ss.length < 48 := by
      have h9 := nD_len _ _ (hn.add hg)
      rw [hadd, List.length_append] at h9
      exact h9
    have hCC : CC (addT Ss g).length = CC Ss.length + chC Ss.length ∧ CS (addT Ss g).length = CS Ss.length + chS Ss.length := by
      rw [hadd, List.length_append]
      exact ⟨rfl, rfl⟩
    have hal : ∀ i, i < Ss.length → kd (200 + 12 * Ss.getD i 0) = 7 := fun i hi => (kd_r _ (hn.2 _ (getD_mem hi))).1
    have hrow := hU.1.row hH rfl (ci := 7) hal (by omega)
    have K0 : zA S (ad 38) 0 := hU.1.al hH rfl rfl
    refine r_aload_n F dX2_noteSlot_11 rfl ?_
    refine r_getS (ci := 3) (k := 3) (id := 303) (C := RX2) (T := TX2) (N := 8) F G rfl (by decide) (by decide) rfl (zinL inG3) (zin kf_X2_24) (fun _ h9 => h9) dX2_noteSlot_12 A0 Q1 ?_
    refine r_aload_n F dX2_noteSlot_15 rfl ?_
    refine c_Fi (ci := 0) F G (k_add K0 (hU.1.E hH rfl rfl) (hU.1.z hH rfl rfl) (ci := 7) (by decide) rfl (List.mem_of_getElem? (i := 6) rfl) A1 hrow) (va_cwF 1 F.2.2.2.2 (zgF km_X2_52 ke_Jx4a65c_Jxbd725_add ki_Jx4a65c_add_9ea2d kn_Jx4a65c ko_Jx4a65c_add_9ea2d) rfl rfl rfl (G.2.2.2.2.1 (⟨"java/util/List", "add", "(Ljava/lang/Object;)Z"⟩, yJx4a65c_add_9ea2d) (List.mem_of_getElem? (i := 3) rfl)) hdF_add ⟨Nat.le_of_ble_eq_true rfl, Nat.le_of_ble_eq_true rfl⟩) rfl (by decide) K0 rfl rfl (Nat.le_of_ble_eq_true rfl) dX2_noteSlot_16 ⟨by show 0 + chC Ss.length ≤ (CC (addT Ss g).length - CC Ss.length); omega, by show 0 + chS Ss.length ≤ (CS (addT Ss g).length - CS Ss.length); omega⟩ (fun r16 S16 h16 => ?_)
    obtain ⟨q1, h16⟩ := h16
    obtain ⟨ad7, W7, hH7, g7, hl7, w9⟩ := hU.1.add hH (by decide) rfl rfl hR.1 (by omega) rfl rfl h16
    have eR := w9 (200 + 12 * g) (by omega) (by omega)
    have ea7 : ad7 (200 + 12 * g) = ad (200 + 12 * g) := g7 _ (by omega)
    have hR7 : oa W7 (200 + 12 * g) := by show (W7 (200 + 12 * g)).1; rw [eR]; exact hR.1
    have a107 : oa W7 10 := by show (W7 10).1; rw [w9 10 (by decide) (by decide)]; exact a10
    have hw7 : wr W7 := (nuA.s w9).wr hw hl7.1
    clear A0 A1 Q1 I1 K0 hrow
    have A0 : zA S16 (ad 10) 3 := hH7.al a107 (g7 10 (by decide)) rfl
    have A1 : zA S16 (ad (200 + 12 * g)) 7 := hH7.al hR7 ea7 hk
    have Q1 : zq S16 303 (ad 10) = some (ad 38) := hH7.qS a107 (g7 10 (by decide)) (by decide) (hw7.q a107 (by decide) rfl) (g7 38 (by decide))
    have L0 : zA S16 (ad 38) 0 := hl7.al hH7 rfl (g7 38 (by decide))
    have L1 : zi S16 2 (ad 38) = nI (Ss.length + 1) := hl7.z hH7 rfl (g7 38 (by decide))
    refine r_pop F dX2_noteSlot_21 rfl ?_
    refine r_aload_n F dX2_noteSlot_22 rfl ?_
    refine r_aload_n F dX2_noteSlot_23 rfl ?_
    refine r_getS (ci := 3) (k := 3) (id := 303) (C := RX2) (T := TX2) (N := 8) F G rfl (by decide) (by decide) rfl (zinL inG3) (zin kf_X2_24) (fun _ h9 => h9) dX2_noteSlot_24 A0 Q1 ?_
    refine c_Fi (ci := 0) F G (k_ListSize L0) (va_cwF 0 F.2.2.2.2 (zgF km_X2_39 ke_Jx4a65c_Jxbd725_size ki_Jx4a65c_size_8abf5 kn_Jx4a65c ko_Jx4a65c_size_8abf5) rfl rfl rfl (G.2.2.2.2.1 (⟨"java/util/List", "size", "()I"⟩, yJx4a65c_size_8abf5) (List.mem_of_getElem? (i := 0) rfl)) hdF_size ⟨Nat.le_of_ble_eq_true rfl, Nat.le_of_ble_eq_true rfl⟩) rfl (by decide) L0 rfl rfl (Nat.le_of_ble_eq_true rfl) dX2_noteSlot_27 ⟨by show 0 + chC Ss.length + 0 ≤ (CC (addT Ss g).length - CC Ss.length); omega, by show 0 + chS Ss.length + 0 ≤ (CS (addT Ss g).length - CS Ss.length); omega⟩ (fun r27 S27 h27 => ?_)
    obtain ⟨h27a, h27b⟩ := h27
    have h27c := h27b.symm
    subst h27c
    rw [L1] at h27a
    subst h27a
    refine r_puti (ci := 7) (k := 12) (id := 712) (C := RX6) (T := TX6) (N := 13) (ty := .int) (ty0 := tyX6) F G rfl (by decide) (by decide) rfl (zinL inG7) (zin kf_X2_105) (fun _ h9 => h9) tyX6_ok nmX6 rfl pd7_12 rfl rfl dX2_noteSlot_32 A1 ?_
    refine zgen (P := zH t0 X S0 ad7 (oI W7 (200 + 12 * g) 712 (nI (Ss.length + 1)))) (hH7.pi hR7 ea7 hk (by decide) _) (fun S hH => ?_)
    have sC : ∀ d, d ≠ 200 + 12 * g → oI W7 (200 + 12 * g) 712 (nI (Ss.length + 1)) d = W7 d := fun d hd => va_up_ne _ _ hd
    refine e_vret F hr hlk ⟨ad7, _, hH, g7, (nuA.s w9).tr (nuA.i (Or.inr ⟨g, hg, rfl⟩) (Or.inr (Or.inr rfl))), ?_, fun d h1 h2 h3 => (sC d h3).trans (w9 d h1 h2), fun d h1 h2 => ?_⟩ (by omega) (by omega) dX2_noteSlot_35
    · rw [hadd]
      refine ⟨?_, fun f hf hft => ?_⟩
      · rw [List.length_append]
        refine (hl7.same (sC 38 (by omega)) (sC 39 (by omega))).cg (fun i hi => ?_)
        by_cases e9 : i = Ss.length
        · rw [e9, va_up_self, List.getD_eq_getElem?_getD, List.getElem?_append_right (Nat.le_refl _), Nat.sub_self]
          rfl
        · rw [va_up_ne _ _ e9, List.getD_eq_getElem?_getD, List.getD_eq_getElem?_getD, List.getElem?_append_left (by omega)]
      · by_cases e9 : f = g
        · rw [e9, slN_hit (plc_hits hpn)]
          exact oI_s
        · rw [slN_ne e9]
          show (oI W7 (200 + 12 * g) 712 (nI (Ss.length + 1)) (200 + 12 * f)).2.1 712 = _
          rw [sC _ (by omega), w9 _ (by omega) (by omega)]
          exact hU.2 f hf hft
    · by_cases e9 : d = 200 + 12 * g
      · rw [e9]
        show (oI W7 (200 + 12 * g) 712 (nI (Ss.length + 1)) (200 + 12 * g)).2.1 711 = _
        rw [show oI W7 (200 + 12 * g) 712 (nI (Ss.length + 1)) (200 + 12 * g) = eI (W7 (200 + 12 * g)) 712 (nI (Ss.length + 1)) from va_up_self _ _ _]
        show va_up (W7 (200 + 12 * g)).2.1 712 (nI (Ss.length + 1)) 711 = _
        rw [va_up_ne _ _ (by decide), eR]
      · show (oI W7 (200 + 12 * g) 712 (nI (Ss.length + 1)) d).2.1 711 = _
        rw [sC d e9, w9 d h1 h2]
theorem nuT.same {W W' : zO} {Ts : List Nat} (h : nuT W Ts) (h1 : W' 10 = W 10) (h2 : W' 40 = W 40) (h3 : W' 42 = W 42) : nuT W' Ts := by
  unfold nuT oi ori
  rw [h1, h2, h3]
  exact h
theorem nuS.same {v : zV} {W W' : zO} {Ss : List Nat} (h : nuS v W Ss) (hs : ∀ d, d ≠ 10 → d ≠ 40 → d ≠ 42 → W' d = W d) : nuS v W' Ss := by
  refine ⟨h.1.same (hs _ (by decide) (by decide) (by decide)) (hs _ (by decide) (by decide) (by decide)), fun f hf ht => ?_⟩
  show (W' (200 + 12 * f)).2.1 712 = _
  rw [hs _ (by omega) (by omega) (by omega)]
  exact h.2 f hf ht
set_option maxRecDepth 100000 in
set_option maxHeartbeats 4000000 in
theorem c_noteWord {l : Launch} {N0 t0 : Nat} {D : va_G} {cy : Nat → ClassId} {S : zS} {X : Nat → Prop} {S0 : zS} {ad : Nat → Nat} {W : zO} (hH : zH t0 X S0 ad W S) {v : zV} {f k : Nat} {p9 : List Nat × List Nat} (hB : Bld v W) (hv : vRg v) (hA : vA v) (hD : vD v) (hSr : SrcOK v W) (hK : kEq v) (hf : f < 48) (ht : f % 8 < cn v 1202 (f / 8)) (hkk : k < cn v 1208 f) (hg : gW v f (cn v 1209 (60 * f + k)) (v.1 1210 (60 * f + k))) (hT : nuT W p9.1) (hU : nuS v W p9.2) (hn1 : nD p9.1 10) (hn2 : nD p9.2 48) (a10 : oa W 10) : zMv l yX2_noteWord (zws yX2_noteWord cX2_noteWord 3 none) { frames := 8, cells := (CC (wdS v f k p9).2.length - CC p9.2.length), slots := (CS (wdS v f k p9).2.length - CS p9.2.length), locals := 190 } N0 t0 D cy S [.ref (ad 10), .ref (ad (200 + 12 * f)), .int (nI k)] (fun S' => ∃ (ad' : Nat → Nat) (W' : zO), zH t0 X S0 ad' W' S' ∧ (∀ d, d ≠ 39 → ad' d = ad d) ∧ nuA W W' ∧ nuT W' (wdS v f k p9).1 ∧ nuS v W' (wdS v f k p9).2 ∧ ∀ f, oi W' (200 + 12 * f) 711 = oi W (200 + 12 * f) 711) (CC (wdS v f k p9).2.length - CC p9.2.length) (CS (wdS v f k p9).2.length - CS p9.2.length) := by
  refine zMv.of (cc := cX2_noteWord) (maxL := 3) (ret := none) (by decide) rfl (Nat.le_of_ble_eq_true rfl) ?_
  intro p e s m args below meth c F G hr hlk hnm
  have hR := hB.2.2.1 f hf ht
  have hkd := kd_r f hf
  have h60 := (rg_1208 hv hf).2
  have hw36 := rg_1209 hv (k := 60 * f + k) (by omega)
  have hw362 := hw36.2
  have A0 : zA S (ad 10) 3 := hH.al a10 rfl rfl
  have A1 : zA S (ad (200 + 12 * f)) 7 := hH.al hR.1 rfl hkd.1
  have Q1 : zq S 705 (ad (200 + 12 * f)) = some (ad (200 + 12 * f + 2)) := hH.qS hR.1 rfl (by rw [hkd.1]; decide) (hB.1.q hR.1 (by decide) hkd.1) rfl
  have Q2 : zq S 706 (ad (200 + 12 * f)) = some (ad (200 + 12 * f + 4)) := hH.qS hR.1 rfl (by rw [hkd.1]; decide) (hB.1.q hR.1 (by decide) hkd.1) rfl
  have b2 : oa W (200 + 12 * f + 2) := hB.1.a hR.1 (id := 705) (by decide) hkd.1
  have b4 : oa W (200 + 12 * f + 4) := hB.1.a hR.1 (id := 706) (by decide) hkd.1
  have n2 : onn W (200 + 12 * f + 2) = 60 := hB.1.n hR.1 (id := 705) (by decide) hkd.1 (by decide)
  have n4 : onn W (200 + 12 * f + 4) = 60 := hB.1.n hR.1 (id := 706) (by decide) hkd.1 (by decide)
  have e2 : ori W (200 + 12 * f + 2) k = nI (cn v 1209 (60 * f + k)) := (hR.2.2.2.2.2.2.2.1 k (by omega)).trans hw36.1
  have e4 : ori W (200 + 12 * f + 4) k = v.1 1210 (60 * f + k) := hR.2.2.2.2.2.2.2.2 k (by omega)
  generalize hwe : cn v 1209 (60 * f + k) = w at e2 hg hw362
  clear hw36
  by_cases h32 : w = 32
  · obtain ⟨j, hj, ej⟩ := hg.2.2.2.2.2.1 h32
    refine r_aload_n F dX2_noteWord_0 rfl ?_
    refine r_getS (ci := 7) (k := 5) (id := 705) (C := RX6) (T := TX6) (N := 13) F G rfl (by decide) (by decide) rfl (zinL inG7) (zin kf_X2_72) (fun _ h9 => h9) dX2_noteWord_1 A1 Q1 ?_
    refine r_iload_n F dX2_noteWord_4 rfl ?_
    refine v_iald F G hH b2 rfl hkd.2.1 (by rw [n2]; omega) (by rw [n2]; decide) dX2_noteWord_5 ?_
    rw [e2]
    refine r_bipush (v := 32) F dX2_noteWord_6 (by decide) ?_
    refine r_icmp_ne (tgt := 21) F dX2_noteWord_8 (by decide) (fun h9 => absurd (show nI w = 32 by rw [h32]; rfl) h9) (fun _ => ?_)
    refine r_aload_n F dX2_noteWord_11 rfl ?_
    refine r_aload_n F dX2_noteWord_12 rfl ?_
    refine r_getS (ci := 7) (k := 6) (id := 706) (C := RX6) (T := TX6) (N := 13) F G rfl (by decide) (by decide) rfl (zinL inG7) (zin kf_X2_119) (fun _ h9 => h9) dX2_noteWord_13 A1 Q2 ?_
    refine r_iload_n F dX2_noteWord_16 rfl ?_
    refine v_iald F G hH b4 rfl hkd.2.2.1 (by rw [n4]; omega) (by rw [n4]; decide) dX2_noteWord_17 ?_
    rw [e4, ej]
    refine c_Vv (ci := 3) F G (c_noteType hH hT hn1 (x := j) (by omega) hB.1 a10) (cwV 1 F.2.2.2.2 (zgV km_X2_111 ki_X2_noteType ke_X2_X2_noteType kn_X2 ko_X2_noteType) rfl rfl rfl ⟨rfl, hd_yX2_noteType⟩ ⟨Nat.le_of_ble_eq_true rfl, Nat.le_of_ble_eq_true rfl⟩) rfl (by decide) A0 rfl rfl (Nat.le_of_ble_eq_true rfl) dX2_noteWord_18 ⟨Nat.zero_le _, Nat.zero_le _⟩ (fun S18 h18 => ?_)
    obtain ⟨W1, hH1, hA1, hT1, hs1⟩ := h18
    have eq0 : wdS v f k p9 = (addT p9.1 j, p9.2) := by
      unfold wdS
      rw [hwe, if_pos h32, if_neg (by omega), show cn v 1210 (60 * f + k) = j by show (v.1 1210 (60 * f + k)).toNatClampNeg = j; rw [ej, nI_clamp (by omega)]]
    have s2 := hs1 (200 + 12 * f) (by omega) (by omega) (by omega)
    have s22 := hs1 (200 + 12 * f + 2) (by omega) (by omega) (by omega)
    have r1 : oa W1 (200 + 12 * f) := by show (W1 _).1; rw [s2]; exact hR.1
    have r2 : oa W1 (200 + 12 * f + 2) := by show (W1 _).1; rw [s22]; exact b2
    have w1 : wr W1 := hA1.wr hB.1 (by show (W1 38).1; rw [hs1 38 (by decide) (by decide) (by decide)]; exact hU.1.1)
    have n21 : onn W1 (200 + 12 * f + 2) = 60 := by show (W1 _).2.2.2.2.1 = _; rw [s22]; exact n2
    have e21 : ori W1 (200 + 12 * f + 2) k = nI w := by show (W1 _).2.2.2.2.2.1 k = _; rw [s22]; exact e2
    clear A1 Q1 Q2
    have A1 : zA S18 (ad (200 + 12 * f)) 7 := hH1.al r1 rfl hkd.1
    have Q1 : zq S18 705 (ad (200 + 12 * f)) = some (ad (200 + 12 * f + 2)) := hH1.qS r1 rfl (by rw [hkd.1]; decide) (w1.q r1 (by decide) hkd.1) rfl
    refine r_aload_n F dX2_noteWord_21 rfl ?_
    refine r_getS (ci := 7) (k := 5) (id := 705) (C := RX6) (T := TX6) (N := 13) F G rfl (by decide) (by decide) rfl (zinL inG7) (zin kf_X2_72) (fun _ h9 => h9) dX2_noteWord_22 A1 Q1 ?_
    refine r_iload_n F dX2_noteWord_25 rfl ?_
    refine v_iald F G hH1 r2 rfl hkd.2.1 (by rw [n21]; omega) (by rw [n21]; decide) dX2_noteWord_26 ?_
    rw [e21]
    refine r_bipush (v := 34) F dX2_noteWord_27 (by decide) ?_
    refine r_icmp_ne (tgt := 41) F dX2_noteWord_29 (by decide) (fun _ => ?_) (fun h9 => absurd h9 (fun h9 => absurd ((nI_eq (b := 34) (by omega) (by omega)).mp h9) (by omega)))
    exact e_vret F hr hlk ⟨ad, W1, hH1, fun _ _ => rfl, hA1, by rw [eq0]; exact hT1, by rw [eq0]; exact hU.same hs1, fun f9 => by show (W1 (200 + 12 * f9)).2.1 711 = _; rw [hs1 _ (by omega) (by omega) (by omega)]⟩ (Nat.zero_le _) (Nat.zero_le _) dX2_noteWord_41
  · by_cases h34 : w = 34
    · obtain ⟨j, hj, ej, hk9⟩ := hg.2.2.2.2.1 (Or.inr h34)
      have hyb := (rg_1204 hv (k := f / 8) (by omega)).2
      have hy : 16 * (f / 8) + j < 96 := by omega
      have ht9 : (16 * (f / 8) + j) % 16 < cn v 1204 ((16 * (f / 8) + j) / 16) := by rw [show (16 * (f / 8) + j) / 16 = f / 8 by omega]; omega
      have etg : tgt v (16 * (f / 8) + j) = fO v (16 * (f / 8) + j) := tgt_fO (fun z hz => (hK _ hy ht9 z hz).trans hk9) (fun _ => hk9)
      have eq0 : wdS v f k p9 = (p9.1, adO p9.2 (tgt v (16 * (f / 8) + j))) := by
        unfold wdS
        rw [hwe, if_neg h32, if_pos h34, show cn v 1210 (60 * f + k) = j by show (v.1 1210 (60 * f + k)).toNatClampNeg = j; rw [ej, nI_clamp (by omega)], etg]
      refine r_aload_n F dX2_noteWord_0 rfl ?_
      refine r_getS (ci := 7) (k := 5) (id := 705) (C := RX6) (T := TX6) (N := 13) F G rfl (by decide) (by decide) rfl (zinL inG7) (zin kf_X2_72) (fun _ h9 => h9) dX2_noteWord_1 A1 Q1 ?_
      refine r_iload_n F dX2_noteWord_4 rfl ?_
      refine v_iald F G hH b2 rfl hkd.2.1 (by rw [n2]; omega) (by rw [n2]; decide) dX2_noteWord_5 ?_
      rw [e2]
      refine r_bipush (v := 32) F dX2_noteWord_6 (by decide) ?_
      refine r_icmp_ne (tgt := 21) F dX2_noteWord_8 (by decide) (fun _ => ?_) (fun h9 => absurd h9 (fun h9 => absurd ((nI_eq (b := 32) (by omega) (by omega)).mp h9) (by omega)))
      refine r_aload_n F dX2_noteWord_21 rfl ?_
      refine r_getS (ci := 7) (k := 5) (id := 705) (C := RX6) (T := TX6) (N := 13) F G rfl (by decide) (by decide) rfl (zinL inG7) (zin kf_X2_72) (fun _ h9 => h9) dX2_noteWord_22 A1 Q1 ?_
      refine r_iload_n F dX2_noteWord_25 rfl ?_
      refine v_iald F G hH b2 rfl hkd.2.1 (by rw [n2]; omega) (by rw [n2]; decide) dX2_noteWord_26 ?_
      rw [e2]
      refine r_bipush (v := 34) F dX2_noteWord_27 (by decide) ?_
      refine r_icmp_ne (tgt := 41) F dX2_noteWord_29 (by decide) (fun h9 => absurd (show nI w = 34 by rw [h34]; rfl) h9) (fun _ => ?_)
      refine r_aload_n F dX2_noteWord_32 rfl ?_
      refine r_aload_n F dX2_noteWord_33 rfl ?_
      refine r_iload_n F dX2_noteWord_34 rfl ?_
      refine c_Vq (ci := 7) F G (c_targetOf hH hB hv hSr hA hf ht rfl (by omega) hj ej) (cwV 1 F.2.2.2.2 (zgV km_X2_122 ki_X6_targetOf ke_X6_X6_targetOf kn_X6 ko_X6_targetOf) rfl rfl rfl ⟨rfl, hd_yX6_targetOf⟩ ⟨Nat.le_of_ble_eq_true rfl, Nat.le_of_ble_eq_true rfl⟩) rfl (by decide) A1 rfl rfl (Nat.le_of_ble_eq_true rfl) dX2_noteWord_35 ⟨Nat.zero_le _, Nat.zero_le _⟩ (fun r35 S35 h35 => ?_)
      obtain ⟨er35, es35⟩ := h35
      have hs35 := es35.symm
      subst hs35
      subst er35
      cases hz : tgt v (16 * (f / 8) + j) with
      | none =>
        refine c_Vv (ci := 3) F G (c_noteSlot0) (cwV 1 F.2.2.2.2 (zgV km_X2_126 ki_X2_noteSlot ke_X2_X2_noteSlot kn_X2 ko_X2_noteSlot) rfl rfl rfl ⟨rfl, hd_yX2_noteSlot⟩ ⟨Nat.le_of_ble_eq_true rfl, Nat.le_of_ble_eq_true rfl⟩) rfl (by decide) A0 rfl rfl (Nat.le_of_ble_eq_true rfl) dX2_noteWord_38 ⟨Nat.zero_le _, Nat.zero_le _⟩ (fun S38 h38 => ?_)
        subst h38
        exact e_vret F hr hlk ⟨ad, W, hH, fun _ _ => rfl, nuA.rf, by rw [eq0]; exact hT, by rw [eq0, hz]; exact hU, fun _ => rfl⟩ (Nat.zero_le _) (Nat.zero_le _) dX2_noteWord_41
      | some g =>
        obtain ⟨hg48, hgt⟩ := tgt_t hv hD hy ht9 hz
        have eq1 : (wdS v f k p9).2 = addT p9.2 g := by rw [eq0, hz]; rfl
        have hcm := CC_add (Ss := p9.2) (x := g)
        refine c_Vv (ci := 3) F G (c_noteSlot hH hB hU hn2 hg48 hgt a10) (cwV 1 F.2.2.2.2 (zgV km_X2_126 ki_X2_noteSlot ke_X2_X2_noteSlot kn_X2 ko_X2_noteSlot) rfl rfl rfl ⟨rfl, hd_yX2_noteSlot⟩ ⟨Nat.le_of_ble_eq_true rfl, Nat.le_of_ble_eq_true rfl⟩) rfl (by decide) A0 rfl rfl (Nat.le_of_ble_eq_true rfl) dX2_noteWord_38 ⟨by show 0 + 0 + _ ≤ (CC (wdS v f k p9).2.length - CC p9.2.length); rw [eq1]; omega, by show 0 + 0 + _ ≤ (CS (wdS v f k p9).2.length - CS p9.2.length); rw [eq1]; omega⟩ (fun S38 h38 => ?_)
        obtain ⟨ad1, W1, hH1, g1, hA1, hU1, hs1, h711⟩ := h38
        exact e_vret F hr hlk ⟨ad1, W1, hH1, g1, hA1, by rw [eq0]; exact hT.same (hs1 _ (by decide) (by decide) (by omega)) (hs1 _ (by decide) (by decide) (by omega)) (hs1 _ (by decide) (by decide) (by omega)), by rw [eq1]; exact hU1, fun f9 => h711 _ (by omega) (by omega)⟩ (by rw [eq1]; omega) (by rw [eq1]; omega) dX2_noteWord_41
    · refine r_aload_n F dX2_noteWord_0 rfl ?_
      refine r_getS (ci := 7) (k := 5) (id := 705) (C := RX6) (T := TX6) (N := 13) F G rfl (by decide) (by decide) rfl (zinL inG7) (zin kf_X2_72) (fun _ h9 => h9) dX2_noteWord_1 A1 Q1 ?_
      refine r_iload_n F dX2_noteWord_4 rfl ?_
      refine v_iald F G hH b2 rfl hkd.2.1 (by rw [n2]; omega) (by rw [n2]; decide) dX2_noteWord_5 ?_
      rw [e2]
      refine r_bipush (v := 32) F dX2_noteWord_6 (by decide) ?_
      refine r_icmp_ne (tgt := 21) F dX2_noteWord_8 (by decide) (fun _ => ?_) (fun h9 => absurd h9 (fun h9 => absurd ((nI_eq (b := 32) (by omega) (by omega)).mp h9) (by omega)))
      refine r_aload_n F dX2_noteWord_21 rfl ?_
      refine r_getS (ci := 7) (k := 5) (id := 705) (C := RX6) (T := TX6) (N := 13) F G rfl (by decide) (by decide) rfl (zinL inG7) (zin kf_X2_72) (fun _ h9 => h9) dX2_noteWord_22 A1 Q1 ?_
      refine r_iload_n F dX2_noteWord_25 rfl ?_
      refine v_iald F G hH b2 rfl hkd.2.1 (by rw [n2]; omega) (by rw [n2]; decide) dX2_noteWord_26 ?_
      rw [e2]
      refine r_bipush (v := 34) F dX2_noteWord_27 (by decide) ?_
      refine r_icmp_ne (tgt := 41) F dX2_noteWord_29 (by decide) (fun _ => ?_) (fun h9 => absurd h9 (fun h9 => absurd ((nI_eq (b := 34) (by omega) (by omega)).mp h9) (by omega)))
      have eq0 : wdS v f k p9 = p9 := by
        unfold wdS
        rw [hwe, if_neg h32, if_neg h34]
      exact e_vret F hr hlk ⟨ad, W, hH, fun _ _ => rfl, nuA.rf, by rw [eq0]; exact hT, by rw [eq0]; exact hU, fun _ => rfl⟩ (Nat.zero_le _) (Nat.zero_le _) dX2_noteWord_41
