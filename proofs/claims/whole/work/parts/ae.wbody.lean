theorem wLs_mono (v : zV) (Ts Ss : List Nat) (f : Nat) {a : Nat} : ∀ b, a ≤ b → (wLs v Ts Ss f a).length ≤ (wLs v Ts Ss f b).length
  | 0, h => by rw [Nat.le_zero.mp h]; exact Nat.le_refl _
  | b + 1, h => by
    rcases Nat.lt_or_ge a (b + 1) with h1 | h1
    · have h2 := wLs_mono v Ts Ss f b (show a ≤ b by omega)
      show _ ≤ (wLs v Ts Ss f b ++ wB v Ts Ss (f / 8) (cn v 1209 (60 * f + b)) (v.1 1210 (60 * f + b))).length
      rw [List.length_append]
      omega
    · rw [show a = b + 1 by omega]; exact Nat.le_refl _
set_option maxRecDepth 100000 in
set_option maxHeartbeats 4000000 in
theorem c_body {l : Launch} {N0 t0 : Nat} {D : va_G} {cy : Nat → ClassId} {S : zS} {X : Nat → Prop} {S0 : zS} {ad : Nat → Nat} {W : zO} (hH : zH t0 X S0 ad W S) {v : zV} {Ts Ss : List Nat} (hLd : ldd v W Ts Ss) {Lm Ls Lb : List Int32} {km ks kb : Nat} (hM : bL W 44 Lm km) (hC : bL W 46 Ls ks) (hY : bL W 48 Lb kb) (hv : vRg v) (hA : vA v) (hD : vD v) (hK : kEq v) {f : Nat} (hf : f < 48) (ht : f % 8 < cn v 1202 (f / 8)) (hg : ∀ k, k < cn v 1208 f → gW v f (cn v 1209 (60 * f + k)) (v.1 1210 (60 * f + k))) (hnT : nD Ts 10) (hnS : nD Ss 48) (h32 : ∀ k, k < cn v 1208 f → cn v 1209 (60 * f + k) = 32 → ∃ j, plc Ts (some (v.1 1210 (60 * f + k)).toNatClampNeg) = some j) : zMv l yX4_writeBody (zws yX4_writeBody cX4_writeBody 4 none) { frames := 7, cells := ((gk kb ([] : List Int32).length ((fnB v Ts Ss f)).length) - kb), slots := 2 * (((gk kb ([] : List Int32).length ((fnB v Ts Ss f)).length) - kb)), locals := 167 } N0 t0 D cy S [.ref (ad 12), .ref (ad 10), .ref (ad (200 + 12 * f))] (fun S' => yZ t0 X S0 ad W (Lm) (km) (Ls) (ks) ((fnB v Ts Ss f)) ((gk kb ([] : List Int32).length ((fnB v Ts Ss f)).length)) S') (((gk kb ([] : List Int32).length ((fnB v Ts Ss f)).length) - kb)) (2 * (((gk kb ([] : List Int32).length ((fnB v Ts Ss f)).length) - kb))) := by
  refine zMv.of (cc := cX4_writeBody) (maxL := 4) (ret := none) (by decide) rfl (Nat.le_of_ble_eq_true rfl) ?_
  intro p e s m args below meth c F G hr hlk hnm
  have hw := hLd.1.1
  have a12 := hLd.2.2.2.2.2.2.2.2.2.1
  have hkd := kd_r f hf
  have h60 := rg_1208 hv hf
  have h602 := h60.2
  have hlc := rg_1207 hv hf
  have hlc2 := hlc.2
  have hfl : (fnB v Ts Ss f).length = (lcB v f).length + ((wLs v Ts Ss f (cn v 1208 f)).length + 1) := by unfold fnB; rw [List.length_append, List.length_append]; rfl
  have hwl := (wLs_ok v Ts Ss f (cn v 1208 f)).2
  have hll : (lcB v f).length ≤ 3 := by unfold lcB; split; exact Nat.le_refl _; decide
  have FF := yF hw a12 hH (fun _ _ _ _ => rfl) (fun _ _ => rfl) hM hC hY
  refine r_aload_n F dX4_writeBody_0 rfl ?_
  refine r_getS (ci := 5) (k := 2) (id := 502) (C := RX4) (T := TX4) (N := 3) F G rfl (by decide) (by decide) rfl (zinL inG5) (zin kf_X4_21) (fun _ h9 => h9) dX4_writeBody_1 FF.1 FF.2.2.2.1 ?_
  refine r_iconst (v := 0) F dX4_writeBody_4 (by decide) ?_
  refine r_puti (ci := 1) (k := 1) (id := 101) (C := RX0) (T := TX0) (N := 2) (ty := .int) (ty0 := tyX0) F G rfl (by decide) (by decide) rfl (zinL inG1) (zin kf_X4_24) (fun _ h9 => h9) tyX0_ok nmX0 rfl pd1_1 rfl rfl dX4_writeBody_5 FF.2.2.2.2.2.2.1 ?_
  refine zgen (P := zH t0 X S0 ad (oI W 48 101 0)) (hH.pi hY.2.1 rfl rfl (by decide) _) (fun S hH => ?_)
  have s9 : ∀ d, d ≠ 48 → oI W 48 101 0 d = W d := fun d hd => va_up_ne _ _ hd
  have hY9 := hY.nil
  have hM9 := hM.same (s9 44 (by decide)) (s9 45 (by decide))
  have hC9 := hC.same (s9 46 (by decide)) (s9 47 (by decide))
  clear FF hY hM hC
  generalize oI W 48 101 0 = W1 at hH s9 hY9 hM9 hC9
  obtain ⟨ad1, ka⟩ : ∃ ad1 : Nat → Nat, ad1 = ad := ⟨_, rfl⟩
  have hH1 : zH t0 X S0 ad1 W1 S := by rw [ka]; exact hH
  clear hH
  have hH := hH1
  replace ka : ∀ d, d ≠ 45 → d ≠ 47 → d ≠ 49 → ad1 d = ad d := fun d _ _ _ => by rw [ka]
  have kw : ∀ d, d < 44 ∨ 50 ≤ d → W1 d = W d := fun d hd => s9 d (by omega)
  clear hH1 s9
  have hM := hM9
  have hC := hC9
  have hY := hY9
  clear hM9 hC9 hY9
  have FF := yF hw a12 hH ka kw hM hC hY
  have hL1 := hLd.same kw hM hC hY
  have hR1 := hL1.1.2.2.1 f hf ht
  have eaf := ka (200 + 12 * f) (by omega) (by omega) (by omega)
  have A1 := hH.al hR1.1 eaf hkd.1
  replace hY : bL W1 48 (([] : List Int32) ++ ([] : List Int32)) (gk kb ([] : List Int32).length (([] : List Int32)).length) := hY
  have fbb : kb ≤ (gk kb ([] : List Int32).length (([] : List Int32)).length) := (gk_le _ _ _)
  have ffb : (gk kb ([] : List Int32).length (([] : List Int32)).length) ≤ (gk kb ([] : List Int32).length ((fnB v Ts Ss f)).length) := (gk_mono _ (by first | omega | (simp only [List.length_append, List.length_cons, List.length_nil]; omega)))
  refine zwid (c2 := (((gk kb ([] : List Int32).length (([] : List Int32)).length) - kb))) (s2 := 2 * (((gk kb ([] : List Int32).length (([] : List Int32)).length) - kb))) (Nat.zero_le _) (Nat.zero_le _) ?_
  refine z_cut2 (fun cl sl S9 lv => yZ t0 X S0 ad W Lm km Ls ks (([] : List Int32) ++ (lcB v f)) (gk kb ([] : List Int32).length (lcB v f).length) S9 ∧ cl ≤ (((gk kb ([] : List Int32).length (lcB v f).length) - kb)) ∧ sl ≤ 2 * (((gk kb ([] : List Int32).length (lcB v f).length) - kb)) ∧ lv = [(0, .ref (ad 12)), (1, .ref (ad 10)), (2, .ref (ad (200 + 12 * f)))]) 54 ?_ (fun tail => ?_)
  · rintro cl sl S lv ⟨hz9, hcl, hsl, rfl⟩
    clear ka kw hM hC hY FF hH hL1 hR1 A1 eaf fbb ffb
    obtain ⟨ad1, W1, hH, ka, kw, hM, hC, hY⟩ := hz9
    have FF := yF hw a12 hH ka kw hM hC hY
    have hL1 := hLd.same kw hM hC hY
    have hR1 := hL1.1.2.2.1 f hf ht
    have eaf := ka (200 + 12 * f) (by omega) (by omega) (by omega)
    have A1 := hH.al hR1.1 eaf hkd.1
    have fbb : kb ≤ (gk kb ([] : List Int32).length ((lcB v f)).length) := (gk_le _ _ _)
    have ffb : (gk kb ([] : List Int32).length ((lcB v f)).length) ≤ (gk kb ([] : List Int32).length ((fnB v Ts Ss f)).length) := (gk_mono _ (by first | omega | (simp only [List.length_append, List.length_cons, List.length_nil]; omega)))
    refine zwid (c2 := (((gk kb ([] : List Int32).length ((lcB v f)).length) - kb))) (s2 := 2 * (((gk kb ([] : List Int32).length ((lcB v f)).length) - kb))) hcl hsl ?_
    clear hcl hsl
    refine r_iconst (v := 0) F dX4_writeBody_54 (by decide) ?_
    refine r_istore_n F dX4_writeBody_55 (by decide) ?_
    refine zsub (lv' := [(3, .int (nI 0)), (0, .ref (ad 12)), (1, .ref (ad 10)), (2, .ref (ad (200 + 12 * f)))]) (by simp [zs1, lv_args, Value.category, show ((1 : Fin 4) : Nat) = 1 from rfl, show ((2 : Fin 4) : Nat) = 2 from rfl, show ((3 : Fin 4) : Nat) = 3 from rfl, show nI 0 = (0 : Int32) from rfl]) ?_
    have hpe : (lcB v f) = (lcB v f) ++ wLs v Ts Ss f 0 := (List.append_nil _).symm
    rw [hpe] at hY fbb ffb ⊢
    clear hpe
    refine z_loop2 (fun n9 cl sl S9 lv => ∃ k : Nat, k + n9 = cn v 1208 f ∧ yZ t0 X S0 ad W Lm km Ls ks (([] : List Int32) ++ ((lcB v f) ++ wLs v Ts Ss f k)) (gk kb ([] : List Int32).length ((lcB v f) ++ wLs v Ts Ss f k).length) S9 ∧ cl ≤ (((gk kb ([] : List Int32).length ((lcB v f) ++ wLs v Ts Ss f k).length) - kb)) ∧ sl ≤ 2 * (((gk kb ([] : List Int32).length ((lcB v f) ++ wLs v Ts Ss f k).length) - kb)) ∧ lv = [(3, .int (nI k)), (0, .ref (ad 12)), (1, .ref (ad 10)), (2, .ref (ad (200 + 12 * f)))]) (cn v 1208 f) ?_ ⟨0, Nat.zero_add _, ⟨_, _, hH, ka, kw, hM, hC, hY⟩, Nat.le_refl _, Nat.le_refl _, rfl⟩
    clear ka kw hM hC hY FF hH hL1 hR1 A1 eaf fbb ffb
    rintro n9 cl sl S lv ⟨k, hin, hz9, hcl, hsl, rfl⟩ ih
    have hwk := wLs_mono v Ts Ss f (a := k) (cn v 1208 f) (by omega)
    have hwk8 := (wLs_ok v Ts Ss f k).2
    obtain ⟨ad1, W1, hH, ka, kw, hM, hC, hY⟩ := hz9
    have FF := yF hw a12 hH ka kw hM hC hY
    have hL1 := hLd.same kw hM hC hY
    have hR1 := hL1.1.2.2.1 f hf ht
    have eaf := ka (200 + 12 * f) (by omega) (by omega) (by omega)
    have A1 := hH.al hR1.1 eaf hkd.1
    have fbb : kb ≤ (gk kb ([] : List Int32).length ((lcB v f) ++ wLs v Ts Ss f k).length) := (gk_le _ _ _)
    have ffb : (gk kb ([] : List Int32).length ((lcB v f) ++ wLs v Ts Ss f k).length) ≤ (gk kb ([] : List Int32).length ((fnB v Ts Ss f)).length) := (gk_mono _ (by first | omega | (simp only [List.length_append, List.length_cons, List.length_nil]; omega)))
    refine zwid (c2 := (((gk kb ([] : List Int32).length ((lcB v f) ++ wLs v Ts Ss f k).length) - kb))) (s2 := 2 * (((gk kb ([] : List Int32).length ((lcB v f) ++ wLs v Ts Ss f k).length) - kb))) hcl hsl ?_
    clear hcl hsl
    refine r_iload_n F dX4_writeBody_56 rfl ?_
    refine r_aload_n F dX4_writeBody_57 rfl ?_
    refine r_getiS (ci := 7) (k := 10) (id := 710) (C := RX6) (T := TX6) (N := 13) F G rfl (by decide) (by decide) rfl (zinL inG7) (zin kf_X4_131) (fun _ h9 => h9) dX4_writeBody_58 A1 (show zi S 710 (ad (200 + 12 * f)) = nI (cn v 1208 f) from (hH.i hR1.1 eaf (by rw [hkd.1]; decide)).trans (hR1.2.2.2.2.2.2.1.trans h60.1)) ?_
    refine r_icmp_ge (tgt := 83) F dX4_writeBody_61 (by decide) (fun c61 => ?_) (fun c61 => ?_)
    · have hk : k = cn v 1208 f := by have c9 := c61; rw [nI_leI (by omega) (by omega)] at c9; omega
      subst hk
      refine r_aload_n F dX4_writeBody_83 rfl ?_
      refine r_getS (ci := 5) (k := 2) (id := 502) (C := RX4) (T := TX4) (N := 3) F G rfl (by decide) (by decide) rfl (zinL inG5) (zin kf_X4_21) (fun _ h9 => h9) dX4_writeBody_84 FF.1 FF.2.2.2.1 ?_
      refine r_bipush (v := 11) F dX4_writeBody_87 (by decide) ?_
      have fnb : (gk kb ([] : List Int32).length ((lcB v f) ++ wLs v Ts Ss f (cn v 1208 f)).length) ≤ (gk kb ([] : List Int32).length ((lcB v f) ++ wLs v Ts Ss f (cn v 1208 f) ++ [bv (nI 11)]).length) := gk_mono _ (by first | omega | (simp only [List.length_append, List.length_cons, List.length_nil]; omega))
      have ffb : (gk kb ([] : List Int32).length ((lcB v f) ++ wLs v Ts Ss f (cn v 1208 f) ++ [bv (nI 11)]).length) ≤ (gk kb ([] : List Int32).length ((fnB v Ts Ss f)).length) := (gk_mono _ (by first | omega | (simp only [List.length_append, List.length_cons, List.length_nil]; omega)))
      refine c_Vv (ci := 1) F G (c_nput hH (L := ([] : List Int32)) (P := (lcB v f) ++ wLs v Ts Ss f (cn v 1208 f)) hY (ka 48 (by decide) (by decide) (by decide)) (x := nI 11) (by first | omega | (simp only [List.length_append, List.length_cons, List.length_nil]; omega))) (cwV 1 F.2.2.2.2 (zgV km_X4_50 ki_X0_put ke_X0_X0_put kn_X0 ko_X0_put) rfl rfl rfl ⟨rfl, hd_yX0_put⟩ ⟨Nat.le_of_ble_eq_true rfl, Nat.le_of_ble_eq_true rfl⟩) rfl (by decide) FF.2.2.2.2.2.2.1 rfl rfl (Nat.le_of_ble_eq_true rfl) dX4_writeBody_89 ⟨by show (((gk kb ([] : List Int32).length ((lcB v f) ++ wLs v Ts Ss f (cn v 1208 f)).length) - kb)) + ((gk kb ([] : List Int32).length ((lcB v f) ++ wLs v Ts Ss f (cn v 1208 f) ++ [bv (nI 11)]).length) - (gk kb ([] : List Int32).length ((lcB v f) ++ wLs v Ts Ss f (cn v 1208 f)).length)) ≤ ((gk kb ([] : List Int32).length ((fnB v Ts Ss f)).length) - kb); omega, by show 2 * (((gk kb ([] : List Int32).length ((lcB v f) ++ wLs v Ts Ss f (cn v 1208 f)).length) - kb)) + 2 * ((gk kb ([] : List Int32).length ((lcB v f) ++ wLs v Ts Ss f (cn v 1208 f) ++ [bv (nI 11)]).length) - (gk kb ([] : List Int32).length ((lcB v f) ++ wLs v Ts Ss f (cn v 1208 f)).length)) ≤ 2 * (((gk kb ([] : List Int32).length ((fnB v Ts Ss f)).length) - kb)); omega⟩ (fun S89 h89 => ?_)
      obtain ⟨ad1, W1, hH, ka, kw, hM, hC, hY⟩ := yZ.b ka kw hM hC h89
      have FF := yF hw a12 hH ka kw hM hC hY
      have hL1 := hLd.same kw hM hC hY
      have hR1 := hL1.1.2.2.1 f hf ht
      have eaf := ka (200 + 12 * f) (by omega) (by omega) (by omega)
      have A1 := hH.al hR1.1 eaf hkd.1
      have fbb : kb ≤ (gk kb ([] : List Int32).length ((lcB v f) ++ wLs v Ts Ss f (cn v 1208 f) ++ [bv (nI 11)]).length) := (gk_le _ _ _)
      refine zwid (c2 := (((gk kb ([] : List Int32).length ((lcB v f) ++ wLs v Ts Ss f (cn v 1208 f) ++ [bv (nI 11)]).length) - kb))) (s2 := 2 * (((gk kb ([] : List Int32).length ((lcB v f) ++ wLs v Ts Ss f (cn v 1208 f) ++ [bv (nI 11)]).length) - kb))) (by show (((gk kb ([] : List Int32).length ((lcB v f) ++ wLs v Ts Ss f (cn v 1208 f)).length) - kb)) + ((gk kb ([] : List Int32).length ((lcB v f) ++ wLs v Ts Ss f (cn v 1208 f) ++ [bv (nI 11)]).length) - (gk kb ([] : List Int32).length ((lcB v f) ++ wLs v Ts Ss f (cn v 1208 f)).length)) ≤ _; omega) (by show 2 * (((gk kb ([] : List Int32).length ((lcB v f) ++ wLs v Ts Ss f (cn v 1208 f)).length) - kb)) + 2 * ((gk kb ([] : List Int32).length ((lcB v f) ++ wLs v Ts Ss f (cn v 1208 f) ++ [bv (nI 11)]).length) - (gk kb ([] : List Int32).length ((lcB v f) ++ wLs v Ts Ss f (cn v 1208 f)).length)) ≤ _; omega) ?_
      have hpe : (lcB v f) ++ wLs v Ts Ss f (cn v 1208 f) ++ [bv (nI 11)] = fnB v Ts Ss f := by unfold fnB; rw [List.append_assoc]
      rw [hpe] at hY ⊢
      exact e_vret F hr hlk ⟨_, _, hH, ka, kw, hM, hC, hY⟩ (Nat.le_refl _) (Nat.le_refl _) dX4_writeBody_92
    · have hk : k < cn v 1208 f := by have c9 := c61; rw [nI_leI (by omega) (by omega)] at c9; omega
      have hwk2 := wLs_mono v Ts Ss f (a := k + 1) (cn v 1208 f) (by omega)
      have hb8 := (wB_ok v Ts Ss (f / 8) (cn v 1209 (60 * f + k)) (v.1 1210 (60 * f + k))).2
      have hwb : wB v Ts Ss (f / 8) (cn v 1209 (60 * f + k)) (v.1 1210 (60 * f + k)) = (wP (cn v 1209 (60 * f + k)) ++ [wO (cn v 1209 (60 * f + k)) (fO v (16 * (f / 8) + (v.1 1210 (60 * f + k)).toNatClampNeg))]) ++ wR v Ts Ss (cn v 1209 (60 * f + k)) (v.1 1210 (60 * f + k)) (fO v (16 * (f / 8) + (v.1 1210 (60 * f + k)).toNatClampNeg)) (aO v (16 * (f / 8) + (v.1 1210 (60 * f + k)).toNatClampNeg)) := by unfold wB; rw [List.append_assoc]; rfl
      have hbl : (wP (cn v 1209 (60 * f + k)) ++ [wO (cn v 1209 (60 * f + k)) (fO v (16 * (f / 8) + (v.1 1210 (60 * f + k)).toNatClampNeg))]).length + (wR v Ts Ss (cn v 1209 (60 * f + k)) (v.1 1210 (60 * f + k)) (fO v (16 * (f / 8) + (v.1 1210 (60 * f + k)).toNatClampNeg)) (aO v (16 * (f / 8) + (v.1 1210 (60 * f + k)).toNatClampNeg))).length = (wB v Ts Ss (f / 8) (cn v 1209 (60 * f + k)) (v.1 1210 (60 * f + k))).length := by rw [hwb]; exact List.length_append.symm
      have hws : (wLs v Ts Ss f (k + 1)).length = (wLs v Ts Ss f k).length + (wB v Ts Ss (f / 8) (cn v 1209 (60 * f + k)) (v.1 1210 (60 * f + k))).length := List.length_append
      have hpl : (wP (cn v 1209 (60 * f + k)) ++ [wO (cn v 1209 (60 * f + k)) (fO v (16 * (f / 8) + (v.1 1210 (60 * f + k)).toNatClampNeg))]).length = (wP (cn v 1209 (60 * f + k))).length + 1 := List.length_append
      refine r_aload_n F dX4_writeBody_64 rfl ?_
      refine r_aload_n F dX4_writeBody_65 rfl ?_
      refine r_iload_n F dX4_writeBody_66 rfl ?_
      have fnb : (gk kb ([] : List Int32).length ((lcB v f) ++ wLs v Ts Ss f k).length) ≤ (gk kb ([] : List Int32).length ((lcB v f) ++ wLs v Ts Ss f k ++ (wP (cn v 1209 (60 * f + k)) ++ [wO (cn v 1209 (60 * f + k)) (fO v (16 * (f / 8) + (v.1 1210 (60 * f + k)).toNatClampNeg))])).length) := gk_mono _ (by first | omega | (simp only [List.length_append, List.length_cons, List.length_nil]; omega))
      have ffb : (gk kb ([] : List Int32).length ((lcB v f) ++ wLs v Ts Ss f k ++ (wP (cn v 1209 (60 * f + k)) ++ [wO (cn v 1209 (60 * f + k)) (fO v (16 * (f / 8) + (v.1 1210 (60 * f + k)).toNatClampNeg))])).length) ≤ (gk kb ([] : List Int32).length ((fnB v Ts Ss f)).length) := (gk_mono _ (by first | omega | (simp only [List.length_append, List.length_cons, List.length_nil]; omega)))
      rw [← ka 12 (by decide) (by decide) (by decide), ← ka (200 + 12 * f) (by omega) (by omega) (by omega)]
      refine c_Vv (ci := 5) F G (c_first hH hL1 hM hC hY hv hA hD hK hf ht hk rfl rfl (hg k hk) rfl (by first | omega | (simp only [List.length_append, List.length_cons, List.length_nil]; omega))) (cwV 2 F.2.2.2.2 (zgV km_X4_132 ki_X4_writeFirst ke_X4_X4_writeFirst kn_X4 ko_X4_writeFirst) rfl rfl rfl ⟨rfl, hd_yX4_writeFirst⟩ ⟨Nat.le_of_ble_eq_true rfl, Nat.le_of_ble_eq_true rfl⟩) rfl (by decide) (by rw [ka 12 (by decide) (by decide) (by decide)]; exact FF.1) rfl rfl (Nat.le_of_ble_eq_true rfl) dX4_writeBody_67 ⟨by show (((gk kb ([] : List Int32).length ((lcB v f) ++ wLs v Ts Ss f k).length) - kb)) + (gk (gk kb ([] : List Int32).length ((lcB v f) ++ wLs v Ts Ss f k).length) (([] : List Int32) ++ ((lcB v f) ++ wLs v Ts Ss f k)).length (wP (cn v 1209 (60 * f + k)) ++ [wO (cn v 1209 (60 * f + k)) (fO v (16 * (f / 8) + (v.1 1210 (60 * f + k)).toNatClampNeg))]).length - (gk kb ([] : List Int32).length ((lcB v f) ++ wLs v Ts Ss f k).length)) ≤ ((gk kb ([] : List Int32).length ((fnB v Ts Ss f)).length) - kb); rw [gk_app]; omega, by show 2 * (((gk kb ([] : List Int32).length ((lcB v f) ++ wLs v Ts Ss f k).length) - kb)) + 2 * (gk (gk kb ([] : List Int32).length ((lcB v f) ++ wLs v Ts Ss f k).length) (([] : List Int32) ++ ((lcB v f) ++ wLs v Ts Ss f k)).length (wP (cn v 1209 (60 * f + k)) ++ [wO (cn v 1209 (60 * f + k)) (fO v (16 * (f / 8) + (v.1 1210 (60 * f + k)).toNatClampNeg))]).length - (gk kb ([] : List Int32).length ((lcB v f) ++ wLs v Ts Ss f k).length)) ≤ 2 * (((gk kb ([] : List Int32).length ((fnB v Ts Ss f)).length) - kb)); rw [gk_app]; omega⟩ (fun S67 h67 => ?_)
      rw [gk_app, List.append_assoc] at h67
      rw [ka 12 (by decide) (by decide) (by decide), ka (200 + 12 * f) (by omega) (by omega) (by omega)]
      obtain ⟨ad1, W1, hH, ka, kw, hM, hC, hY⟩ := yZ.tr ka kw h67
      have FF := yF hw a12 hH ka kw hM hC hY
      have hL1 := hLd.same kw hM hC hY
      have hR1 := hL1.1.2.2.1 f hf ht
      have eaf := ka (200 + 12 * f) (by omega) (by omega) (by omega)
      have A1 := hH.al hR1.1 eaf hkd.1
      have fbb : kb ≤ (gk kb ([] : List Int32).length ((lcB v f) ++ wLs v Ts Ss f k ++ (wP (cn v 1209 (60 * f + k)) ++ [wO (cn v 1209 (60 * f + k)) (fO v (16 * (f / 8) + (v.1 1210 (60 * f + k)).toNatClampNeg))])).length) := (gk_le _ _ _)
      refine zwid (c2 := (((gk kb ([] : List Int32).length ((lcB v f) ++ wLs v Ts Ss f k ++ (wP (cn v 1209 (60 * f + k)) ++ [wO (cn v 1209 (60 * f + k)) (fO v (16 * (f / 8) + (v.1 1210 (60 * f + k)).toNatClampNeg))])).length) - kb))) (s2 := 2 * (((gk kb ([] : List Int32).length ((lcB v f) ++ wLs v Ts Ss f k ++ (wP (cn v 1209 (60 * f + k)) ++ [wO (cn v 1209 (60 * f + k)) (fO v (16 * (f / 8) + (v.1 1210 (60 * f + k)).toNatClampNeg))])).length) - kb))) (by show (((gk kb ([] : List Int32).length ((lcB v f) ++ wLs v Ts Ss f k).length) - kb)) + (gk (gk kb ([] : List Int32).length ((lcB v f) ++ wLs v Ts Ss f k).length) (([] : List Int32) ++ ((lcB v f) ++ wLs v Ts Ss f k)).length (wP (cn v 1209 (60 * f + k)) ++ [wO (cn v 1209 (60 * f + k)) (fO v (16 * (f / 8) + (v.1 1210 (60 * f + k)).toNatClampNeg))]).length - (gk kb ([] : List Int32).length ((lcB v f) ++ wLs v Ts Ss f k).length)) ≤ _; rw [gk_app]; omega) (by show 2 * (((gk kb ([] : List Int32).length ((lcB v f) ++ wLs v Ts Ss f k).length) - kb)) + 2 * (gk (gk kb ([] : List Int32).length ((lcB v f) ++ wLs v Ts Ss f k).length) (([] : List Int32) ++ ((lcB v f) ++ wLs v Ts Ss f k)).length (wP (cn v 1209 (60 * f + k)) ++ [wO (cn v 1209 (60 * f + k)) (fO v (16 * (f / 8) + (v.1 1210 (60 * f + k)).toNatClampNeg))]).length - (gk kb ([] : List Int32).length ((lcB v f) ++ wLs v Ts Ss f k).length)) ≤ _; rw [gk_app]; omega) ?_
      refine r_aload_n F dX4_writeBody_70 rfl ?_
      refine r_aload_n F dX4_writeBody_71 rfl ?_
      refine r_aload_n F dX4_writeBody_72 rfl ?_
      refine r_iload_n F dX4_writeBody_73 rfl ?_
      have fnb : (gk kb ([] : List Int32).length ((lcB v f) ++ wLs v Ts Ss f k ++ (wP (cn v 1209 (60 * f + k)) ++ [wO (cn v 1209 (60 * f + k)) (fO v (16 * (f / 8) + (v.1 1210 (60 * f + k)).toNatClampNeg))])).length) ≤ (gk kb ([] : List Int32).length ((lcB v f) ++ wLs v Ts Ss f k ++ (wP (cn v 1209 (60 * f + k)) ++ [wO (cn v 1209 (60 * f + k)) (fO v (16 * (f / 8) + (v.1 1210 (60 * f + k)).toNatClampNeg))]) ++ (wR v Ts Ss (cn v 1209 (60 * f + k)) (v.1 1210 (60 * f + k)) (fO v (16 * (f / 8) + (v.1 1210 (60 * f + k)).toNatClampNeg)) (aO v (16 * (f / 8) + (v.1 1210 (60 * f + k)).toNatClampNeg)))).length) := gk_mono _ (by first | omega | (simp only [List.length_append, List.length_cons, List.length_nil]; omega))
      have ffb : (gk kb ([] : List Int32).length ((lcB v f) ++ wLs v Ts Ss f k ++ (wP (cn v 1209 (60 * f + k)) ++ [wO (cn v 1209 (60 * f + k)) (fO v (16 * (f / 8) + (v.1 1210 (60 * f + k)).toNatClampNeg))]) ++ (wR v Ts Ss (cn v 1209 (60 * f + k)) (v.1 1210 (60 * f + k)) (fO v (16 * (f / 8) + (v.1 1210 (60 * f + k)).toNatClampNeg)) (aO v (16 * (f / 8) + (v.1 1210 (60 * f + k)).toNatClampNeg)))).length) ≤ (gk kb ([] : List Int32).length ((fnB v Ts Ss f)).length) := (gk_mono _ (by first | omega | (simp only [List.length_append, List.length_cons, List.length_nil]; omega)))
      rw [← ka 12 (by decide) (by decide) (by decide), ← ka 10 (by decide) (by decide) (by decide), ← ka (200 + 12 * f) (by omega) (by omega) (by omega)]
      refine c_Vv (ci := 5) F G (c_rest hH hL1 hM hC hY hv hA hD hK hf ht hk rfl rfl (hg k hk) rfl (by first | omega | (simp only [List.length_append, List.length_cons, List.length_nil]; omega)) rfl hnT hnS (h32 k hk)) (cwV 3 F.2.2.2.2 (zgV km_X4_136 ki_X4_writeRest ke_X4_X4_writeRest kn_X4 ko_X4_writeRest) rfl rfl rfl ⟨rfl, hd_yX4_writeRest⟩ ⟨Nat.le_of_ble_eq_true rfl, Nat.le_of_ble_eq_true rfl⟩) rfl (by decide) (by rw [ka 12 (by decide) (by decide) (by decide)]; exact FF.1) rfl rfl (Nat.le_of_ble_eq_true rfl) dX4_writeBody_74 ⟨by show (((gk kb ([] : List Int32).length ((lcB v f) ++ wLs v Ts Ss f k ++ (wP (cn v 1209 (60 * f + k)) ++ [wO (cn v 1209 (60 * f + k)) (fO v (16 * (f / 8) + (v.1 1210 (60 * f + k)).toNatClampNeg))])).length) - kb)) + (gk (gk kb ([] : List Int32).length ((lcB v f) ++ wLs v Ts Ss f k ++ (wP (cn v 1209 (60 * f + k)) ++ [wO (cn v 1209 (60 * f + k)) (fO v (16 * (f / 8) + (v.1 1210 (60 * f + k)).toNatClampNeg))])).length) (([] : List Int32) ++ ((lcB v f) ++ wLs v Ts Ss f k ++ (wP (cn v 1209 (60 * f + k)) ++ [wO (cn v 1209 (60 * f + k)) (fO v (16 * (f / 8) + (v.1 1210 (60 * f + k)).toNatClampNeg))]))).length (wR v Ts Ss (cn v 1209 (60 * f + k)) (v.1 1210 (60 * f + k)) (fO v (16 * (f / 8) + (v.1 1210 (60 * f + k)).toNatClampNeg)) (aO v (16 * (f / 8) + (v.1 1210 (60 * f + k)).toNatClampNeg))).length - (gk kb ([] : List Int32).length ((lcB v f) ++ wLs v Ts Ss f k ++ (wP (cn v 1209 (60 * f + k)) ++ [wO (cn v 1209 (60 * f + k)) (fO v (16 * (f / 8) + (v.1 1210 (60 * f + k)).toNatClampNeg))])).length)) ≤ ((gk kb ([] : List Int32).length ((fnB v Ts Ss f)).length) - kb); rw [gk_app]; omega, by show 2 * (((gk kb ([] : List Int32).length ((lcB v f) ++ wLs v Ts Ss f k ++ (wP (cn v 1209 (60 * f + k)) ++ [wO (cn v 1209 (60 * f + k)) (fO v (16 * (f / 8) + (v.1 1210 (60 * f + k)).toNatClampNeg))])).length) - kb)) + 2 * (gk (gk kb ([] : List Int32).length ((lcB v f) ++ wLs v Ts Ss f k ++ (wP (cn v 1209 (60 * f + k)) ++ [wO (cn v 1209 (60 * f + k)) (fO v (16 * (f / 8) + (v.1 1210 (60 * f + k)).toNatClampNeg))])).length) (([] : List Int32) ++ ((lcB v f) ++ wLs v Ts Ss f k ++ (wP (cn v 1209 (60 * f + k)) ++ [wO (cn v 1209 (60 * f + k)) (fO v (16 * (f / 8) + (v.1 1210 (60 * f + k)).toNatClampNeg))]))).length (wR v Ts Ss (cn v 1209 (60 * f + k)) (v.1 1210 (60 * f + k)) (fO v (16 * (f / 8) + (v.1 1210 (60 * f + k)).toNatClampNeg)) (aO v (16 * (f / 8) + (v.1 1210 (60 * f + k)).toNatClampNeg))).length - (gk kb ([] : List Int32).length ((lcB v f) ++ wLs v Ts Ss f k ++ (wP (cn v 1209 (60 * f + k)) ++ [wO (cn v 1209 (60 * f + k)) (fO v (16 * (f / 8) + (v.1 1210 (60 * f + k)).toNatClampNeg))])).length)) ≤ 2 * (((gk kb ([] : List Int32).length ((fnB v Ts Ss f)).length) - kb)); rw [gk_app]; omega⟩ (fun S74 h74 => ?_)
      rw [gk_app, List.append_assoc] at h74
      rw [ka 12 (by decide) (by decide) (by decide), ka 10 (by decide) (by decide) (by decide), ka (200 + 12 * f) (by omega) (by omega) (by omega)]
      obtain ⟨ad1, W1, hH, ka, kw, hM, hC, hY⟩ := yZ.tr ka kw h74
      have FF := yF hw a12 hH ka kw hM hC hY
      have hL1 := hLd.same kw hM hC hY
      have hR1 := hL1.1.2.2.1 f hf ht
      have eaf := ka (200 + 12 * f) (by omega) (by omega) (by omega)
      have A1 := hH.al hR1.1 eaf hkd.1
      have fbb : kb ≤ (gk kb ([] : List Int32).length ((lcB v f) ++ wLs v Ts Ss f k ++ (wP (cn v 1209 (60 * f + k)) ++ [wO (cn v 1209 (60 * f + k)) (fO v (16 * (f / 8) + (v.1 1210 (60 * f + k)).toNatClampNeg))]) ++ (wR v Ts Ss (cn v 1209 (60 * f + k)) (v.1 1210 (60 * f + k)) (fO v (16 * (f / 8) + (v.1 1210 (60 * f + k)).toNatClampNeg)) (aO v (16 * (f / 8) + (v.1 1210 (60 * f + k)).toNatClampNeg)))).length) := (gk_le _ _ _)
      refine zwid (c2 := (((gk kb ([] : List Int32).length ((lcB v f) ++ wLs v Ts Ss f k ++ (wP (cn v 1209 (60 * f + k)) ++ [wO (cn v 1209 (60 * f + k)) (fO v (16 * (f / 8) + (v.1 1210 (60 * f + k)).toNatClampNeg))]) ++ (wR v Ts Ss (cn v 1209 (60 * f + k)) (v.1 1210 (60 * f + k)) (fO v (16 * (f / 8) + (v.1 1210 (60 * f + k)).toNatClampNeg)) (aO v (16 * (f / 8) + (v.1 1210 (60 * f + k)).toNatClampNeg)))).length) - kb))) (s2 := 2 * (((gk kb ([] : List Int32).length ((lcB v f) ++ wLs v Ts Ss f k ++ (wP (cn v 1209 (60 * f + k)) ++ [wO (cn v 1209 (60 * f + k)) (fO v (16 * (f / 8) + (v.1 1210 (60 * f + k)).toNatClampNeg))]) ++ (wR v Ts Ss (cn v 1209 (60 * f + k)) (v.1 1210 (60 * f + k)) (fO v (16 * (f / 8) + (v.1 1210 (60 * f + k)).toNatClampNeg)) (aO v (16 * (f / 8) + (v.1 1210 (60 * f + k)).toNatClampNeg)))).length) - kb))) (by show (((gk kb ([] : List Int32).length ((lcB v f) ++ wLs v Ts Ss f k ++ (wP (cn v 1209 (60 * f + k)) ++ [wO (cn v 1209 (60 * f + k)) (fO v (16 * (f / 8) + (v.1 1210 (60 * f + k)).toNatClampNeg))])).length) - kb)) + (gk (gk kb ([] : List Int32).length ((lcB v f) ++ wLs v Ts Ss f k ++ (wP (cn v 1209 (60 * f + k)) ++ [wO (cn v 1209 (60 * f + k)) (fO v (16 * (f / 8) + (v.1 1210 (60 * f + k)).toNatClampNeg))])).length) (([] : List Int32) ++ ((lcB v f) ++ wLs v Ts Ss f k ++ (wP (cn v 1209 (60 * f + k)) ++ [wO (cn v 1209 (60 * f + k)) (fO v (16 * (f / 8) + (v.1 1210 (60 * f + k)).toNatClampNeg))]))).length (wR v Ts Ss (cn v 1209 (60 * f + k)) (v.1 1210 (60 * f + k)) (fO v (16 * (f / 8) + (v.1 1210 (60 * f + k)).toNatClampNeg)) (aO v (16 * (f / 8) + (v.1 1210 (60 * f + k)).toNatClampNeg))).length - (gk kb ([] : List Int32).length ((lcB v f) ++ wLs v Ts Ss f k ++ (wP (cn v 1209 (60 * f + k)) ++ [wO (cn v 1209 (60 * f + k)) (fO v (16 * (f / 8) + (v.1 1210 (60 * f + k)).toNatClampNeg))])).length)) ≤ _; rw [gk_app]; omega) (by show 2 * (((gk kb ([] : List Int32).length ((lcB v f) ++ wLs v Ts Ss f k ++ (wP (cn v 1209 (60 * f + k)) ++ [wO (cn v 1209 (60 * f + k)) (fO v (16 * (f / 8) + (v.1 1210 (60 * f + k)).toNatClampNeg))])).length) - kb)) + 2 * (gk (gk kb ([] : List Int32).length ((lcB v f) ++ wLs v Ts Ss f k ++ (wP (cn v 1209 (60 * f + k)) ++ [wO (cn v 1209 (60 * f + k)) (fO v (16 * (f / 8) + (v.1 1210 (60 * f + k)).toNatClampNeg))])).length) (([] : List Int32) ++ ((lcB v f) ++ wLs v Ts Ss f k ++ (wP (cn v 1209 (60 * f + k)) ++ [wO (cn v 1209 (60 * f + k)) (fO v (16 * (f / 8) + (v.1 1210 (60 * f + k)).toNatClampNeg))]))).length (wR v Ts Ss (cn v 1209 (60 * f + k)) (v.1 1210 (60 * f + k)) (fO v (16 * (f / 8) + (v.1 1210 (60 * f + k)).toNatClampNeg)) (aO v (16 * (f / 8) + (v.1 1210 (60 * f + k)).toNatClampNeg))).length - (gk kb ([] : List Int32).length ((lcB v f) ++ wLs v Ts Ss f k ++ (wP (cn v 1209 (60 * f + k)) ++ [wO (cn v 1209 (60 * f + k)) (fO v (16 * (f / 8) + (v.1 1210 (60 * f + k)).toNatClampNeg))])).length)) ≤ _; rw [gk_app]; omega) ?_
      have hpe : (lcB v f) ++ wLs v Ts Ss f k ++ (wP (cn v 1209 (60 * f + k)) ++ [wO (cn v 1209 (60 * f + k)) (fO v (16 * (f / 8) + (v.1 1210 (60 * f + k)).toNatClampNeg))]) ++ (wR v Ts Ss (cn v 1209 (60 * f + k)) (v.1 1210 (60 * f + k)) (fO v (16 * (f / 8) + (v.1 1210 (60 * f + k)).toNatClampNeg)) (aO v (16 * (f / 8) + (v.1 1210 (60 * f + k)).toNatClampNeg))) = (lcB v f) ++ wLs v Ts Ss f (k + 1) := by rw [show wLs v Ts Ss f (k + 1) = wLs v Ts Ss f k ++ wB v Ts Ss (f / 8) (cn v 1209 (60 * f + k)) (v.1 1210 (60 * f + k)) from rfl, hwb]; simp only [List.append_assoc]
      rw [hpe] at hY fbb ffb ⊢
      clear hpe
      refine r_iinc F dX4_writeBody_77 rfl (by decide) ?_
      refine r_goto (tgt := 56) F dX4_writeBody_80 (by decide) ?_
      refine zsub (lv' := [(3, .int (nI (k + 1))), (0, .ref (ad 12)), (1, .ref (ad 10)), (2, .ref (ad (200 + 12 * f)))]) (by rw [show nI (k + 1) = nI k + Int32.ofInt 1 from (nI_add k 1).symm]; simp [zs1, lv_args, Value.category, show ((1 : Fin 4) : Nat) = 1 from rfl, show ((2 : Fin 4) : Nat) = 2 from rfl, show ((3 : Fin 4) : Nat) = 3 from rfl, show nI 0 = (0 : Int32) from rfl]) ?_
      exact ih (n9 - 1) _ _ _ _ (by omega) ⟨k + 1, by omega, ⟨_, _, hH, ka, kw, hM, hC, hY⟩, Nat.le_refl _, Nat.le_refl _, rfl⟩
  refine r_aload_n F dX4_writeBody_8 rfl ?_
  refine r_getiS (ci := 7) (k := 4) (id := 704) (C := RX6) (T := TX6) (N := 13) F G rfl (by decide) (by decide) rfl (zinL inG7) (zin kf_X4_128) (fun _ h9 => h9) dX4_writeBody_9 A1 ((hH.i (id := 704) hR1.1 eaf (by rw [hkd.1]; decide)).trans (hR1.2.2.2.2.2.1.trans hlc.1)) ?_
  refine r_if_ne (tgt := 26) F dX4_writeBody_12 (by decide) (fun c12 => ?_) (fun c12 => ?_)
  · refine r_aload_n F dX4_writeBody_26 rfl ?_
    refine r_getS (ci := 5) (k := 2) (id := 502) (C := RX4) (T := TX4) (N := 3) F G rfl (by decide) (by decide) rfl (zinL inG5) (zin kf_X4_21) (fun _ h9 => h9) dX4_writeBody_27 FF.1 FF.2.2.2.1 ?_
    refine r_iconst (v := 1) F dX4_writeBody_30 (by decide) ?_
    have hlp : 0 < cn v 1207 f := by have c9 := c12; rw [nl0, nI_eq (by omega) (by omega)] at c9; omega
    have hlcb : lcB v f = [bv (nI 1), bv (nI (cn v 1207 f)), bv (nI 126)] := if_pos hlp
    have hlcl : (lcB v f).length = 3 := by rw [hlcb]; rfl
    have hu1 : uns (cn v 1207 f) = [bv (nI (cn v 1207 f))] := unsF_e (by omega)
    have hul : (uns (cn v 1207 f)).length = 1 := by rw [hu1]; rfl
    have fnb : (gk kb ([] : List Int32).length (([] : List Int32)).length) ≤ (gk kb ([] : List Int32).length (([] : List Int32) ++ [bv (nI 1)]).length) := gk_mono _ (by first | omega | (simp only [List.length_append, List.length_cons, List.length_nil]; omega))
    have ffb : (gk kb ([] : List Int32).length (([] : List Int32) ++ [bv (nI 1)]).length) ≤ (gk kb ([] : List Int32).length ((fnB v Ts Ss f)).length) := (gk_mono _ (by first | omega | (simp only [List.length_append, List.length_cons, List.length_nil]; omega)))
    refine c_Vv (ci := 1) F G (c_nput hH (L := ([] : List Int32)) (P := ([] : List Int32)) hY (ka 48 (by decide) (by decide) (by decide)) (x := nI 1) (by first | omega | (simp only [List.length_append, List.length_cons, List.length_nil]; omega))) (cwV 1 F.2.2.2.2 (zgV km_X4_50 ki_X0_put ke_X0_X0_put kn_X0 ko_X0_put) rfl rfl rfl ⟨rfl, hd_yX0_put⟩ ⟨Nat.le_of_ble_eq_true rfl, Nat.le_of_ble_eq_true rfl⟩) rfl (by decide) FF.2.2.2.2.2.2.1 rfl rfl (Nat.le_of_ble_eq_true rfl) dX4_writeBody_31 ⟨by show (((gk kb ([] : List Int32).length (([] : List Int32)).length) - kb)) + ((gk kb ([] : List Int32).length (([] : List Int32) ++ [bv (nI 1)]).length) - (gk kb ([] : List Int32).length (([] : List Int32)).length)) ≤ ((gk kb ([] : List Int32).length ((fnB v Ts Ss f)).length) - kb); omega, by show 2 * (((gk kb ([] : List Int32).length (([] : List Int32)).length) - kb)) + 2 * ((gk kb ([] : List Int32).length (([] : List Int32) ++ [bv (nI 1)]).length) - (gk kb ([] : List Int32).length (([] : List Int32)).length)) ≤ 2 * (((gk kb ([] : List Int32).length ((fnB v Ts Ss f)).length) - kb)); omega⟩ (fun S31 h31 => ?_)
    obtain ⟨ad1, W1, hH, ka, kw, hM, hC, hY⟩ := yZ.b ka kw hM hC h31
    have FF := yF hw a12 hH ka kw hM hC hY
    have hL1 := hLd.same kw hM hC hY
    have hR1 := hL1.1.2.2.1 f hf ht
    have eaf := ka (200 + 12 * f) (by omega) (by omega) (by omega)
    have A1 := hH.al hR1.1 eaf hkd.1
    have fbb : kb ≤ (gk kb ([] : List Int32).length (([] : List Int32) ++ [bv (nI 1)]).length) := (gk_le _ _ _)
    refine zwid (c2 := (((gk kb ([] : List Int32).length (([] : List Int32) ++ [bv (nI 1)]).length) - kb))) (s2 := 2 * (((gk kb ([] : List Int32).length (([] : List Int32) ++ [bv (nI 1)]).length) - kb))) (by show (((gk kb ([] : List Int32).length (([] : List Int32)).length) - kb)) + ((gk kb ([] : List Int32).length (([] : List Int32) ++ [bv (nI 1)]).length) - (gk kb ([] : List Int32).length (([] : List Int32)).length)) ≤ _; omega) (by show 2 * (((gk kb ([] : List Int32).length (([] : List Int32)).length) - kb)) + 2 * ((gk kb ([] : List Int32).length (([] : List Int32) ++ [bv (nI 1)]).length) - (gk kb ([] : List Int32).length (([] : List Int32)).length)) ≤ _; omega) ?_
    refine r_aload_n F dX4_writeBody_34 rfl ?_
    refine r_getS (ci := 5) (k := 2) (id := 502) (C := RX4) (T := TX4) (N := 3) F G rfl (by decide) (by decide) rfl (zinL inG5) (zin kf_X4_21) (fun _ h9 => h9) dX4_writeBody_35 FF.1 FF.2.2.2.1 ?_
    refine r_aload_n F dX4_writeBody_38 rfl ?_
    refine r_getiS (ci := 7) (k := 4) (id := 704) (C := RX6) (T := TX6) (N := 13) F G rfl (by decide) (by decide) rfl (zinL inG7) (zin kf_X4_128) (fun _ h9 => h9) dX4_writeBody_39 A1 ((hH.i (id := 704) hR1.1 eaf (by rw [hkd.1]; decide)).trans (hR1.2.2.2.2.2.1.trans hlc.1)) ?_
    have fnb : (gk kb ([] : List Int32).length (([] : List Int32) ++ [bv (nI 1)]).length) ≤ (gk kb ([] : List Int32).length (([] : List Int32) ++ [bv (nI 1)] ++ uns (cn v 1207 f)).length) := gk_mono _ (by first | omega | (simp only [List.length_append, List.length_cons, List.length_nil]; omega))
    have ffb : (gk kb ([] : List Int32).length (([] : List Int32) ++ [bv (nI 1)] ++ uns (cn v 1207 f)).length) ≤ (gk kb ([] : List Int32).length ((fnB v Ts Ss f)).length) := (gk_mono _ (by first | omega | (simp only [List.length_append, List.length_cons, List.length_nil]; omega)))
    refine c_Vv (ci := 1) F G (c_nnumber hH (L := ([] : List Int32)) (P := ([] : List Int32) ++ [bv (nI 1)]) hY (ka 48 (by decide) (by decide) (by decide)) (v := cn v 1207 f) (by omega) (by first | omega | (simp only [List.length_append, List.length_cons, List.length_nil]; omega))) (cwV 1 F.2.2.2.2 (zgV km_X4_54 ki_X0_number ke_X0_X0_number kn_X0 ko_X0_number) rfl rfl rfl ⟨rfl, hd_yX0_number⟩ ⟨Nat.le_of_ble_eq_true rfl, Nat.le_of_ble_eq_true rfl⟩) rfl (by decide) FF.2.2.2.2.2.2.1 rfl rfl (Nat.le_of_ble_eq_true rfl) dX4_writeBody_42 ⟨by show (((gk kb ([] : List Int32).length (([] : List Int32) ++ [bv (nI 1)]).length) - kb)) + ((gk kb ([] : List Int32).length (([] : List Int32) ++ [bv (nI 1)] ++ uns (cn v 1207 f)).length) - (gk kb ([] : List Int32).length (([] : List Int32) ++ [bv (nI 1)]).length)) ≤ ((gk kb ([] : List Int32).length ((fnB v Ts Ss f)).length) - kb); omega, by show 2 * (((gk kb ([] : List Int32).length (([] : List Int32) ++ [bv (nI 1)]).length) - kb)) + 2 * ((gk kb ([] : List Int32).length (([] : List Int32) ++ [bv (nI 1)] ++ uns (cn v 1207 f)).length) - (gk kb ([] : List Int32).length (([] : List Int32) ++ [bv (nI 1)]).length)) ≤ 2 * (((gk kb ([] : List Int32).length ((fnB v Ts Ss f)).length) - kb)); omega⟩ (fun S42 h42 => ?_)
    obtain ⟨ad1, W1, hH, ka, kw, hM, hC, hY⟩ := yZ.b ka kw hM hC h42
    have FF := yF hw a12 hH ka kw hM hC hY
    have hL1 := hLd.same kw hM hC hY
    have hR1 := hL1.1.2.2.1 f hf ht
    have eaf := ka (200 + 12 * f) (by omega) (by omega) (by omega)
    have A1 := hH.al hR1.1 eaf hkd.1
    have fbb : kb ≤ (gk kb ([] : List Int32).length (([] : List Int32) ++ [bv (nI 1)] ++ uns (cn v 1207 f)).length) := (gk_le _ _ _)
    refine zwid (c2 := (((gk kb ([] : List Int32).length (([] : List Int32) ++ [bv (nI 1)] ++ uns (cn v 1207 f)).length) - kb))) (s2 := 2 * (((gk kb ([] : List Int32).length (([] : List Int32) ++ [bv (nI 1)] ++ uns (cn v 1207 f)).length) - kb))) (by show (((gk kb ([] : List Int32).length (([] : List Int32) ++ [bv (nI 1)]).length) - kb)) + ((gk kb ([] : List Int32).length (([] : List Int32) ++ [bv (nI 1)] ++ uns (cn v 1207 f)).length) - (gk kb ([] : List Int32).length (([] : List Int32) ++ [bv (nI 1)]).length)) ≤ _; omega) (by show 2 * (((gk kb ([] : List Int32).length (([] : List Int32) ++ [bv (nI 1)]).length) - kb)) + 2 * ((gk kb ([] : List Int32).length (([] : List Int32) ++ [bv (nI 1)] ++ uns (cn v 1207 f)).length) - (gk kb ([] : List Int32).length (([] : List Int32) ++ [bv (nI 1)]).length)) ≤ _; omega) ?_
    refine r_aload_n F dX4_writeBody_45 rfl ?_
    refine r_getS (ci := 5) (k := 2) (id := 502) (C := RX4) (T := TX4) (N := 3) F G rfl (by decide) (by decide) rfl (zinL inG5) (zin kf_X4_21) (fun _ h9 => h9) dX4_writeBody_46 FF.1 FF.2.2.2.1 ?_
    refine r_bipush (v := 126) F dX4_writeBody_49 (by decide) ?_
    have fnb : (gk kb ([] : List Int32).length (([] : List Int32) ++ [bv (nI 1)] ++ uns (cn v 1207 f)).length) ≤ (gk kb ([] : List Int32).length (([] : List Int32) ++ [bv (nI 1)] ++ uns (cn v 1207 f) ++ [bv (nI 126)]).length) := gk_mono _ (by first | omega | (simp only [List.length_append, List.length_cons, List.length_nil]; omega))
    have ffb : (gk kb ([] : List Int32).length (([] : List Int32) ++ [bv (nI 1)] ++ uns (cn v 1207 f) ++ [bv (nI 126)]).length) ≤ (gk kb ([] : List Int32).length ((fnB v Ts Ss f)).length) := (gk_mono _ (by first | omega | (simp only [List.length_append, List.length_cons, List.length_nil]; omega)))
    refine c_Vv (ci := 1) F G (c_nput hH (L := ([] : List Int32)) (P := ([] : List Int32) ++ [bv (nI 1)] ++ uns (cn v 1207 f)) hY (ka 48 (by decide) (by decide) (by decide)) (x := nI 126) (by first | omega | (simp only [List.length_append, List.length_cons, List.length_nil]; omega))) (cwV 1 F.2.2.2.2 (zgV km_X4_50 ki_X0_put ke_X0_X0_put kn_X0 ko_X0_put) rfl rfl rfl ⟨rfl, hd_yX0_put⟩ ⟨Nat.le_of_ble_eq_true rfl, Nat.le_of_ble_eq_true rfl⟩) rfl (by decide) FF.2.2.2.2.2.2.1 rfl rfl (Nat.le_of_ble_eq_true rfl) dX4_writeBody_51 ⟨by show (((gk kb ([] : List Int32).length (([] : List Int32) ++ [bv (nI 1)] ++ uns (cn v 1207 f)).length) - kb)) + ((gk kb ([] : List Int32).length (([] : List Int32) ++ [bv (nI 1)] ++ uns (cn v 1207 f) ++ [bv (nI 126)]).length) - (gk kb ([] : List Int32).length (([] : List Int32) ++ [bv (nI 1)] ++ uns (cn v 1207 f)).length)) ≤ ((gk kb ([] : List Int32).length ((fnB v Ts Ss f)).length) - kb); omega, by show 2 * (((gk kb ([] : List Int32).length (([] : List Int32) ++ [bv (nI 1)] ++ uns (cn v 1207 f)).length) - kb)) + 2 * ((gk kb ([] : List Int32).length (([] : List Int32) ++ [bv (nI 1)] ++ uns (cn v 1207 f) ++ [bv (nI 126)]).length) - (gk kb ([] : List Int32).length (([] : List Int32) ++ [bv (nI 1)] ++ uns (cn v 1207 f)).length)) ≤ 2 * (((gk kb ([] : List Int32).length ((fnB v Ts Ss f)).length) - kb)); omega⟩ (fun S51 h51 => ?_)
    obtain ⟨ad1, W1, hH, ka, kw, hM, hC, hY⟩ := yZ.b ka kw hM hC h51
    have FF := yF hw a12 hH ka kw hM hC hY
    have hL1 := hLd.same kw hM hC hY
    have hR1 := hL1.1.2.2.1 f hf ht
    have eaf := ka (200 + 12 * f) (by omega) (by omega) (by omega)
    have A1 := hH.al hR1.1 eaf hkd.1
    have fbb : kb ≤ (gk kb ([] : List Int32).length (([] : List Int32) ++ [bv (nI 1)] ++ uns (cn v 1207 f) ++ [bv (nI 126)]).length) := (gk_le _ _ _)
    refine zwid (c2 := (((gk kb ([] : List Int32).length (([] : List Int32) ++ [bv (nI 1)] ++ uns (cn v 1207 f) ++ [bv (nI 126)]).length) - kb))) (s2 := 2 * (((gk kb ([] : List Int32).length (([] : List Int32) ++ [bv (nI 1)] ++ uns (cn v 1207 f) ++ [bv (nI 126)]).length) - kb))) (by show (((gk kb ([] : List Int32).length (([] : List Int32) ++ [bv (nI 1)] ++ uns (cn v 1207 f)).length) - kb)) + ((gk kb ([] : List Int32).length (([] : List Int32) ++ [bv (nI 1)] ++ uns (cn v 1207 f) ++ [bv (nI 126)]).length) - (gk kb ([] : List Int32).length (([] : List Int32) ++ [bv (nI 1)] ++ uns (cn v 1207 f)).length)) ≤ _; omega) (by show 2 * (((gk kb ([] : List Int32).length (([] : List Int32) ++ [bv (nI 1)] ++ uns (cn v 1207 f)).length) - kb)) + 2 * ((gk kb ([] : List Int32).length (([] : List Int32) ++ [bv (nI 1)] ++ uns (cn v 1207 f) ++ [bv (nI 126)]).length) - (gk kb ([] : List Int32).length (([] : List Int32) ++ [bv (nI 1)] ++ uns (cn v 1207 f)).length)) ≤ _; omega) ?_
    have hpe : ([] : List Int32) ++ [bv (nI 1)] ++ uns (cn v 1207 f) ++ [bv (nI 126)] = (lcB v f) := by rw [hlcb, hu1]; rfl
    rw [hpe] at hY fbb ffb ⊢
    clear hpe
    refine zsub (lv' := [(0, .ref (ad 12)), (1, .ref (ad 10)), (2, .ref (ad (200 + 12 * f)))]) (by simp [zs1, lv_args, Value.category, show ((1 : Fin 4) : Nat) = 1 from rfl, show ((2 : Fin 4) : Nat) = 2 from rfl, show ((3 : Fin 4) : Nat) = 3 from rfl, show nI 0 = (0 : Int32) from rfl]) ?_
    exact tail _ _ _ _ ⟨⟨_, _, hH, ka, kw, hM, hC, hY⟩, Nat.le_refl _, Nat.le_refl _, rfl⟩
  · refine r_aload_n F dX4_writeBody_15 rfl ?_
    refine r_getS (ci := 5) (k := 2) (id := 502) (C := RX4) (T := TX4) (N := 3) F G rfl (by decide) (by decide) rfl (zinL inG5) (zin kf_X4_21) (fun _ h9 => h9) dX4_writeBody_16 FF.1 FF.2.2.2.1 ?_
    refine r_iconst (v := 0) F dX4_writeBody_19 (by decide) ?_
    have hlcb : lcB v f = [bv (nI 0)] := if_neg (by have c9 := c12; rw [nl0, nI_eq (by omega) (by omega)] at c9; omega)
    have hlcl : (lcB v f).length = 1 := by rw [hlcb]; rfl
    have fnb : (gk kb ([] : List Int32).length (([] : List Int32)).length) ≤ (gk kb ([] : List Int32).length (([] : List Int32) ++ [bv (nI 0)]).length) := gk_mono _ (by first | omega | (simp only [List.length_append, List.length_cons, List.length_nil]; omega))
    have ffb : (gk kb ([] : List Int32).length (([] : List Int32) ++ [bv (nI 0)]).length) ≤ (gk kb ([] : List Int32).length ((fnB v Ts Ss f)).length) := (gk_mono _ (by first | omega | (simp only [List.length_append, List.length_cons, List.length_nil]; omega)))
    refine c_Vv (ci := 1) F G (c_nput hH (L := ([] : List Int32)) (P := ([] : List Int32)) hY (ka 48 (by decide) (by decide) (by decide)) (x := nI 0) (by first | omega | (simp only [List.length_append, List.length_cons, List.length_nil]; omega))) (cwV 1 F.2.2.2.2 (zgV km_X4_50 ki_X0_put ke_X0_X0_put kn_X0 ko_X0_put) rfl rfl rfl ⟨rfl, hd_yX0_put⟩ ⟨Nat.le_of_ble_eq_true rfl, Nat.le_of_ble_eq_true rfl⟩) rfl (by decide) FF.2.2.2.2.2.2.1 rfl rfl (Nat.le_of_ble_eq_true rfl) dX4_writeBody_20 ⟨by show (((gk kb ([] : List Int32).length (([] : List Int32)).length) - kb)) + ((gk kb ([] : List Int32).length (([] : List Int32) ++ [bv (nI 0)]).length) - (gk kb ([] : List Int32).length (([] : List Int32)).length)) ≤ ((gk kb ([] : List Int32).length ((fnB v Ts Ss f)).length) - kb); omega, by show 2 * (((gk kb ([] : List Int32).length (([] : List Int32)).length) - kb)) + 2 * ((gk kb ([] : List Int32).length (([] : List Int32) ++ [bv (nI 0)]).length) - (gk kb ([] : List Int32).length (([] : List Int32)).length)) ≤ 2 * (((gk kb ([] : List Int32).length ((fnB v Ts Ss f)).length) - kb)); omega⟩ (fun S20 h20 => ?_)
    obtain ⟨ad1, W1, hH, ka, kw, hM, hC, hY⟩ := yZ.b ka kw hM hC h20
    have FF := yF hw a12 hH ka kw hM hC hY
    have hL1 := hLd.same kw hM hC hY
    have hR1 := hL1.1.2.2.1 f hf ht
    have eaf := ka (200 + 12 * f) (by omega) (by omega) (by omega)
    have A1 := hH.al hR1.1 eaf hkd.1
    have fbb : kb ≤ (gk kb ([] : List Int32).length (([] : List Int32) ++ [bv (nI 0)]).length) := (gk_le _ _ _)
    refine zwid (c2 := (((gk kb ([] : List Int32).length (([] : List Int32) ++ [bv (nI 0)]).length) - kb))) (s2 := 2 * (((gk kb ([] : List Int32).length (([] : List Int32) ++ [bv (nI 0)]).length) - kb))) (by show (((gk kb ([] : List Int32).length (([] : List Int32)).length) - kb)) + ((gk kb ([] : List Int32).length (([] : List Int32) ++ [bv (nI 0)]).length) - (gk kb ([] : List Int32).length (([] : List Int32)).length)) ≤ _; omega) (by show 2 * (((gk kb ([] : List Int32).length (([] : List Int32)).length) - kb)) + 2 * ((gk kb ([] : List Int32).length (([] : List Int32) ++ [bv (nI 0)]).length) - (gk kb ([] : List Int32).length (([] : List Int32)).length)) ≤ _; omega) ?_
    refine r_goto (tgt := 54) F dX4_writeBody_23 (by decide) ?_
    have hpe : ([] : List Int32) ++ [bv (nI 0)] = (lcB v f) := by rw [hlcb]; rfl
    rw [hpe] at hY fbb ffb ⊢
    clear hpe
    refine zsub (lv' := [(0, .ref (ad 12)), (1, .ref (ad 10)), (2, .ref (ad (200 + 12 * f)))]) (by simp [zs1, lv_args, Value.category, show ((1 : Fin 4) : Nat) = 1 from rfl, show ((2 : Fin 4) : Nat) = 2 from rfl, show ((3 : Fin 4) : Nat) = 3 from rfl, show nI 0 = (0 : Int32) from rfl]) ?_
    exact tail _ _ _ _ ⟨⟨_, _, hH, ka, kw, hM, hC, hY⟩, Nat.le_refl _, Nat.le_refl _, rfl⟩
