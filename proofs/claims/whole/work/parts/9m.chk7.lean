/-- rows of routines may differ, all else is the same -/
def rtA (W W' : zO) : Prop := (∀ c, (∀ f, f < 48 → c ≠ 200 + 12 * f + 6 ∧ c ≠ 200 + 12 * f + 8 ∧ c ≠ 200 + 12 * f + 10) → W' c = W c) ∧ ∀ c, ∃ g, W' c = eRi (W c) g
theorem eRi_same (e : zE) : eRi e e.2.2.2.2.2.1 = e := rfl
theorem eRi_2 (e : zE) (g h : Nat → Int32) : eRi (eRi e g) h = eRi e h := rfl
theorem rtA.rf {W : zO} : rtA W W := ⟨fun _ _ => rfl, fun c => ⟨_, (eRi_same (W c)).symm⟩⟩
theorem rtX.A {W W' : zO} {f : Nat} {E G B : Nat → Int32} (h : rtX W W' f E G B) (hf : f < 48) : rtA W W' := by
  refine ⟨fun c hc => h.1 c (hc f hf).1 (hc f hf).2.1 (hc f hf).2.2, fun c => ?_⟩
  by_cases h1 : c = 200 + 12 * f + 6
  · rw [h1]; exact ⟨E, h.2.1⟩
  · by_cases h2 : c = 200 + 12 * f + 8
    · rw [h2]; exact ⟨G, h.2.2.1⟩
    · by_cases h3 : c = 200 + 12 * f + 10
      · rw [h3]; exact ⟨B, h.2.2.2⟩
      · exact ⟨_, (h.1 c h1 h2 h3).trans (eRi_same (W c)).symm⟩
theorem rtA.tr {W W1 W2 : zO} (h : rtA W W1) (h2 : rtA W1 W2) : rtA W W2 := ⟨fun c hc => (h2.1 c hc).trans (h.1 c hc), fun c => by
  obtain ⟨g, hg⟩ := h.2 c
  obtain ⟨g2, hg2⟩ := h2.2 c
  exact ⟨g2, by rw [hg2, hg, eRi_2]⟩⟩
theorem rtA.oa {W W' : zO} (h : rtA W W') {c : Nat} : oa W' c ↔ oa W c := by
  obtain ⟨g, hg⟩ := h.2 c
  show (W' c).1 ↔ _
  rw [hg]
theorem rtA.wr {W W' : zO} (h : rtA W W') (hw : wr W) : wr W' := fun id hid c hc hk => by
  obtain ⟨h1, h2, h3, h4⟩ := hw id hid c (h.oa.mp hc) hk
  obtain ⟨g, hg⟩ := h.2 c
  obtain ⟨g2, hg2⟩ := h.2 (wd id c)
  exact ⟨by show (W' c).2.2.1 id = _; rw [hg]; exact h1, h.oa.mpr h2, fun h9 => by show (W' (wd id c)).2.2.2.2.1 = _; rw [hg2]; exact h3 h9, h4⟩
theorem rtA.B {v : zV} {W W' : zO} (h : rtA W W') (hB : Bld v W) (hO : cn v 1201 0 ≤ 6) : Bld v W' := hB.ext hO (h.wr hB.1) (fun c _ hc => h.1 c hc)
/-- the rows of f are those of its code -/
def xR (v : zV) (W : zO) (f : Nat) : Prop := ∃ E G B, ori W (200 + 12 * f + 6) = xE v f E (cn v 1208 f) ∧ ori W (200 + 12 * f + 8) = xG v f G (cn v 1208 f) ∧ ori W (200 + 12 * f + 10) = xB v f B (cn v 1208 f)
theorem rtX.x {v : zV} {W W' : zO} {f : Nat} {E G B : Nat → Int32} (h : rtX W W' f (xE v f E (cn v 1208 f)) (xG v f G (cn v 1208 f)) (xB v f B (cn v 1208 f))) : xR v W' f := ⟨E, G, B, h.E, h.G, h.B⟩
theorem xR.o {v : zV} {W W' : zO} {f f2 : Nat} {E G B : Nat → Int32} (hx : xR v W f2) (h : rtX W W' f E G B) (hne : ¬ f2 = f) : xR v W' f2 := by
  obtain ⟨E1, G1, B1, h1, h2, h3⟩ := hx
  refine ⟨E1, G1, B1, ?_, ?_, ?_⟩
  · show (W' (200 + 12 * f2 + 6)).2.2.2.2.2.1 = _
    rw [h.1 _ (by omega) (by omega) (by omega)]; exact h1
  · show (W' (200 + 12 * f2 + 8)).2.2.2.2.2.1 = _
    rw [h.1 _ (by omega) (by omega) (by omega)]; exact h2
  · show (W' (200 + 12 * f2 + 10)).2.2.2.2.2.1 = _
    rw [h.1 _ (by omega) (by omega) (by omega)]; exact h3
theorem bW2 {v : zV} {f k : Nat} : bW v 2 f k ↔ f % 8 < cn v 1202 (f / 8) ∧ wpl v f = some k := by
  unfold bW
  rw [if_pos rfl]
set_option maxRecDepth 100000 in
set_option maxHeartbeats 4000000 in
theorem c_wrongCode {l : Launch} {N0 t0 : Nat} {D : va_G} {cy : Nat → ClassId} {S : zS} {X : Nat → Prop} {S0 : zS} {ad : Nat → Nat} {W : zO} {K : kS} (hw : wr W) (a8 : oa W 8) (hH : zH t0 X S0 ad (wK W K) S) {v : zV} (hv : vRg v) (hB : Bld v W) (hA : vA v) (hD : vD v) (hO : cn v 1201 0 ≤ 6) (hg : allG v) (hL : vl W 32 (pS v 1202 6) (fun i => 200 + 12 * eN v 1202 8 i)) : zMi l yX1_wrongCode (zws yX1_wrongCode cX1_wrongCode 5 (some .int)) { frames := 6, cells := 0, slots := 0, locals := 134 } N0 t0 D cy S [.ref (ad 8), .ref (ad 32)] (fun r S' => ∃ (W' : zO) (K' : kS), zH t0 X S0 ad (wK W' K') S' ∧ rtA W W' ∧ ((r = -1 ∧ (∀ f k, f < 48 → ¬ bW v 2 f k) ∧ ∀ f, f < 48 → f % 8 < cn v 1202 (f / 8) → xR v W' f) ∨ ∃ f k, f < 48 ∧ bW v 2 f k ∧ (∀ f' k', f' < f → ¬ bW v 2 f' k') ∧ (∀ k', k' < k → ¬ bW v 2 f k') ∧ r = nI (plW f k))) 0 0 := by
  refine zMi.of (cc := cX1_wrongCode) (maxL := 5) (ret := (some .int)) (by decide) rfl (Nat.le_of_ble_eq_true rfl) ?_
  intro p e s m args below meth c F G hr hlk hnm
  have hc : ∀ o, o < 6 → cn v 1202 o ≤ 8 := fun o ho => (rg_1202 hv ho).2
  have hNb := pS_b (v := v) (t := 1202) (M := 8) hc 6 (Nat.le_refl _)
  refine r_iconst (v := 0) F dX1_wrongCode_0 (by decide) ?_
  refine r_istore_n F dX1_wrongCode_1 (by decide) ?_
  refine z_loop (fun n S9 lv => ∃ (i : Nat) (W1 : zO) (K1 : kS), i + n = pS v 1202 6 ∧ zH t0 X S0 ad (wK W1 K1) S9 ∧ rtA W W1 ∧ (∀ f2, f2 < 6 * 8 → f2 % 8 < cn v 1202 (f2 / 8) → pN v 1202 8 f2 < i → ¬ ¬ (wpl v f2 = none ∧ xR v W1 f2)) ∧ lv = [(2, .int (nI i)), (0, .ref (ad 8)), (1, .ref (ad 32))]) (pS v 1202 6) ?_ ⟨0, W, K, by omega, hH, rtA.rf, fun f2 _ _ h9 => absurd h9 (Nat.not_lt_zero _), rfl⟩
  clear hH
  rintro n S lv ⟨i, W1, K1, hn9, hH, hrA, hst, rfl⟩ ih
  have hw1 := hrA.wr hw
  have a81 := hrA.oa.mpr a8
  have hB1 := hrA.B hB hO
  have A8 : zA S (ad 8) 2 := hH.al (wK_a.mpr a81) rfl rfl
  have hL1 : vl (wK W1 K1) 32 (pS v 1202 6) (fun i => 200 + 12 * eN v 1202 8 i) := hL.same ((wK_n ⟨by omega, by omega, by omega, by omega, by omega, by omega⟩).trans (hrA.1 _ (fun f hf => ⟨by omega, by omega, by omega⟩))) ((wK_n ⟨by omega, by omega, by omega, by omega, by omega, by omega⟩).trans (hrA.1 _ (fun f hf => ⟨by omega, by omega, by omega⟩)))
  have L0 : zA S (ad 32) 0 := hL1.al hH rfl rfl
  have L1 : zi S 2 (ad 32) = nI (pS v 1202 6) := hL1.z hH rfl rfl
  have L2 : zq S 1 (ad 32) = some (vlq t0 ad (wK W1 K1) 32) := hL1.E hH rfl rfl
  refine r_iload_n F dX1_wrongCode_2 rfl ?_
  refine r_aload_n F dX1_wrongCode_3 rfl ?_
  refine c_Fi (ci := 0) F G (k_ListSize L0) (va_cwF 0 F.2.2.2.2 (zgF km_X1_28 ke_Jx4a65c_Jxbd725_size ki_Jx4a65c_size_8abf5 kn_Jx4a65c ko_Jx4a65c_size_8abf5) rfl rfl rfl (G.2.2.2.2.1 (⟨"java/util/List", "size", "()I"⟩, yJx4a65c_size_8abf5) (List.mem_of_getElem? (i := 0) rfl)) hdF_size ⟨Nat.le_of_ble_eq_true rfl, Nat.le_of_ble_eq_true rfl⟩) rfl (by decide) L0 rfl rfl (Nat.le_of_ble_eq_true rfl) dX1_wrongCode_4 ⟨Nat.le_of_ble_eq_true rfl, Nat.le_of_ble_eq_true rfl⟩ (fun r4 S4 h4 => ?_)
  obtain ⟨h4a, h4b⟩ := h4
  have h4c := h4b.symm
  subst h4c
  rw [L1] at h4a
  subst h4a
  refine r_icmp_ge (tgt := 50) F dX1_wrongCode_9 (by decide) (fun c9 => ?_) (fun c9 => ?_)
  · refine r_iconst (v := -1) F dX1_wrongCode_50 (by decide) ?_
    have hall : ∀ f, f < 48 → f % 8 < cn v 1202 (f / 8) → wpl v f = none ∧ xR v W1 f := fun f hf ht => Classical.byContradiction (hst f hf ht (by have h8 := pN_top (v := v) (t := 1202) (M := 8) (by decide) hf ht; rw [nI_leI (by omega) (by omega)] at c9; omega))
    exact e_iret F hr hlk ⟨W1, K1, hH, hrA, Or.inl ⟨rfl, fun f k hf h9 => (by have h8 := bW2.mp h9; rw [(hall f hf h8.1).1] at h8; cases h8.2), fun f hf ht => (hall f hf ht).2⟩⟩ (by decide) (by decide) dX1_wrongCode_51
  · have hi : i < pS v 1202 6 := by rw [nI_leI (by omega) (by omega)] at c9; omega
    obtain ⟨hf, ht, hp⟩ := eN_t (v := v) (t := 1202) (M := 8) (by decide) hc hi
    have gg := hL1.get hH rfl hi
    have hR := hB1.2.2.1 (eN v 1202 8 i) hf ht
    have hkr := kd_r (eN v 1202 8 i) hf
    have gA : zA S (ad (200 + 12 * (eN v 1202 8 i))) 7 := hH.al (wK_a.mpr hR.1) rfl hkr.1
    have hlen2 := (rg_1208 hv hf).2
    refine r_aload_n F dX1_wrongCode_12 rfl ?_
    refine r_iload_n F dX1_wrongCode_13 rfl ?_
    refine c_Fq (ci := 0) F G (k_get L0 L2 gg.1 L1 hi gg.2.1 gg.2.2.1) (va_cwF 1 F.2.2.2.2 (zgF km_X1_34 ke_Jx4a65c_Jxbd725_get ki_Jx4a65c_get_915e3 kn_Jx4a65c ko_Jx4a65c_get_915e3) rfl rfl rfl (G.2.2.2.2.1 (⟨"java/util/List", "get", "(I)Ljava/lang/Object;"⟩, yJx4a65c_get_915e3) (List.mem_of_getElem? (i := 2) rfl)) hdF_get ⟨Nat.le_of_ble_eq_true rfl, Nat.le_of_ble_eq_true rfl⟩) rfl (by decide) L0 rfl rfl (Nat.le_of_ble_eq_true rfl) dX1_wrongCode_14 ⟨Nat.le_of_ble_eq_true rfl, Nat.le_of_ble_eq_true rfl⟩ (fun r14 S14 h14 => ?_)
    obtain ⟨h14a, h14b⟩ := h14
    have h14c := h14b.symm
    subst h14c
    rw [gg.2.2.2] at h14a
    subst h14a
    refine r_cast (a := ad (200 + 12 * (eN v 1202 8 i))) (ci := 7) F G gA (by decide) rfl (List.mem_of_getElem? (i := 2) rfl) (zin kc_X1_38) dX1_wrongCode_19 ?_
    refine r_astore_n (x := ad (200 + 12 * (eN v 1202 8 i))) F dX1_wrongCode_22 (by decide) ?_
    refine r_aload_n F dX1_wrongCode_23 rfl ?_
    refine r_aload_n F dX1_wrongCode_24 rfl ?_
    refine c_Vi (ci := 2) F G (c_kfirst hw1 a81 hH hv hf ht hB1 hA hD hO (fun k hk => hg.g hf ht hk)) (cwV 1 F.2.2.2.2 (zgV km_X1_40 ki_X1_firstWrong ke_X1_X1_firstWrong kn_X1 ko_X1_firstWrong) rfl rfl rfl ⟨rfl, hd_yX1_firstWrong⟩ ⟨Nat.le_of_ble_eq_true rfl, Nat.le_of_ble_eq_true rfl⟩) rfl (by decide) A8 rfl rfl (Nat.le_of_ble_eq_true rfl) dX1_wrongCode_25 ⟨Nat.le_of_ble_eq_true rfl, Nat.le_of_ble_eq_true rfl⟩ (fun r25 S25 h25 => ?_)
    obtain ⟨e25, W2, K2, hH, hx2, E2, G2, B2, hrt⟩ := h25
    subst e25
    have gA2 : zA S25 (ad (200 + 12 * (eN v 1202 8 i))) 7 := hH.al (wK_a.mpr (hrt.oa.mpr hR.1)) rfl hkr.1
    have J1 : zi S25 701 (ad (200 + 12 * (eN v 1202 8 i))) = nI (1000 * ((eN v 1202 8 i) / 8) + 100 * ((eN v 1202 8 i) % 8)) := (hH.i (wK_a.mpr (hrt.oa.mpr hR.1)) rfl (by rw [hkr.1]; decide)).trans (by show (wK W2 K2 (200 + 12 * (eN v 1202 8 i))).2.1 701 = _; rw [wK_n (c := 200 + 12 * (eN v 1202 8 i)) (rcell (k := 0) (by omega)), hrt.1 _ (by omega) (by omega) (by omega)]; exact hR.2.2.1)
    refine r_istore F dX1_wrongCode_28 (by decide) ?_
    refine r_iload F dX1_wrongCode_30 rfl ?_
    refine r_iconst (v := -1) F dX1_wrongCode_32 (by decide) ?_
    refine r_icmp_eq (tgt := 44) F dX1_wrongCode_33 (by decide) (fun c33 => ?_) (fun c33 => ?_)
    · have hwn : wpl v (eN v 1202 8 i) = none := enc_m1 (fun z hz => by have := wpl_le hz; omega) c33
      refine r_iinc F dX1_wrongCode_44 rfl (by decide) ?_
      refine r_goto (tgt := 2) F dX1_wrongCode_47 (by decide) ?_
      refine zsub (lv' := [(2, .int (nI (i + 1))), (0, .ref (ad 8)), (1, .ref (ad 32))]) (by rw [show nI (i + 1) = nI i + Int32.ofInt 1 from (nI_add i 1).symm]; simp [zs1, Value.category, show ((2 : Fin 4) : Nat) = 2 from rfl, show ((3 : Fin 4) : Nat) = 3 from rfl]) ?_
      refine ih (n - 1) _ _ (by omega) ⟨i + 1, W2, K2, by omega, hH, hrA.tr (hrt.A hf), fst_s (bad := fun f => ¬ (wpl v f = none ∧ xR v W2 f)) (by decide) hc (fun z h1 h2 h3 h4 => hst z h1 h2 h3 (fun h5 => h4 ⟨h5.1, h5.2.o hrt (fun h6 => by rw [h6, hp] at h3; omega)⟩)) (fun h9 => h9 ⟨hwn, (hx2 hwn).x⟩), rfl⟩
    · obtain ⟨k, hwk⟩ : ∃ k, wpl v (eN v 1202 8 i) = some k := by
        cases he : wpl v (eN v 1202 8 i) with
        | none => exact absurd (by rw [he]; rfl) c33
        | some k => exact ⟨k, rfl⟩
      have hkl := wpl_le hwk
      refine r_aload_n F dX1_wrongCode_36 rfl ?_
      refine r_getiS (ci := 7) (k := 1) (id := 701) (C := RX6) (T := TX6) (N := 13) F G rfl (by decide) (by decide) rfl (zinL inG7) (zin kf_X1_44) (fun _ h9 => h9) dX1_wrongCode_37 gA2 J1 ?_
      refine r_iload F dX1_wrongCode_40 rfl ?_
      refine r_iadd F dX1_wrongCode_42 ?_
      rw [hwk]
      exact e_iret F hr hlk ⟨W2, K2, hH, hrA.tr (hrt.A hf), Or.inr ⟨(eN v 1202 8 i), k, hf, bW2.mpr ⟨ht, hwk⟩, fun f2 k2 h9 h8 => fst_i (bad := fun f => ¬ (wpl v f = none ∧ xR v W1 f)) (by decide) hc hi hst f2 h9 ⟨h8.1, fun h7 => (by have h6 := (bW2.mp h8).2; rw [h7.1] at h6; cases h6)⟩, fun k2 h9 h8 => (by have h6 := (bW2.mp h8).2; rw [hwk] at h6; cases h6; omega), nI_add _ _⟩⟩ (by decide) (by decide) dX1_wrongCode_43
