/-- the cells of a fresh linker -/
def E9 (c : Nat) : zE := if c = 2 then eI (eI (eQ (eQ (eQ (eQ (eQ (eQ (eNo) 1100 (some 4)) 1101 (some 6)) 1102 (some 8)) 1103 (some 10)) 1104 (some 12)) 1105 (some 14)) 1106 0) 1107 (-1) else if c = 4 then eQ (eI eNo 0 0) 1 (some 0) else if c = 6 then eQ (eQ (eQ (eNo) 600 (some 16)) 601 (some 18)) 602 (some 20) else if c = 16 then eNa 31 else if c = 18 then eNa 31 else if c = 20 then eNa 31 else if c = 8 then eQ (eQ (eQ (eQ (eQ (eNo) 200 (some 22)) 201 (some 24)) 202 (some 26)) 203 (some 28)) 204 (some 30) else if c = 22 then eNa 61 else if c = 24 then eNa 61 else if c = 26 then eNa 61 else if c = 28 then eNa 61 else if c = 30 then eNa 61 else if c = 10 then eQ (eQ (eQ (eQ (eQ (eQ (eNo) 300 (some 32)) 301 (some 34)) 302 (some 36)) 303 (some 38)) 304 (some 40)) 305 (some 42) else if c = 32 then eQ (eI eNo 0 0) 1 (some 0) else if c = 34 then eQ (eI eNo 0 0) 1 (some 0) else if c = 36 then eQ (eI eNo 0 0) 1 (some 0) else if c = 38 then eQ (eI eNo 0 0) 1 (some 0) else if c = 40 then eNa 10 else if c = 42 then eNa 10 else if c = 12 then eQ (eQ (eQ (eNo) 500 (some 44)) 501 (some 46)) 502 (some 48) else if c = 44 then eQ (eNo) 100 (some 45) else if c = 45 then eNa 128 else if c = 46 then eQ (eNo) 100 (some 47) else if c = 47 then eNa 128 else if c = 48 then eQ (eNo) 100 (some 49) else if c = 49 then eNa 128 else if c = 14 then eQ (eQ (eQ (eQ (eQ (eQ (eNo) 400 (some 50)) 401 (some 52)) 402 (some 54)) 403 (some 56)) 404 (some 58)) 405 none else if c = 50 then eNa 2720 else if c = 52 then eNa 40 else if c = 54 then eNa 40 else if c = 56 then eNa 40 else if c = 58 then eNa 1024 else (False, fun _ => 0, fun _ => none, fun _ => 0, 0, fun _ => 0, fun _ => 0, fun _ => none)
def L9 : List Nat := [4, 6, 16, 18, 20, 8, 22, 24, 26, 28, 30, 10, 32, 34, 36, 38, 40, 42, 12, 44, 45, 46, 47, 48, 49, 14, 50, 52, 54, 56, 58]
set_option maxRecDepth 100000 in
set_option maxHeartbeats 4000000 in
theorem c_LinkerInit {l : Launch} {N0 t0 : Nat} {D : va_G} {cy : Nat → ClassId} {S : zS} {X : Nat → Prop} {S0 : zS} {ad : Nat → Nat} {W : zO} (hH : zH t0 X S0 ad W S) {a : Nat} (hW : W 2 = eNo) (ea : ad 2 = a) (hfr : ∀ c, c ≠ 2 → ¬ oa W c) : zMv l yX11_init (zws yX11_init cX11_init 1 none) { frames := 6, cells := 32, slots := 4750, locals := 120 } N0 t0 D cy S [.ref a] (fun S' => ∃ (ad' : Nat → Nat) (W' : zO), zH t0 X S0 ad' W' S' ∧ ad' 2 = a ∧ W' 2 = E9 2 ∧ (∀ c ∈ L9, W' c = E9 c) ∧ ∀ c, c ≠ 2 → c ∉ L9 → ¬ oa W' c) 32 4750 := by
  refine zMv.of (cc := cX11_init) (maxL := 1) (ret := none) (by decide) rfl (Nat.le_of_ble_eq_true rfl) ?_
  intro p e s m args below meth c F G hr hlk hnm
  have w2_0 : W 2 = eNo := hW
  have wE_0 : ∀ c ∈ ([] : List Nat), W c = E9 c := fun c hc => absurd hc List.not_mem_nil
  have wD_0 : ∀ c, c ≠ 2 → c ∉ ([] : List Nat) → ¬ oa W c := fun c h1 _ => hfr c h1
  have ea_0 : ad 2 = a := ea
  refine r_aload_n F dX11_init_0 rfl ?_
  refine r_objInit F (zin km_X11_1) (zin ki_Object_init) (zin ko_Object_init) dX11_init_1 (Nat.le_of_ble_eq_true rfl) (Nat.le_of_ble_eq_true rfl) ?_
  refine r_aload_n F dX11_init_4 rfl ?_
  refine r_new (ci := 0) (C := RJx4a65c) (T := TJx4a65c) (N := 3) (ty0 := tyJx4a65c) F G rfl (by decide) (zinL inG0) tyJx4a65c_ok dvG0 (zin kc_X11_7) (zin kb_Jx4a65c) (zin kn_Jx4a65c) (by decide) (by decide) dX11_init_5 (fun q5 hq5 => ?_)
  refine r_dup F dX11_init_8 rfl ?_
  refine c_Iv F G (k_ListInit (a := q5) zA.noq) (cwI 0 F.2.2.2.2 (zgI ko_Jx4a65c_init_da8c8) rfl rfl rfl (F.2.2.2.2 _ (zin kn_Jx4a65c)) (F.2.2.2.2 _ (zin km_X11_9)) (F.2.2.2.2 _ (zin ki_Jx4a65c_init_da8c8)) rfl hd_yJx4a65c_init_da8c8 ⟨Nat.le_of_ble_eq_true rfl, Nat.le_of_ble_eq_true rfl⟩) rfl rfl (Nat.le_of_ble_eq_true rfl) dX11_init_9 ⟨Nat.le_of_ble_eq_true rfl, Nat.le_of_ble_eq_true rfl⟩ (fun S9 hS9 => ?_)
  subst hS9
  refine r_putFq (v := some q5) (ci := 11) (k := 0) (id := 1100) (C := RX11) (T := TX11) (N := 8) (ty := (.object "java/util/List")) (ty0 := tyX11) F G rfl (by decide) (by decide) rfl (zinL inG11) (zin kf_X11_10) (fun _ h9 => h9) tyX11_ok nmX11 rfl hnm rfl pd11_0 rfl rfl dX11_init_12 (zA.no (S := S) (hH.al (oa_eq w2_0 trivial) ea_0 rfl) hq5) ?_
  obtain ⟨C0, W1, hH9, ea_1, ag0, w2_1, -, wd0, wk0⟩ := vl_fld (f := fun j => j) (id := 1100) (k := 4) hH (oa_eq w2_0 trivial) ea_0 rfl (by decide) (wD_0 4 (by decide) (by decide)) (by decide) (by decide) rfl hq5
  refine zgen (P := zH t0 X S0 C0 W1) hH9 (fun S hH => ?_)
  clear hH9
  rw [w2_0] at w2_1
  have wE_1 : ∀ c ∈ ([4] : List Nat), W1 c = E9 c := List.forall_mem_cons.mpr ⟨wk0.trans rfl, fun c hc => absurd hc List.not_mem_nil⟩
  have wD_1 : ∀ c, c ≠ 2 → c ∉ ([4] : List Nat) → ¬ oa W1 c := fun c h1 h2 h3 => wD_0 c h1 List.not_mem_nil (by show (W c).1; rw [← wd0 c h1 (fun e => h2 (by rw [e]; decide))]; exact h3)
  refine r_aload_n F dX11_init_15 rfl ?_
  refine r_new (ci := 6) (C := RX5) (T := TX5) (N := 3) (ty0 := tyX5) F G rfl (by decide) (zinL inG6) tyX5_ok dvG6 (zin kc_X11_16) (zin kb_X5) (zin kn_X5) (by decide) (by decide) dX11_init_16 (fun q16 hq16 => ?_)
  have hN1 := hH.newo (n := 6) (wD_1 6 (by decide) (by decide)) (by decide) hq16 rfl (by decide)
  have v1a : va_up W1 6 eNo 6 = eNo := va_up_self _ _ _
  have v1b : ∀ d, d ≠ 6 → va_up W1 6 eNo d = W1 d := fun d hd => va_up_ne _ _ hd
  have g1a : va_up C0 6 q16 6 = q16 := va_up_self _ _ _
  have g1b : ∀ d, d ≠ 6 → va_up C0 6 q16 d = C0 d := fun d hd => va_up_ne _ _ hd
  refine zgen (P := zH t0 X S0 (va_up C0 6 q16) (va_up W1 6 eNo)) hN1 (fun S hH => ?_)
  generalize va_up W1 6 eNo = V1 at hH v1a v1b
  generalize va_up C0 6 q16 = B1 at hH g1a g1b
  have vF1 : ∀ d, d ≠ 2 → d ≠ 6 → d ∉ ([4] : List Nat) → ¬ oa V1 d := fun d h1 h2 h3 h4 => wD_1 d h1 h3 (by show (W1 d).1; rw [← v1b d h2]; exact h4)
  refine r_dup F dX11_init_19 rfl ?_
  refine c_Nv F G (c_NamesInit hH (n := 6) g1a rfl rfl v1a (vF1 (6 + 10) (by decide) (by decide) (by decide)) (vF1 (6 + 12) (by decide) (by decide) (by decide)) (vF1 (6 + 14) (by decide) (by decide) (by decide)) rfl rfl rfl) ⟨va_cnB 0 F.2.2.2.2 (zgI ko_X5_init) rfl rfl rfl (G.2.2.2.1 (RX11, 18, yX5_init, RX11) (List.mem_of_getElem? (i := 0) rfl)) (F.2.2.2.2 _ (zin kn_X5)) hd_yX5_init ⟨Nat.le_of_ble_eq_true rfl, Nat.le_of_ble_eq_true rfl⟩, rfl, F.2.2.2.2 _ (zin ki_X5_init)⟩ rfl rfl (Nat.le_of_ble_eq_true rfl) dX11_init_20 ⟨Nat.le_of_ble_eq_true rfl, Nat.le_of_ble_eq_true rfl⟩ (fun S20 h20 => ?_)
  obtain ⟨C1, U1, hH, gc1, uo1, un1, x1_10, x1_12, x1_14⟩ := h20
  have uO1 : ∀ d, d ∉ ([6, 16, 18, 20] : List Nat) → U1 d = V1 d := fun d h9 => uo1 d (fun e => h9 (by rw [e]; decide)) (fun e => h9 (by rw [e]; decide)) (fun e => h9 (by rw [e]; decide)) (fun e => h9 (by rw [e]; decide))
  have gO1 : ∀ d, d ∉ ([6, 16, 18, 20] : List Nat) → C1 d = B1 d := fun d h9 => gc1 d (fun e => h9 (by rw [e]; decide)) (fun e => h9 (by rw [e]; decide)) (fun e => h9 (by rw [e]; decide))
  have gN1 : C1 6 = B1 6 := gc1 6 (by decide) (by decide) (by decide)
  have an1 : oa U1 2 := oa_eq ((uO1 2 (by decide)).trans ((v1b 2 (by decide)).trans w2_1)) trivial
  have eaU1 : C1 2 = a := (gO1 2 (by decide)).trans ((g1b 2 (by decide)).trans ea_1)
  have ecU1 : C1 6 = q16 := gN1.trans g1a
  have acU1 : oa U1 6 := oa_eq un1 trivial
  have hA1 : zA S20 a 11 := hH.al an1 eaU1 rfl
  refine r_putFq (v := some q16) (ci := 11) (k := 1) (id := 1101) (C := RX11) (T := TX11) (N := 8) (ty := (.object "ObjectLinker$Names")) (ty0 := tyX11) F G rfl (by decide) (by decide) rfl (zinL inG11) (zin kf_X11_19) (fun _ h9 => h9) tyX11_ok nmX11 rfl hnm rfl pd11_1 rfl rfl dX11_init_23 hA1 ?_
  obtain ⟨W2, hH9, w2_2, wd1⟩ := rf_fld (id := 1101) (x2 := some q16) hH an1 eaU1 rfl (by decide) (some 6) (by show _ = some (C1 6); rw [ecU1]) (fun d hd => by cases hd; exact Or.inr ⟨acU1, rfl⟩)
  refine zgen (P := zH t0 X S0 C1 W2) hH9 (fun S hH => ?_)
  clear hH9
  have w2_2 : W2 2 = eQ (eQ (eNo) 1100 (some 4)) 1101 (some 6) := w2_2.trans (congrArg (fun e => eQ e 1101 (some 6)) ((uO1 2 (by decide)).trans ((v1b 2 (by decide)).trans w2_1)))
  have ea_2 : C1 2 = a := eaU1
  have uE1 : ∀ c ∈ ([6, 16, 18, 20] : List Nat), U1 c = E9 c := List.forall_mem_cons.mpr ⟨un1.trans rfl, List.forall_mem_cons.mpr ⟨x1_10.trans rfl, List.forall_mem_cons.mpr ⟨x1_12.trans rfl, List.forall_mem_cons.mpr ⟨x1_14.trans rfl, fun c hc => absurd hc List.not_mem_nil⟩⟩⟩⟩
  have wE_2 : ∀ c ∈ ([4, 6, 16, 18, 20] : List Nat), W2 c = E9 c := fun c hc => by
    have h2 : c ≠ 2 := fun e => absurd (e ▸ hc) (by decide)
    refine (wd1 c h2).trans ?_
    by_cases h9 : c ∈ ([6, 16, 18, 20] : List Nat)
    · exact uE1 c h9
    · have h8 : c ∈ ([4] : List Nat) := (List.mem_append.mp (show c ∈ ([4] : List Nat) ++ ([6, 16, 18, 20] : List Nat) from hc)).resolve_right h9
      exact (uO1 c h9).trans ((v1b c (fun e => h9 (by rw [e]; decide))).trans (wE_1 c h8))
  have wD_2 : ∀ c, c ≠ 2 → c ∉ ([4, 6, 16, 18, 20] : List Nat) → ¬ oa W2 c := fun c h1 h2 h3 => by
    have h9 : c ∉ ([6, 16, 18, 20] : List Nat) := fun h8 => h2 (show c ∈ ([4] : List Nat) ++ ([6, 16, 18, 20] : List Nat) from List.mem_append.mpr (Or.inr h8))
    have h7 : c ∉ ([4] : List Nat) := fun h8 => h2 (show c ∈ ([4] : List Nat) ++ ([6, 16, 18, 20] : List Nat) from List.mem_append.mpr (Or.inl h8))
    exact wD_1 c h1 h7 (by show (W1 c).1; rw [← (wd1 c h1).trans ((uO1 c h9).trans (v1b c (fun e => h9 (by rw [e]; decide))))]; exact h3)
  refine r_aload_n F dX11_init_26 rfl ?_
  refine r_new (ci := 2) (C := RX1) (T := TX1) (N := 7) (ty0 := tyX1) F G rfl (by decide) (zinL inG2) tyX1_ok dvG2 (zin kc_X11_23) (zin kb_X1) (zin kn_X1) (by decide) (by decide) dX11_init_27 (fun q27 hq27 => ?_)
  have hN2 := hH.newo (n := 8) (wD_2 8 (by decide) (by decide)) (by decide) hq27 rfl (by decide)
  have v2a : va_up W2 8 eNo 8 = eNo := va_up_self _ _ _
  have v2b : ∀ d, d ≠ 8 → va_up W2 8 eNo d = W2 d := fun d hd => va_up_ne _ _ hd
  have g2a : va_up C1 8 q27 8 = q27 := va_up_self _ _ _
  have g2b : ∀ d, d ≠ 8 → va_up C1 8 q27 d = C1 d := fun d hd => va_up_ne _ _ hd
  refine zgen (P := zH t0 X S0 (va_up C1 8 q27) (va_up W2 8 eNo)) hN2 (fun S hH => ?_)
  generalize va_up W2 8 eNo = V2 at hH v2a v2b
  generalize va_up C1 8 q27 = B2 at hH g2a g2b
  have vF2 : ∀ d, d ≠ 2 → d ≠ 8 → d ∉ ([4, 6, 16, 18, 20] : List Nat) → ¬ oa V2 d := fun d h1 h2 h3 h4 => wD_2 d h1 h3 (by show (W2 d).1; rw [← v2b d h2]; exact h4)
  refine r_dup F dX11_init_30 rfl ?_
  refine c_Nv F G (c_CheckInit hH (n := 8) g2a rfl rfl v2a (vF2 (8 + 14) (by decide) (by decide) (by decide)) (vF2 (8 + 16) (by decide) (by decide) (by decide)) (vF2 (8 + 18) (by decide) (by decide) (by decide)) (vF2 (8 + 20) (by decide) (by decide) (by decide)) (vF2 (8 + 22) (by decide) (by decide) (by decide)) rfl rfl rfl rfl rfl) ⟨va_cnB 0 F.2.2.2.2 (zgI ko_X1_init) rfl rfl rfl (G.2.2.2.1 (RX11, 25, yX1_init, RX11) (List.mem_of_getElem? (i := 1) rfl)) (F.2.2.2.2 _ (zin kn_X1)) hd_yX1_init ⟨Nat.le_of_ble_eq_true rfl, Nat.le_of_ble_eq_true rfl⟩, rfl, F.2.2.2.2 _ (zin ki_X1_init)⟩ rfl rfl (Nat.le_of_ble_eq_true rfl) dX11_init_31 ⟨Nat.le_of_ble_eq_true rfl, Nat.le_of_ble_eq_true rfl⟩ (fun S31 h31 => ?_)
  obtain ⟨C2, U2, hH, gc2, uo2, un2, x2_14, x2_16, x2_18, x2_20, x2_22⟩ := h31
  have uO2 : ∀ d, d ∉ ([8, 22, 24, 26, 28, 30] : List Nat) → U2 d = V2 d := fun d h9 => uo2 d (fun e => h9 (by rw [e]; decide)) (fun e => h9 (by rw [e]; decide)) (fun e => h9 (by rw [e]; decide)) (fun e => h9 (by rw [e]; decide)) (fun e => h9 (by rw [e]; decide)) (fun e => h9 (by rw [e]; decide))
  have gO2 : ∀ d, d ∉ ([8, 22, 24, 26, 28, 30] : List Nat) → C2 d = B2 d := fun d h9 => gc2 d (fun e => h9 (by rw [e]; decide)) (fun e => h9 (by rw [e]; decide)) (fun e => h9 (by rw [e]; decide)) (fun e => h9 (by rw [e]; decide)) (fun e => h9 (by rw [e]; decide))
  have gN2 : C2 8 = B2 8 := gc2 8 (by decide) (by decide) (by decide) (by decide) (by decide)
  have an2 : oa U2 2 := oa_eq ((uO2 2 (by decide)).trans ((v2b 2 (by decide)).trans w2_2)) trivial
  have eaU2 : C2 2 = a := (gO2 2 (by decide)).trans ((g2b 2 (by decide)).trans ea_2)
  have ecU2 : C2 8 = q27 := gN2.trans g2a
  have acU2 : oa U2 8 := oa_eq un2 trivial
  have hA2 : zA S31 a 11 := hH.al an2 eaU2 rfl
  refine r_putFq (v := some q27) (ci := 11) (k := 2) (id := 1102) (C := RX11) (T := TX11) (N := 8) (ty := (.object "ObjectLinker$CodeCheck")) (ty0 := tyX11) F G rfl (by decide) (by decide) rfl (zinL inG11) (zin kf_X11_26) (fun _ h9 => h9) tyX11_ok nmX11 rfl hnm rfl pd11_2 rfl rfl dX11_init_34 hA2 ?_
  obtain ⟨W3, hH9, w2_3, wd2⟩ := rf_fld (id := 1102) (x2 := some q27) hH an2 eaU2 rfl (by decide) (some 8) (by show _ = some (C2 8); rw [ecU2]) (fun d hd => by cases hd; exact Or.inr ⟨acU2, rfl⟩)
  refine zgen (P := zH t0 X S0 C2 W3) hH9 (fun S hH => ?_)
  clear hH9
  have w2_3 : W3 2 = eQ (eQ (eQ (eNo) 1100 (some 4)) 1101 (some 6)) 1102 (some 8) := w2_3.trans (congrArg (fun e => eQ e 1102 (some 8)) ((uO2 2 (by decide)).trans ((v2b 2 (by decide)).trans w2_2)))
  have ea_3 : C2 2 = a := eaU2
  have uE2 : ∀ c ∈ ([8, 22, 24, 26, 28, 30] : List Nat), U2 c = E9 c := List.forall_mem_cons.mpr ⟨un2.trans rfl, List.forall_mem_cons.mpr ⟨x2_14.trans rfl, List.forall_mem_cons.mpr ⟨x2_16.trans rfl, List.forall_mem_cons.mpr ⟨x2_18.trans rfl, List.forall_mem_cons.mpr ⟨x2_20.trans rfl, List.forall_mem_cons.mpr ⟨x2_22.trans rfl, fun c hc => absurd hc List.not_mem_nil⟩⟩⟩⟩⟩⟩
  have wE_3 : ∀ c ∈ ([4, 6, 16, 18, 20, 8, 22, 24, 26, 28, 30] : List Nat), W3 c = E9 c := fun c hc => by
    have h2 : c ≠ 2 := fun e => absurd (e ▸ hc) (by decide)
    refine (wd2 c h2).trans ?_
    by_cases h9 : c ∈ ([8, 22, 24, 26, 28, 30] : List Nat)
    · exact uE2 c h9
    · have h8 : c ∈ ([4, 6, 16, 18, 20] : List Nat) := (List.mem_append.mp (show c ∈ ([4, 6, 16, 18, 20] : List Nat) ++ ([8, 22, 24, 26, 28, 30] : List Nat) from hc)).resolve_right h9
      exact (uO2 c h9).trans ((v2b c (fun e => h9 (by rw [e]; decide))).trans (wE_2 c h8))
  have wD_3 : ∀ c, c ≠ 2 → c ∉ ([4, 6, 16, 18, 20, 8, 22, 24, 26, 28, 30] : List Nat) → ¬ oa W3 c := fun c h1 h2 h3 => by
    have h9 : c ∉ ([8, 22, 24, 26, 28, 30] : List Nat) := fun h8 => h2 (show c ∈ ([4, 6, 16, 18, 20] : List Nat) ++ ([8, 22, 24, 26, 28, 30] : List Nat) from List.mem_append.mpr (Or.inr h8))
    have h7 : c ∉ ([4, 6, 16, 18, 20] : List Nat) := fun h8 => h2 (show c ∈ ([4, 6, 16, 18, 20] : List Nat) ++ ([8, 22, 24, 26, 28, 30] : List Nat) from List.mem_append.mpr (Or.inl h8))
    exact wD_2 c h1 h7 (by show (W2 c).1; rw [← (wd2 c h1).trans ((uO2 c h9).trans (v2b c (fun e => h9 (by rw [e]; decide))))]; exact h3)
  refine r_aload_n F dX11_init_37 rfl ?_
  refine r_new (ci := 3) (C := RX2) (T := TX2) (N := 8) (ty0 := tyX2) F G rfl (by decide) (zinL inG3) tyX2_ok dvG3 (zin kc_X11_30) (zin kb_X2) (zin kn_X2) (by decide) (by decide) dX11_init_38 (fun q38 hq38 => ?_)
  have hN3 := hH.newo (n := 10) (wD_3 10 (by decide) (by decide)) (by decide) hq38 rfl (by decide)
  have v3a : va_up W3 10 eNo 10 = eNo := va_up_self _ _ _
  have v3b : ∀ d, d ≠ 10 → va_up W3 10 eNo d = W3 d := fun d hd => va_up_ne _ _ hd
  have g3a : va_up C2 10 q38 10 = q38 := va_up_self _ _ _
  have g3b : ∀ d, d ≠ 10 → va_up C2 10 q38 d = C2 d := fun d hd => va_up_ne _ _ hd
  refine zgen (P := zH t0 X S0 (va_up C2 10 q38) (va_up W3 10 eNo)) hN3 (fun S hH => ?_)
  generalize va_up W3 10 eNo = V3 at hH v3a v3b
  generalize va_up C2 10 q38 = B3 at hH g3a g3b
  have vF3 : ∀ d, d ≠ 2 → d ≠ 10 → d ∉ ([4, 6, 16, 18, 20, 8, 22, 24, 26, 28, 30] : List Nat) → ¬ oa V3 d := fun d h1 h2 h3 h4 => wD_3 d h1 h3 (by show (W3 d).1; rw [← v3b d h2]; exact h4)
  refine r_dup F dX11_init_41 rfl ?_
  refine c_Nv F G (c_ImageInit hH (n := 10) g3a rfl rfl v3a (vF3 (10 + 22) (by decide) (by decide) (by decide)) (vF3 (10 + 24) (by decide) (by decide) (by decide)) (vF3 (10 + 26) (by decide) (by decide) (by decide)) (vF3 (10 + 28) (by decide) (by decide) (by decide)) (vF3 (10 + 30) (by decide) (by decide) (by decide)) (vF3 (10 + 32) (by decide) (by decide) (by decide)) rfl rfl rfl rfl rfl rfl) ⟨va_cnB 0 F.2.2.2.2 (zgI ko_X2_init) rfl rfl rfl (G.2.2.2.1 (RX11, 32, yX2_init, RX11) (List.mem_of_getElem? (i := 2) rfl)) (F.2.2.2.2 _ (zin kn_X2)) hd_yX2_init ⟨Nat.le_of_ble_eq_true rfl, Nat.le_of_ble_eq_true rfl⟩, rfl, F.2.2.2.2 _ (zin ki_X2_init)⟩ rfl rfl (Nat.le_of_ble_eq_true rfl) dX11_init_42 ⟨Nat.le_of_ble_eq_true rfl, Nat.le_of_ble_eq_true rfl⟩ (fun S42 h42 => ?_)
  obtain ⟨C3, U3, hH, gc3, uo3, un3, x3_22, x3_24, x3_26, x3_28, x3_30, x3_32⟩ := h42
  have uO3 : ∀ d, d ∉ ([10, 32, 34, 36, 38, 40, 42] : List Nat) → U3 d = V3 d := fun d h9 => uo3 d (fun e => h9 (by rw [e]; decide)) (fun e => h9 (by rw [e]; decide)) (fun e => h9 (by rw [e]; decide)) (fun e => h9 (by rw [e]; decide)) (fun e => h9 (by rw [e]; decide)) (fun e => h9 (by rw [e]; decide)) (fun e => h9 (by rw [e]; decide))
  have gO3 : ∀ d, d ∉ ([10, 32, 34, 36, 38, 40, 42] : List Nat) → C3 d = B3 d := fun d h9 => gc3 d (fun e => h9 (by rw [e]; decide)) (fun e => h9 (by rw [e]; decide)) (fun e => h9 (by rw [e]; decide)) (fun e => h9 (by rw [e]; decide)) (fun e => h9 (by rw [e]; decide)) (fun e => h9 (by rw [e]; decide))
  have gN3 : C3 10 = B3 10 := gc3 10 (by decide) (by decide) (by decide) (by decide) (by decide) (by decide)
  have an3 : oa U3 2 := oa_eq ((uO3 2 (by decide)).trans ((v3b 2 (by decide)).trans w2_3)) trivial
  have eaU3 : C3 2 = a := (gO3 2 (by decide)).trans ((g3b 2 (by decide)).trans ea_3)
  have ecU3 : C3 10 = q38 := gN3.trans g3a
  have acU3 : oa U3 10 := oa_eq un3 trivial
  have hA3 : zA S42 a 11 := hH.al an3 eaU3 rfl
  refine r_putFq (v := some q38) (ci := 11) (k := 3) (id := 1103) (C := RX11) (T := TX11) (N := 8) (ty := (.object "ObjectLinker$Image")) (ty0 := tyX11) F G rfl (by decide) (by decide) rfl (zinL inG11) (zin kf_X11_33) (fun _ h9 => h9) tyX11_ok nmX11 rfl hnm rfl pd11_3 rfl rfl dX11_init_45 hA3 ?_
  obtain ⟨W4, hH9, w2_4, wd3⟩ := rf_fld (id := 1103) (x2 := some q38) hH an3 eaU3 rfl (by decide) (some 10) (by show _ = some (C3 10); rw [ecU3]) (fun d hd => by cases hd; exact Or.inr ⟨acU3, rfl⟩)
  refine zgen (P := zH t0 X S0 C3 W4) hH9 (fun S hH => ?_)
  clear hH9
  have w2_4 : W4 2 = eQ (eQ (eQ (eQ (eNo) 1100 (some 4)) 1101 (some 6)) 1102 (some 8)) 1103 (some 10) := w2_4.trans (congrArg (fun e => eQ e 1103 (some 10)) ((uO3 2 (by decide)).trans ((v3b 2 (by decide)).trans w2_3)))
  have ea_4 : C3 2 = a := eaU3
  have uE3 : ∀ c ∈ ([10, 32, 34, 36, 38, 40, 42] : List Nat), U3 c = E9 c := List.forall_mem_cons.mpr ⟨un3.trans rfl, List.forall_mem_cons.mpr ⟨x3_22.trans rfl, List.forall_mem_cons.mpr ⟨x3_24.trans rfl, List.forall_mem_cons.mpr ⟨x3_26.trans rfl, List.forall_mem_cons.mpr ⟨x3_28.trans rfl, List.forall_mem_cons.mpr ⟨x3_30.trans rfl, List.forall_mem_cons.mpr ⟨x3_32.trans rfl, fun c hc => absurd hc List.not_mem_nil⟩⟩⟩⟩⟩⟩⟩
  have wE_4 : ∀ c ∈ ([4, 6, 16, 18, 20, 8, 22, 24, 26, 28, 30, 10, 32, 34, 36, 38, 40, 42] : List Nat), W4 c = E9 c := fun c hc => by
    have h2 : c ≠ 2 := fun e => absurd (e ▸ hc) (by decide)
    refine (wd3 c h2).trans ?_
    by_cases h9 : c ∈ ([10, 32, 34, 36, 38, 40, 42] : List Nat)
    · exact uE3 c h9
    · have h8 : c ∈ ([4, 6, 16, 18, 20, 8, 22, 24, 26, 28, 30] : List Nat) := (List.mem_append.mp (show c ∈ ([4, 6, 16, 18, 20, 8, 22, 24, 26, 28, 30] : List Nat) ++ ([10, 32, 34, 36, 38, 40, 42] : List Nat) from hc)).resolve_right h9
      exact (uO3 c h9).trans ((v3b c (fun e => h9 (by rw [e]; decide))).trans (wE_3 c h8))
  have wD_4 : ∀ c, c ≠ 2 → c ∉ ([4, 6, 16, 18, 20, 8, 22, 24, 26, 28, 30, 10, 32, 34, 36, 38, 40, 42] : List Nat) → ¬ oa W4 c := fun c h1 h2 h3 => by
    have h9 : c ∉ ([10, 32, 34, 36, 38, 40, 42] : List Nat) := fun h8 => h2 (show c ∈ ([4, 6, 16, 18, 20, 8, 22, 24, 26, 28, 30] : List Nat) ++ ([10, 32, 34, 36, 38, 40, 42] : List Nat) from List.mem_append.mpr (Or.inr h8))
    have h7 : c ∉ ([4, 6, 16, 18, 20, 8, 22, 24, 26, 28, 30] : List Nat) := fun h8 => h2 (show c ∈ ([4, 6, 16, 18, 20, 8, 22, 24, 26, 28, 30] : List Nat) ++ ([10, 32, 34, 36, 38, 40, 42] : List Nat) from List.mem_append.mpr (Or.inl h8))
    exact wD_3 c h1 h7 (by show (W3 c).1; rw [← (wd3 c h1).trans ((uO3 c h9).trans (v3b c (fun e => h9 (by rw [e]; decide))))]; exact h3)
  refine r_aload_n F dX11_init_48 rfl ?_
  refine r_new (ci := 5) (C := RX4) (T := TX4) (N := 3) (ty0 := tyX4) F G rfl (by decide) (zinL inG5) tyX4_ok dvG5 (zin kc_X11_37) (zin kb_X4) (zin kn_X4) (by decide) (by decide) dX11_init_49 (fun q49 hq49 => ?_)
  have hN4 := hH.newo (n := 12) (wD_4 12 (by decide) (by decide)) (by decide) hq49 rfl (by decide)
  have v4a : va_up W4 12 eNo 12 = eNo := va_up_self _ _ _
  have v4b : ∀ d, d ≠ 12 → va_up W4 12 eNo d = W4 d := fun d hd => va_up_ne _ _ hd
  have g4a : va_up C3 12 q49 12 = q49 := va_up_self _ _ _
  have g4b : ∀ d, d ≠ 12 → va_up C3 12 q49 d = C3 d := fun d hd => va_up_ne _ _ hd
  refine zgen (P := zH t0 X S0 (va_up C3 12 q49) (va_up W4 12 eNo)) hN4 (fun S hH => ?_)
  generalize va_up W4 12 eNo = V4 at hH v4a v4b
  generalize va_up C3 12 q49 = B4 at hH g4a g4b
  have vF4 : ∀ d, d ≠ 2 → d ≠ 12 → d ∉ ([4, 6, 16, 18, 20, 8, 22, 24, 26, 28, 30, 10, 32, 34, 36, 38, 40, 42] : List Nat) → ¬ oa V4 d := fun d h1 h2 h3 h4 => wD_4 d h1 h3 (by show (W4 d).1; rw [← v4b d h2]; exact h4)
  refine r_dup F dX11_init_52 rfl ?_
  refine c_Nv F G (c_WriterInit hH v4a g4a (fun d h1 h2 => vF4 d (by omega) (by omega) (fun h3 => absurd h3 (by intro h4; simp only [List.mem_cons, List.not_mem_nil, or_false] at h4; omega)))) ⟨va_cnB 0 F.2.2.2.2 (zgI ko_X4_init) rfl rfl rfl (G.2.2.2.1 (RX11, 39, yX4_init, RX11) (List.mem_of_getElem? (i := 3) rfl)) (F.2.2.2.2 _ (zin kn_X4)) hd_yX4_init ⟨Nat.le_of_ble_eq_true rfl, Nat.le_of_ble_eq_true rfl⟩, rfl, F.2.2.2.2 _ (zin ki_X4_init)⟩ rfl rfl (Nat.le_of_ble_eq_true rfl) dX11_init_53 ⟨Nat.le_of_ble_eq_true rfl, Nat.le_of_ble_eq_true rfl⟩ (fun S53 h53 => ?_)
  obtain ⟨C4, U4, hH, gc4, un4, xc4, uo4⟩ := h53
  have uO4 : ∀ d, d ∉ ([12, 44, 45, 46, 47, 48, 49] : List Nat) → U4 d = V4 d := fun d h9 => uo4 d (fun e => h9 (by rw [e]; decide)) (fun h8 => h9 (by rcases (show d = 44 ∨ d = 45 ∨ d = 46 ∨ d = 47 ∨ d = 48 ∨ d = 49 by omega) with e | e | e | e | e | e <;> rw [e] <;> decide))
  have gO4 : ∀ d, d ∉ ([12, 44, 45, 46, 47, 48, 49] : List Nat) → C4 d = B4 d := fun d h9 => gc4 d (fun h8 => h9 (by rcases (show d = 44 ∨ d = 45 ∨ d = 46 ∨ d = 47 ∨ d = 48 ∨ d = 49 by omega) with e | e | e | e | e | e <;> rw [e] <;> decide))
  have gN4 : C4 12 = B4 12 := gc4 12 (by decide)
  have an4 : oa U4 2 := oa_eq ((uO4 2 (by decide)).trans ((v4b 2 (by decide)).trans w2_4)) trivial
  have eaU4 : C4 2 = a := (gO4 2 (by decide)).trans ((g4b 2 (by decide)).trans ea_4)
  have ecU4 : C4 12 = q49 := gN4.trans g4a
  have acU4 : oa U4 12 := oa_eq un4 trivial
  have hA4 : zA S53 a 11 := hH.al an4 eaU4 rfl
  refine r_putFq (v := some q49) (ci := 11) (k := 4) (id := 1104) (C := RX11) (T := TX11) (N := 8) (ty := (.object "ObjectLinker$ModuleWriter")) (ty0 := tyX11) F G rfl (by decide) (by decide) rfl (zinL inG11) (zin kf_X11_40) (fun _ h9 => h9) tyX11_ok nmX11 rfl hnm rfl pd11_4 rfl rfl dX11_init_56 hA4 ?_
  obtain ⟨W5, hH9, w2_5, wd4⟩ := rf_fld (id := 1104) (x2 := some q49) hH an4 eaU4 rfl (by decide) (some 12) (by show _ = some (C4 12); rw [ecU4]) (fun d hd => by cases hd; exact Or.inr ⟨acU4, rfl⟩)
  refine zgen (P := zH t0 X S0 C4 W5) hH9 (fun S hH => ?_)
  clear hH9
  have w2_5 : W5 2 = eQ (eQ (eQ (eQ (eQ (eNo) 1100 (some 4)) 1101 (some 6)) 1102 (some 8)) 1103 (some 10)) 1104 (some 12) := w2_5.trans (congrArg (fun e => eQ e 1104 (some 12)) ((uO4 2 (by decide)).trans ((v4b 2 (by decide)).trans w2_4)))
  have ea_5 : C4 2 = a := eaU4
  have uE4 : ∀ c ∈ ([12, 44, 45, 46, 47, 48, 49] : List Nat), U4 c = E9 c := List.forall_mem_cons.mpr ⟨un4.trans rfl, List.forall_mem_cons.mpr ⟨(xc4 44 (by decide)).1.trans rfl, List.forall_mem_cons.mpr ⟨(xc4 44 (by decide)).2.trans rfl, List.forall_mem_cons.mpr ⟨(xc4 46 (by decide)).1.trans rfl, List.forall_mem_cons.mpr ⟨(xc4 46 (by decide)).2.trans rfl, List.forall_mem_cons.mpr ⟨(xc4 48 (by decide)).1.trans rfl, List.forall_mem_cons.mpr ⟨(xc4 48 (by decide)).2.trans rfl, fun c hc => absurd hc List.not_mem_nil⟩⟩⟩⟩⟩⟩⟩
  have wE_5 : ∀ c ∈ ([4, 6, 16, 18, 20, 8, 22, 24, 26, 28, 30, 10, 32, 34, 36, 38, 40, 42, 12, 44, 45, 46, 47, 48, 49] : List Nat), W5 c = E9 c := fun c hc => by
    have h2 : c ≠ 2 := fun e => absurd (e ▸ hc) (by decide)
    refine (wd4 c h2).trans ?_
    by_cases h9 : c ∈ ([12, 44, 45, 46, 47, 48, 49] : List Nat)
    · exact uE4 c h9
    · have h8 : c ∈ ([4, 6, 16, 18, 20, 8, 22, 24, 26, 28, 30, 10, 32, 34, 36, 38, 40, 42] : List Nat) := (List.mem_append.mp (show c ∈ ([4, 6, 16, 18, 20, 8, 22, 24, 26, 28, 30, 10, 32, 34, 36, 38, 40, 42] : List Nat) ++ ([12, 44, 45, 46, 47, 48, 49] : List Nat) from hc)).resolve_right h9
      exact (uO4 c h9).trans ((v4b c (fun e => h9 (by rw [e]; decide))).trans (wE_4 c h8))
  have wD_5 : ∀ c, c ≠ 2 → c ∉ ([4, 6, 16, 18, 20, 8, 22, 24, 26, 28, 30, 10, 32, 34, 36, 38, 40, 42, 12, 44, 45, 46, 47, 48, 49] : List Nat) → ¬ oa W5 c := fun c h1 h2 h3 => by
    have h9 : c ∉ ([12, 44, 45, 46, 47, 48, 49] : List Nat) := fun h8 => h2 (show c ∈ ([4, 6, 16, 18, 20, 8, 22, 24, 26, 28, 30, 10, 32, 34, 36, 38, 40, 42] : List Nat) ++ ([12, 44, 45, 46, 47, 48, 49] : List Nat) from List.mem_append.mpr (Or.inr h8))
    have h7 : c ∉ ([4, 6, 16, 18, 20, 8, 22, 24, 26, 28, 30, 10, 32, 34, 36, 38, 40, 42] : List Nat) := fun h8 => h2 (show c ∈ ([4, 6, 16, 18, 20, 8, 22, 24, 26, 28, 30, 10, 32, 34, 36, 38, 40, 42] : List Nat) ++ ([12, 44, 45, 46, 47, 48, 49] : List Nat) from List.mem_append.mpr (Or.inl h8))
    exact wD_4 c h1 h7 (by show (W4 c).1; rw [← (wd4 c h1).trans ((uO4 c h9).trans (v4b c (fun e => h9 (by rw [e]; decide))))]; exact h3)
  refine r_aload_n F dX11_init_59 rfl ?_
  refine r_new (ci := 4) (C := RX3) (T := TX3) (N := 12) (ty0 := tyX3) F G rfl (by decide) (zinL inG4) tyX3_ok dvG4 (zin kc_X11_44) (zin kb_X3) (zin kn_X3) (by decide) (by decide) dX11_init_60 (fun q60 hq60 => ?_)
  have hN5 := hH.newo (n := 14) (wD_5 14 (by decide) (by decide)) (by decide) hq60 rfl (by decide)
  have v5a : va_up W5 14 eNo 14 = eNo := va_up_self _ _ _
  have v5b : ∀ d, d ≠ 14 → va_up W5 14 eNo d = W5 d := fun d hd => va_up_ne _ _ hd
  have g5a : va_up C4 14 q60 14 = q60 := va_up_self _ _ _
  have g5b : ∀ d, d ≠ 14 → va_up C4 14 q60 d = C4 d := fun d hd => va_up_ne _ _ hd
  refine zgen (P := zH t0 X S0 (va_up C4 14 q60) (va_up W5 14 eNo)) hN5 (fun S hH => ?_)
  generalize va_up W5 14 eNo = V5 at hH v5a v5b
  generalize va_up C4 14 q60 = B5 at hH g5a g5b
  have vF5 : ∀ d, d ≠ 2 → d ≠ 14 → d ∉ ([4, 6, 16, 18, 20, 8, 22, 24, 26, 28, 30, 10, 32, 34, 36, 38, 40, 42, 12, 44, 45, 46, 47, 48, 49] : List Nat) → ¬ oa V5 d := fun d h1 h2 h3 h4 => wD_5 d h1 h3 (by show (W5 d).1; rw [← v5b d h2]; exact h4)
  refine r_dup F dX11_init_63 rfl ?_
  refine c_Nv F G (c_MachineInit hH (n := 14) g5a rfl rfl v5a (vF5 (14 + 36) (by decide) (by decide) (by decide)) (vF5 (14 + 38) (by decide) (by decide) (by decide)) (vF5 (14 + 40) (by decide) (by decide) (by decide)) (vF5 (14 + 42) (by decide) (by decide) (by decide)) (vF5 (14 + 44) (by decide) (by decide) (by decide)) rfl rfl rfl rfl rfl) ⟨va_cnB 0 F.2.2.2.2 (zgI ko_X3_init) rfl rfl rfl (G.2.2.2.1 (RX11, 46, yX3_init, RX11) (List.mem_of_getElem? (i := 4) rfl)) (F.2.2.2.2 _ (zin kn_X3)) hd_yX3_init ⟨Nat.le_of_ble_eq_true rfl, Nat.le_of_ble_eq_true rfl⟩, rfl, F.2.2.2.2 _ (zin ki_X3_init)⟩ rfl rfl (Nat.le_of_ble_eq_true rfl) dX11_init_64 ⟨Nat.le_of_ble_eq_true rfl, Nat.le_of_ble_eq_true rfl⟩ (fun S64 h64 => ?_)
  obtain ⟨C5, U5, hH, gc5, uo5, un5, x5_36, x5_38, x5_40, x5_42, x5_44⟩ := h64
  have uO5 : ∀ d, d ∉ ([14, 50, 52, 54, 56, 58] : List Nat) → U5 d = V5 d := fun d h9 => uo5 d (fun e => h9 (by rw [e]; decide)) (fun e => h9 (by rw [e]; decide)) (fun e => h9 (by rw [e]; decide)) (fun e => h9 (by rw [e]; decide)) (fun e => h9 (by rw [e]; decide)) (fun e => h9 (by rw [e]; decide))
  have gO5 : ∀ d, d ∉ ([14, 50, 52, 54, 56, 58] : List Nat) → C5 d = B5 d := fun d h9 => gc5 d (fun e => h9 (by rw [e]; decide)) (fun e => h9 (by rw [e]; decide)) (fun e => h9 (by rw [e]; decide)) (fun e => h9 (by rw [e]; decide)) (fun e => h9 (by rw [e]; decide))
  have gN5 : C5 14 = B5 14 := gc5 14 (by decide) (by decide) (by decide) (by decide) (by decide)
  have an5 : oa U5 2 := oa_eq ((uO5 2 (by decide)).trans ((v5b 2 (by decide)).trans w2_5)) trivial
  have eaU5 : C5 2 = a := (gO5 2 (by decide)).trans ((g5b 2 (by decide)).trans ea_5)
  have ecU5 : C5 14 = q60 := gN5.trans g5a
  have acU5 : oa U5 14 := oa_eq un5 trivial
  have hA5 : zA S64 a 11 := hH.al an5 eaU5 rfl
  refine r_putFq (v := some q60) (ci := 11) (k := 5) (id := 1105) (C := RX11) (T := TX11) (N := 8) (ty := (.object "ObjectLinker$Machine")) (ty0 := tyX11) F G rfl (by decide) (by decide) rfl (zinL inG11) (zin kf_X11_47) (fun _ h9 => h9) tyX11_ok nmX11 rfl hnm rfl pd11_5 rfl rfl dX11_init_67 hA5 ?_
  obtain ⟨W6, hH9, w2_6, wd5⟩ := rf_fld (id := 1105) (x2 := some q60) hH an5 eaU5 rfl (by decide) (some 14) (by show _ = some (C5 14); rw [ecU5]) (fun d hd => by cases hd; exact Or.inr ⟨acU5, rfl⟩)
  refine zgen (P := zH t0 X S0 C5 W6) hH9 (fun S hH => ?_)
  clear hH9
  have w2_6 : W6 2 = eQ (eQ (eQ (eQ (eQ (eQ (eNo) 1100 (some 4)) 1101 (some 6)) 1102 (some 8)) 1103 (some 10)) 1104 (some 12)) 1105 (some 14) := w2_6.trans (congrArg (fun e => eQ e 1105 (some 14)) ((uO5 2 (by decide)).trans ((v5b 2 (by decide)).trans w2_5)))
  have ea_6 : C5 2 = a := eaU5
  have uE5 : ∀ c ∈ ([14, 50, 52, 54, 56, 58] : List Nat), U5 c = E9 c := List.forall_mem_cons.mpr ⟨un5.trans rfl, List.forall_mem_cons.mpr ⟨x5_36.trans rfl, List.forall_mem_cons.mpr ⟨x5_38.trans rfl, List.forall_mem_cons.mpr ⟨x5_40.trans rfl, List.forall_mem_cons.mpr ⟨x5_42.trans rfl, List.forall_mem_cons.mpr ⟨x5_44.trans rfl, fun c hc => absurd hc List.not_mem_nil⟩⟩⟩⟩⟩⟩
  have wE_6 : ∀ c ∈ ([4, 6, 16, 18, 20, 8, 22, 24, 26, 28, 30, 10, 32, 34, 36, 38, 40, 42, 12, 44, 45, 46, 47, 48, 49, 14, 50, 52, 54, 56, 58] : List Nat), W6 c = E9 c := fun c hc => by
    have h2 : c ≠ 2 := fun e => absurd (e ▸ hc) (by decide)
    refine (wd5 c h2).trans ?_
    by_cases h9 : c ∈ ([14, 50, 52, 54, 56, 58] : List Nat)
    · exact uE5 c h9
    · have h8 : c ∈ ([4, 6, 16, 18, 20, 8, 22, 24, 26, 28, 30, 10, 32, 34, 36, 38, 40, 42, 12, 44, 45, 46, 47, 48, 49] : List Nat) := (List.mem_append.mp (show c ∈ ([4, 6, 16, 18, 20, 8, 22, 24, 26, 28, 30, 10, 32, 34, 36, 38, 40, 42, 12, 44, 45, 46, 47, 48, 49] : List Nat) ++ ([14, 50, 52, 54, 56, 58] : List Nat) from hc)).resolve_right h9
      exact (uO5 c h9).trans ((v5b c (fun e => h9 (by rw [e]; decide))).trans (wE_5 c h8))
  have wD_6 : ∀ c, c ≠ 2 → c ∉ ([4, 6, 16, 18, 20, 8, 22, 24, 26, 28, 30, 10, 32, 34, 36, 38, 40, 42, 12, 44, 45, 46, 47, 48, 49, 14, 50, 52, 54, 56, 58] : List Nat) → ¬ oa W6 c := fun c h1 h2 h3 => by
    have h9 : c ∉ ([14, 50, 52, 54, 56, 58] : List Nat) := fun h8 => h2 (show c ∈ ([4, 6, 16, 18, 20, 8, 22, 24, 26, 28, 30, 10, 32, 34, 36, 38, 40, 42, 12, 44, 45, 46, 47, 48, 49] : List Nat) ++ ([14, 50, 52, 54, 56, 58] : List Nat) from List.mem_append.mpr (Or.inr h8))
    have h7 : c ∉ ([4, 6, 16, 18, 20, 8, 22, 24, 26, 28, 30, 10, 32, 34, 36, 38, 40, 42, 12, 44, 45, 46, 47, 48, 49] : List Nat) := fun h8 => h2 (show c ∈ ([4, 6, 16, 18, 20, 8, 22, 24, 26, 28, 30, 10, 32, 34, 36, 38, 40, 42, 12, 44, 45, 46, 47, 48, 49] : List Nat) ++ ([14, 50, 52, 54, 56, 58] : List Nat) from List.mem_append.mpr (Or.inl h8))
    exact wD_5 c h1 h7 (by show (W5 c).1; rw [← (wd5 c h1).trans ((uO5 c h9).trans (v5b c (fun e => h9 (by rw [e]; decide))))]; exact h3)
  refine r_aload_n F dX11_init_70 rfl ?_
  refine r_iconst (v := 0) F dX11_init_71 (by decide) ?_
  refine r_puti (ci := 11) (k := 6) (id := 1106) (C := RX11) (T := TX11) (N := 8) (ty := .boolean) (ty0 := tyX11) F G rfl (by decide) (by decide) rfl (zinL inG11) (zin kf_X11_51) (fun _ h9 => h9) tyX11_ok nmX11 rfl pd11_6 rfl rfl dX11_init_72 (hH.al (oa_eq w2_6 trivial) ea_6 rfl) ?_
  refine zgen (P := zH t0 X S0 C5 (oI W6 2 1106 0)) (hH.pi (id := 1106) (oa_eq w2_6 trivial) ea_6 rfl (by decide) 0) (fun S hH => ?_)
  have w2a : oI W6 2 1106 0 2 = eI (eQ (eQ (eQ (eQ (eQ (eQ (eNo) 1100 (some 4)) 1101 (some 6)) 1102 (some 8)) 1103 (some 10)) 1104 (some 12)) 1105 (some 14)) 1106 0 := (va_up_self _ _ _).trans (congrArg (fun e => eI e 1106 0) w2_6)
  have wda : ∀ d, d ≠ 2 → oI W6 2 1106 0 d = W6 d := fun d hd => va_up_ne _ _ hd
  generalize oI W6 2 1106 0 = Wa at hH w2a wda
  refine r_aload_n F dX11_init_75 rfl ?_
  refine r_iconst (v := -1) F dX11_init_76 (by decide) ?_
  refine r_puti (ci := 11) (k := 7) (id := 1107) (C := RX11) (T := TX11) (N := 8) (ty := .int) (ty0 := tyX11) F G rfl (by decide) (by decide) rfl (zinL inG11) (zin kf_X11_55) (fun _ h9 => h9) tyX11_ok nmX11 rfl pd11_7 rfl rfl dX11_init_77 (hH.al (oa_eq w2a trivial) ea_6 rfl) ?_
  refine zgen (P := zH t0 X S0 C5 (oI Wa 2 1107 (-1))) (hH.pi (id := 1107) (oa_eq w2a trivial) ea_6 rfl (by decide) (-1)) (fun S hH => ?_)
  have w2b : oI Wa 2 1107 (-1) 2 = eI (eI (eQ (eQ (eQ (eQ (eQ (eQ (eNo) 1100 (some 4)) 1101 (some 6)) 1102 (some 8)) 1103 (some 10)) 1104 (some 12)) 1105 (some 14)) 1106 0) 1107 (-1) := (va_up_self _ _ _).trans (congrArg (fun e => eI e 1107 (-1)) w2a)
  have wdb : ∀ d, d ≠ 2 → oI Wa 2 1107 (-1) d = Wa d := fun d hd => va_up_ne _ _ hd
  generalize oI Wa 2 1107 (-1) = Wb at hH w2b wdb
  exact e_vret F hr hlk ⟨C5, Wb, hH, ea_6, w2b.trans rfl, fun c hc => ((wdb c (fun e => absurd (e ▸ hc) (by decide))).trans (wda c (fun e => absurd (e ▸ hc) (by decide)))).trans (wE_6 c hc), fun c h1 h2 h3 => wD_6 c h1 h2 (by show (W6 c).1; rw [← (wdb c h1).trans (wda c h1)]; exact h3)⟩ (by decide) (by decide) dX11_init_80
/-- a fresh reference -/
def v9 : zV := (fun i _ => if i = 1220 then -1 else 0, fun _ _ => 0)
theorem E9_w : ∀ id ∈ wL, ∀ c ∈ 2 :: L9, kd c = id / 100 → ((E9 c).2.2.1 id = some (wd id c) ∧ wd id c ∈ L9 ∧ (wn id ≠ 0 → (E9 (wd id c)).2.2.2.2.1 = wn id) ∧ kd (wd id c) = wk id) := by decide +kernel
theorem E9_a : ∀ c ∈ L9, (E9 c).1 := by
  have h : ∀ c ∈ L9, (E9 c).1 = True := List.forall_mem_cons.mpr ⟨rfl, List.forall_mem_cons.mpr ⟨rfl, List.forall_mem_cons.mpr ⟨rfl, List.forall_mem_cons.mpr ⟨rfl, List.forall_mem_cons.mpr ⟨rfl, List.forall_mem_cons.mpr ⟨rfl, List.forall_mem_cons.mpr ⟨rfl, List.forall_mem_cons.mpr ⟨rfl, List.forall_mem_cons.mpr ⟨rfl, List.forall_mem_cons.mpr ⟨rfl, List.forall_mem_cons.mpr ⟨rfl, List.forall_mem_cons.mpr ⟨rfl, List.forall_mem_cons.mpr ⟨rfl, List.forall_mem_cons.mpr ⟨rfl, List.forall_mem_cons.mpr ⟨rfl, List.forall_mem_cons.mpr ⟨rfl, List.forall_mem_cons.mpr ⟨rfl, List.forall_mem_cons.mpr ⟨rfl, List.forall_mem_cons.mpr ⟨rfl, List.forall_mem_cons.mpr ⟨rfl, List.forall_mem_cons.mpr ⟨rfl, List.forall_mem_cons.mpr ⟨rfl, List.forall_mem_cons.mpr ⟨rfl, List.forall_mem_cons.mpr ⟨rfl, List.forall_mem_cons.mpr ⟨rfl, List.forall_mem_cons.mpr ⟨rfl, List.forall_mem_cons.mpr ⟨rfl, List.forall_mem_cons.mpr ⟨rfl, List.forall_mem_cons.mpr ⟨rfl, List.forall_mem_cons.mpr ⟨rfl, List.forall_mem_cons.mpr ⟨rfl, fun c hc => absurd hc List.not_mem_nil⟩⟩⟩⟩⟩⟩⟩⟩⟩⟩⟩⟩⟩⟩⟩⟩⟩⟩⟩⟩⟩⟩⟩⟩⟩⟩⟩⟩⟩⟩⟩
  intro c hc
  rw [h c hc]
  exact trivial
section ZV9
variable {W : zO}
theorem v9_wr (h2 : W 2 = E9 2) (hE : ∀ c ∈ L9, W c = E9 c) (hD : ∀ c, c ≠ 2 → c ∉ L9 → ¬ oa W c) : wr W := fun id hid c hc hk => by
  have hm : c ∈ 2 :: L9 := by
    by_cases e : c = 2
    · rw [e]; exact List.mem_cons_self
    · by_cases e2 : c ∈ L9
      · exact List.mem_cons_of_mem _ e2
      · exact absurd hc (hD c e e2)
  have hW : W c = E9 c := (List.mem_cons.mp hm).elim (fun e => by rw [e]; exact h2) (fun h9 => hE c h9)
  obtain ⟨q1, q2, q3, q4⟩ := E9_w id hid c hm hk
  refine ⟨by show (W c).2.2.1 id = _; rw [hW]; exact q1, by show (W (wd id c)).1; rw [hE _ q2]; exact E9_a _ q2, fun h9 => ?_, q4⟩
  show (W (wd id c)).2.2.2.2.1 = _
  rw [hE _ q2]
  exact q3 h9
theorem v9_vl (hE : ∀ c ∈ L9, W c = E9 c) {c : Nat} {f : Nat → Nat} (hc : c ∈ L9) (he : E9 c = eQ (eI eNo 0 0) 1 (some 0)) : vl W c 0 f := by
  have hW := (hE c hc).trans he
  refine ⟨oa_eq hW trivial, ?_, fun j hj => ?_, Or.inl ⟨rfl, ?_⟩⟩
  · show (W c).2.1 2 = _
    rw [hW]
    rfl
  · show (W c).2.2.1 j = _
    rw [hW]
    exact va_up_ne _ _ hj
  · show (W c).2.2.1 1 = _
    rw [hW]
    rfl
theorem v9_bL (hE : ∀ c ∈ L9, W c = E9 c) {c : Nat} (hc : c = 44 ∨ c = 46 ∨ c = 48) : bL W c [] 128 := by
  have h1 : W c = eQ eNo 100 (some (c + 1)) := by rcases hc with e | e | e <;> subst e <;> exact (hE _ (by decide)).trans rfl
  have h2 : W (c + 1) = eNa 128 := by rcases hc with e | e | e <;> subst e <;> exact (hE _ (by decide)).trans rfl
  refine ⟨hc, oa_eq h1 trivial, ?_, fun j hj => ?_, oa_eq h2 trivial, ?_, ?_, Nat.zero_le _, ⟨0, by decide, rfl⟩, (fun x hx => by cases hx), fun i hi => absurd hi (Nat.not_lt_zero i)⟩
  · show (W c).2.2.1 100 = _
    rw [h1]
    exact (show va_up (fun _ => (none : Option Nat)) 100 (some (c + 1)) 100 = some (c + 1) from va_up_self _ _ _)
  · show (W c).2.2.1 j = _
    rw [h1]
    exact (show va_up (fun _ => (none : Option Nat)) 100 (some (c + 1)) j = none from va_up_ne _ _ hj)
  · show (W c).2.1 101 = _
    rw [h1]
    rfl
  · show (W (c + 1)).2.2.2.2.1 = _
    rw [h2]
theorem v9_I : vI v9 := by
  have hz : ∀ i k, i ≠ 1220 → v9.1 i k = 0 := fun i k h => if_neg h
  have hc : ∀ i k, i ≠ 1220 → cn v9 i k = 0 := fun i k h => by show (v9.1 i k).toNatClampNeg = 0; rw [hz i k h]; rfl
  refine ⟨fun t ht k hk => ?_, fun o h1 h2 => ⟨hc _ _ (by decide), hc _ _ (by decide), hc _ _ (by decide)⟩, ⟨fun f hf ht => ⟨hz _ _ (by decide), fun k hk => ⟨hz _ _ (by decide), hz _ _ (by decide)⟩⟩, fun g hg ht k hk => hz _ _ (by decide)⟩, fun y hy ht => ?_, fun i hi => ?_⟩
  · have hne : t.1 ≠ 1220 := (show ∀ t ∈ zmB, t.1 ≠ 1220 by decide) t ht
    exact ⟨by rw [hz _ _ hne, hc _ _ hne]; rfl, by rw [hc _ _ hne]; exact Nat.zero_le _⟩
  · rw [hc _ _ (by decide)] at ht
    exact absurd ht (Nat.not_lt_zero _)
  · rw [hz _ _ (by decide)]
    rfl
theorem v9_R (h2 : W 2 = E9 2) (hE : ∀ c ∈ L9, W c = E9 c) (hD : ∀ c, c ≠ 2 → c ∉ L9 → ¬ oa W c) : Rep v9 W := by
  have hc : ∀ i k, i ≠ 1220 → cn v9 i k = 0 := fun i k h => by show (v9.1 i k).toNatClampNeg = 0; rw [show v9.1 i k = 0 from if_neg h]; rfl
  have h14 : W 14 = E9 14 := hE 14 (by decide)
  have h58 : W 58 = E9 58 := hE 58 (by decide)
  refine ⟨v9_wr h2 hE hD, oa_eq h2 trivial, ?_, fun o ho => ?_, fun f hf ht => ?_, fun g hg ht => ?_, fun y hy ht => ?_, fun c hc9 => Or.inl ?_, ?_, ?_, ?_, ?_, ?_, fun k hk => ?_, ?_⟩
  · rw [hc _ _ (by decide)]
    exact v9_vl hE (by decide) rfl
  · rw [hc _ _ (by decide)] at ho; exact absurd ho (Nat.not_lt_zero _)
  · rw [hc _ _ (by decide)] at ht; exact absurd ht (Nat.not_lt_zero _)
  · rw [hc _ _ (by decide)] at ht; exact absurd ht (Nat.not_lt_zero _)
  · rw [hc _ _ (by decide)] at ht; exact absurd ht (Nat.not_lt_zero _)
  · by_cases e : c = 2
    · omega
    · by_cases e2 : c ∈ L9
      · exact (show ∀ c ∈ L9, c < 60 by decide) c e2
      · exact absurd hc9 (hD c e e2)
  · show (W 2).2.1 1106 = _
    rw [h2]; rfl
  · show (W 2).2.1 1107 = _
    rw [h2]; rfl
  · show (W 14).2.2.2.1 409 = _
    rw [h14]; rfl
  · show (W 14).2.1 410 = _
    rw [h14]; rfl
  · show (W 14).2.1 411 = _
    rw [h14]; rfl
  · show (W 58).2.2.2.2.2.1 k = _
    rw [h58]; rfl
  · exact ⟨⟨0, fun _ => 0, by decide, v9_vl hE (by decide) rfl, fun i hi => absurd hi (Nat.not_lt_zero i)⟩, ⟨0, fun _ => 0, by decide, v9_vl hE (by decide) rfl, fun i hi => absurd hi (Nat.not_lt_zero i)⟩, ⟨0, fun _ => 0, by decide, v9_vl hE (by decide) rfl, fun i hi => absurd hi (Nat.not_lt_zero i)⟩, ⟨0, fun _ => 0, by decide, v9_vl hE (by decide) rfl, fun i hi => absurd hi (Nat.not_lt_zero i)⟩, (v9_bL hE (Or.inl rfl)).vb, (v9_bL hE (Or.inr (Or.inl rfl))).vb, (v9_bL hE (Or.inr (Or.inr rfl))).vb⟩
end ZV9
