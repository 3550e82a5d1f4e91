theorem vl_cell {W : zO} {c : Nat} {f : Nat → Nat} (h : W c = eQ (eI eNo 0 0) 1 (some 0)) : vl W c 0 f := by
  refine ⟨oa_eq h trivial, ?_, fun j hj => ?_, Or.inl ⟨rfl, ?_⟩⟩
  · show (W c).2.1 2 = _
    rw [h]
    rfl
  · show (W c).2.2.1 j = _
    rw [h]
    exact va_up_ne _ _ hj
  · show (W c).2.2.1 1 = _
    rw [h]
    rfl
theorem Rep.obj {v : zV} {W W' : zO} (h : Rep v W) (hA : vA v) {n : Nat} (hn : v.1 1201 0 = nI n) (hn6 : n < 6) (hW : ∀ d, d ≠ 100 + 8 * n → d ≠ 100 + 8 * n + 2 → d ≠ 100 + 8 * n + 4 → d ≠ 100 + 8 * n + 6 → d ≠ 4 → d ≠ 5 → W' d = W d) (hl : vl W' 4 (n + 1) (fun o => 100 + 8 * o)) (hB : W' (100 + 8 * n) = eQ (eQ (eQ eNo 1000 (some (100 + 8 * n + 2))) 1001 (some (100 + 8 * n + 4))) 1002 (some (100 + 8 * n + 6))) (h2 : W' (100 + 8 * n + 2) = eQ (eI eNo 0 0) 1 (some 0)) (h4 : W' (100 + 8 * n + 4) = eQ (eI eNo 0 0) 1 (some 0)) (h6 : W' (100 + 8 * n + 6) = eQ (eI eNo 0 0) 1 (some 0)) : Rep (u1 v 1201 0 (nI (n + 1))) W' := by
  have hcn : cn v 1201 0 = n := cn_z hn (by omega)
  have hc1 : cn (u1 v 1201 0 (nI (n + 1))) 1201 0 = n + 1 := cn_z (show z2 v.1 1201 0 (nI (n + 1)) 1201 0 = nI (n + 1) from z2_s _ _ _ _) (by omega)
  have hku := kd_u n hn6
  have hA0 := hA n (by omega) hn6
  obtain ⟨y1, y2, y3, y4, y5, y6, y7, y8, y9, y10, y11, y12, y13, y14, y15⟩ := h
  rw [hcn] at y4
  have hold : ∀ c, oa W c → ¬ (100 + 8 * n ≤ c ∧ c < 100 + 8 * n + 8) := fun c hc h9 => by
    have e1 : (c - 100) / 8 = n := by omega
    rcases y8 c hc with r | r | r | r | r
    · omega
    · rw [e1, hcn] at r
      omega
    · omega
    · omega
    · omega
  have hkp : ∀ c, oa W c → c ≠ 4 → c ≠ 5 → W' c = W c := fun c hc c1 c2 => by
    have := hold c hc
    exact hW c (by omega) (by omega) (by omega) (by omega) c1 c2
  obtain ⟨l1, l2, l3, l4⟩ := hl.pos (by omega)
  have hal : ∀ c, oa W c → oa W' c := fun c hc => by
    by_cases c1 : c = 4
    · rw [c1]; exact hl.1
    · by_cases c2 : c = 5
      · rw [c2]; exact l2
      · show (W' c).1
        rw [hkp c hc c1 c2]; exact hc
  refine ⟨y1.ext (fun c hc k1 k2 => hkp c hc (fun e => k1 (by rw [e]; rfl)) (fun e => k2 (by rw [e]; rfl))) hal (fun c hc hnc id hid hk => ?_), hal 2 y2, ?_, fun o ho => ?_, fun f hf hf2 => ?_, fun g hg hg2 => ?_, fun y hy hy2 => ?_, fun c hc => ?_, ?_, ?_, ?_, ?_, ?_, fun k hk => ?_, y15.same (fun d d1 d2 => hW d (by omega) (by omega) (by omega) (by omega) (by omega) (by omega))⟩
  · have hw := wL_k id hid
    by_cases e0 : c = 100 + 8 * n
    · subst e0
      have h7 := wL_10 id hid (by rw [← hk]; exact hku.1)
      rcases h7 with r | r | r <;> subst r
      · exact ⟨by show (W' _).2.2.1 1000 = _; rw [hB]; rfl, oa_eq h2 trivial, fun h9 => absurd rfl h9, hku.2.1⟩
      · exact ⟨by show (W' _).2.2.1 1001 = _; rw [hB]; rfl, oa_eq h4 trivial, fun h9 => absurd rfl h9, hku.2.2.2.1⟩
      · exact ⟨by show (W' _).2.2.1 1002 = _; rw [hB]; rfl, oa_eq h6 trivial, fun h9 => absurd rfl h9, hku.2.2.2.2.2.1⟩
    · exfalso
      by_cases e2 : c = 100 + 8 * n + 2
      · exact hw.1 (by rw [← hk, e2]; exact hku.2.1)
      · by_cases e4 : c = 100 + 8 * n + 4
        · exact hw.1 (by rw [← hk, e4]; exact hku.2.2.2.1)
        · by_cases e6 : c = 100 + 8 * n + 6
          · exact hw.1 (by rw [← hk, e6]; exact hku.2.2.2.2.2.1)
          · by_cases f1 : c = 4
            · exact hw.1 (by rw [← hk, f1]; rfl)
            · by_cases f2 : c = 5
              · exact hw.2.1 (by rw [← hk, f2]; rfl)
              · exact hnc (oa_same (hW c e0 e2 e4 e6 f1 f2) hc)
  · rw [hc1]
    exact hl
  · rw [hc1] at ho
    by_cases e : o = n
    · subst e
      refine ⟨oa_eq hB trivial, ?_, ?_, ?_⟩
      · rw [show cn (u1 v 1201 0 (nI (o + 1))) 1202 o = 0 from hA0.1]
        exact vl_cell h2
      · rw [show cn (u1 v 1201 0 (nI (o + 1))) 1203 o = 0 from hA0.2.1]
        exact vl_cell h4
      · rw [show cn (u1 v 1201 0 (nI (o + 1))) 1204 o = 0 from hA0.2.2]
        exact vl_cell h6
    · exact (y4 o (by omega)).same (fun id hid => by rcases hid with r | r | r <;> subst r <;> rfl) (fun k hk => hW _ (by omega) (by omega) (by omega) (by omega) (by omega) (by omega))
  · exact (y5 f hf hf2).same (fun id hid => by rcases hid with r | r | r | r <;> subst r <;> rfl) (fun k hk => ⟨rfl, rfl⟩) (fun k hk => hW _ (by omega) (by omega) (by omega) (by omega) (by omega) (by omega))
  · exact (y6 g hg hg2).same rfl rfl (fun _ _ => rfl) (hW _ (by omega) (by omega) (by omega) (by omega) (by omega) (by omega)) (hW _ (by omega) (by omega) (by omega) (by omega) (by omega) (by omega))
  · exact (y7 y hy hy2).same (fun id hid => by rcases hid with r | r | r | r | r <;> subst r <;> rfl) (hW _ (by omega) (by omega) (by omega) (by omega) (by omega) (by omega))
  · unfold rpN
    rw [hc1]
    by_cases hb : 100 + 8 * n ≤ c ∧ c < 100 + 8 * n + 8
    · exact Or.inr (Or.inl ⟨by omega, by omega, by omega⟩)
    · by_cases c1 : c < 60
      · exact Or.inl c1
      · rcases y8 c (oa_same (hW c (by omega) (by omega) (by omega) (by omega) (by omega) (by omega)) hc) with r | r | r | r | r
        · exact Or.inl r
        · rw [hcn] at r
          exact Or.inr (Or.inl ⟨r.1, r.2.1, by omega⟩)
        · exact Or.inr (Or.inr (Or.inl r))
        · exact Or.inr (Or.inr (Or.inr (Or.inl r)))
        · exact Or.inr (Or.inr (Or.inr (Or.inr r)))
  · show (W' 2).2.1 1106 = _
    rw [hW 2 (by omega) (by omega) (by omega) (by omega) (by omega) (by omega)]; exact y9
  · show (W' 2).2.1 1107 = _
    rw [hW 2 (by omega) (by omega) (by omega) (by omega) (by omega) (by omega)]; exact y10
  · show (W' 14).2.2.2.1 409 = _
    rw [hW 14 (by omega) (by omega) (by omega) (by omega) (by omega) (by omega)]; exact y11
  · show (W' 14).2.1 410 = _
    rw [hW 14 (by omega) (by omega) (by omega) (by omega) (by omega) (by omega)]; exact y12
  · show (W' 14).2.1 411 = _
    rw [hW 14 (by omega) (by omega) (by omega) (by omega) (by omega) (by omega)]; exact y13
  · show (W' 58).2.2.2.2.2.1 k = _
    rw [hW 58 (by omega) (by omega) (by omega) (by omega) (by omega) (by omega)]; exact y14 k hk
set_option maxRecDepth 100000 in
set_option maxHeartbeats 4000000 in
theorem c_object {l : Launch} {N0 t0 : Nat} {D : va_G} {cy : Nat → ClassId} {S : zS} (hl : l.stackTraces = false) {X : Nat → Prop} {S0 : zS} {ad : Nat → Nat} {W : zO} (hH : zH t0 X S0 ad W S) {v : zV} (hR : Rep v W) (hv : vRg v) (hA : vA v) {a : Nat} (ea : ad 2 = a) : zTi l yX11_object (zws yX11_object cX11_object 1 (some .int)) { frames := 8, cells := 8, slots := 64, locals := 169 } N0 t0 D cy S [.ref a] (fun r S' => ¬ v.1 1201 0 = 6 ∧ r = v.1 1201 0 ∧ ∃ (ad' : Nat → Nat) (W' : zO), zH t0 X S0 ad' W' S' ∧ keepA W ad ad' ∧ Rep (vObj v) W' ∧ ∀ d, 44 ≤ d → d < 50 → W' d = W d) (fun E S' => S' = S ∧ v.1 1201 0 = 6 ∧ E = zISE) 8 64 := by
  refine zTi.of (cc := cX11_object) (maxL := 1) (ret := (some .int)) (by decide) rfl (Nat.le_of_ble_eq_true rfl) ?_
  intro p e s m args below meth c F G hr hlk hnm htb
  subst ea
  obtain ⟨A0, Q0, L0, L1, L2⟩ := hR.lin hH
  have hg := rg_1201 hv (k := 0) (by decide)
  obtain ⟨n, en⟩ : ∃ n, cn v 1201 0 = n := ⟨_, rfl⟩
  have hn : v.1 1201 0 = nI n := by rw [← en]; exact hg.1
  have hn6 := hg.2
  rw [en] at L1 hn6
  refine r_aload_n F dX11_object_0 rfl ?_
  refine r_getS (ci := 11) (k := 0) (id := 1100) (C := RX11) (T := TX11) (N := 8) F G rfl (by decide) (by decide) rfl (zinL inG11) (zin kf_X11_10) (fun _ h9 => h9) dX11_object_1 A0 Q0 ?_
  refine c_Fi (ci := 0) F G (k_ListSize L0) (va_cwF 0 F.2.2.2.2 (zgF km_X11_59 ke_Jx4a65c_Jxbd725_size ki_Jx4a65c_size_8abf5 kn_Jx4a65c ko_Jx4a65c_size_8abf5) rfl rfl rfl (G.2.2.2.2.1 (⟨"java/util/List", "size", "()I"⟩, yJx4a65c_size_8abf5) (List.mem_of_getElem? (i := 0) rfl)) hdF_size ⟨Nat.le_of_ble_eq_true rfl, Nat.le_of_ble_eq_true rfl⟩) rfl (by decide) L0 rfl rfl (Nat.le_of_ble_eq_true rfl) dX11_object_4 ⟨Nat.le_of_ble_eq_true rfl, Nat.le_of_ble_eq_true rfl⟩ (fun r4 S4 h4 => ?_)
  obtain ⟨h4a, h4b⟩ := h4
  have h4c := h4b.symm
  subst h4c
  rw [L1] at h4a
  subst h4a
  refine r_bipush (v := 6) F dX11_object_9 (by decide) ?_
  refine t_Sv F G htb hlk (k_requireRoom hl _ _) (va_cwS 2 F.2.2.2.2 (zgS km_X11_65 ks_X11_requireRoom kn_X11 ko_X11_requireRoom) rfl rfl rfl hd_yX11_requireRoom ⟨Nat.le_of_ble_eq_true rfl, Nat.le_of_ble_eq_true rfl⟩) rfl rfl (Nat.le_of_ble_eq_true rfl) dX11_object_11 ⟨Nat.le_of_ble_eq_true rfl, Nat.le_of_ble_eq_true rfl⟩ (fun E S' h => ⟨h.2.2, by have h9 := h.1; rw [nl6, nI_leI (by omega) (by omega)] at h9; rw [hn, nl6, show n = 6 by omega], h.2.1⟩) (Nat.le_of_ble_eq_true rfl) (Nat.le_of_ble_eq_true rfl) (fun S11 h11 => ?_)
  obtain ⟨h11a, h11b⟩ := h11
  have h11c := h11b.symm
  subst h11c
  have hn7 : n < 6 := by rw [nl6, nI_leI (by omega) (by omega)] at h11a; omega
  refine r_aload_n F dX11_object_14 rfl ?_
  refine r_iconst (v := 0) F dX11_object_15 (by decide) ?_
  refine r_puti (ci := 11) (k := 6) (id := 1106) (C := RX11) (T := TX11) (N := 8) (ty := .boolean) (ty0 := tyX11) F G rfl (by decide) (by decide) rfl (zinL inG11) (zin kf_X11_51) (fun _ h9 => h9) tyX11_ok nmX11 rfl pd11_6 rfl rfl dX11_object_16 A0 ?_
  refine zgen (P := zH t0 X S0 ad (oI W 2 1106 0)) (hH.pi (id := 1106) hR.2.1 rfl rfl (by decide) 0) (fun S hH => ?_)
  have hR1 : Rep (u1 (u1 v 1200 0 0) 1219 0 0) (oI W 2 1106 0) := hR.unl
  obtain ⟨W1, eW⟩ : ∃ W1, W1 = (oI W 2 1106 0) := ⟨_, rfl⟩
  rw [← eW] at hH hR1
  have hA1 : vA (u1 (u1 v 1200 0 0) 1219 0 0) := hA
  have hn1 : ((u1 (u1 v 1200 0 0) 1219 0 0)).1 1201 0 = nI n := hn
  have en1 : cn (u1 (u1 v 1200 0 0) 1219 0 0) 1201 0 = n := en
  have hku := kd_u n hn7
  obtain ⟨B0, B1, B2, B3, B4⟩ := hR1.lin hH
  have hl1 := hR1.2.2.1
  rw [en1] at hl1
  have hfree : ∀ k, k < 8 → ¬ oa W1 ((100 + 8 * n) + k) := fun k hk9 h9 => by
    rcases hR1.2.2.2.2.2.2.2.1 _ h9 with q | q | q | q | q
    · omega
    · have q3 := q.2.2
      rw [show ((100 + 8 * n) + k - 100) / 8 = n by omega, en1] at q3
      omega
    · omega
    · omega
    · omega
  refine r_aload_n F dX11_object_19 rfl ?_
  refine r_getS (ci := 11) (k := 0) (id := 1100) (C := RX11) (T := TX11) (N := 8) F G rfl (by decide) (by decide) rfl (zinL inG11) (zin kf_X11_10) (fun _ h9 => h9) dX11_object_20 B0 B1 ?_
  refine r_new (ci := 10) (C := RX9) (T := TX9) (N := 3) (ty0 := tyX9) F G rfl (by decide) (zinL inG10) tyX9_ok dvG10 (zin kc_X11_69) (zin kb_X9) (zin kn_X9) (by decide) (by decide) dX11_object_23 (fun q23 hq23 => ?_)
  have hB0 : ¬ oa W1 (100 + 8 * n) := hfree 0 (by omega)
  have hH2 := hH.newo hB0 (by omega) hq23 hku.1 (by decide)
  obtain ⟨ad2, ead2⟩ : ∃ x, x = va_up ad (100 + 8 * n) q23 := ⟨_, rfl⟩
  obtain ⟨W2, eW2⟩ : ∃ x, x = va_up W1 (100 + 8 * n) eNo := ⟨_, rfl⟩
  rw [← ead2, ← eW2] at hH2
  have a2B : ad2 (100 + 8 * n) = q23 := by rw [ead2]; exact va_up_self _ _ _
  have a2o : ∀ d, d ≠ (100 + 8 * n) → ad d = ad2 d := fun d hd => by rw [ead2]; exact (va_up_ne _ _ hd).symm
  have w2B : W2 (100 + 8 * n) = eNo := by rw [eW2]; exact va_up_self _ _ _
  have w2o : ∀ d, d ≠ (100 + 8 * n) → W2 d = W1 d := fun d hd => by rw [eW2]; exact va_up_ne _ _ hd
  rw [a2o 2 (by omega), a2o 4 (by omega)]
  refine zgen (P := zH t0 X S0 ad2 W2) hH2 (fun S hH => ?_)
  have hf2 : ∀ k, 0 < k → k < 8 → ¬ oa W2 ((100 + 8 * n) + k) := fun k h0 hk9 h9 => hfree k hk9 (oa_same (w2o _ (by omega)) h9)
  refine r_dup F dX11_object_26 rfl ?_
  refine c_Nv F G (c_UnitInit hH (n := (100 + 8 * n)) a2B hku.1 (by omega) w2B (hf2 2 (by omega) (by omega)) (hf2 4 (by omega) (by omega)) (hf2 6 (by omega) (by omega)) hku.2.1 hku.2.2.2.1 hku.2.2.2.2.2.1) ⟨va_cnB 0 F.2.2.2.2 (zgI ko_X9_init) rfl rfl rfl (G.2.2.2.1 (RX11, 71, yX9_init, RX11) (List.mem_of_getElem? (i := 5) rfl)) (F.2.2.2.2 _ (zin kn_X9)) hd_yX9_init ⟨Nat.le_of_ble_eq_true rfl, Nat.le_of_ble_eq_true rfl⟩, rfl, F.2.2.2.2 _ (zin ki_X9_init)⟩ rfl rfl (Nat.le_of_ble_eq_true rfl) dX11_object_27 ⟨Nat.le_of_ble_eq_true rfl, Nat.le_of_ble_eq_true rfl⟩ (fun S27 h27 => ?_)
  obtain ⟨ad3, W3, hH3, g3, w3o, w3B, c2, c4, c6⟩ := h27
  have a3B : ad3 (100 + 8 * n) = q23 := (g3 (100 + 8 * n) (by omega) (by omega) (by omega)).trans a2B
  have hl3 : vl W3 4 n (fun o => 100 + 8 * o) := hl1.same ((w3o _ (by omega) (by omega) (by omega) (by omega)).trans (w2o _ (by omega))) ((w3o _ (by omega) (by omega) (by omega) (by omega)).trans (w2o _ (by omega)))
  have hB3 : oa W3 (100 + 8 * n) := oa_eq w3B trivial
  have hm : ad2 4 = ad3 4 := (g3 _ (by omega) (by omega) (by omega)).symm
  have hm2 : ad2 2 = ad3 2 := (g3 _ (by omega) (by omega) (by omega)).symm
  rw [hm, hm2, ← a3B]
  have M3 : zA S27 (ad3 4) 0 := hl3.al hH3 rfl rfl
  have hrow := hl3.row hH3 rfl (ci := 10) (fun j hj => (kd_u j (by omega)).1) (by omega)
  have hch := chb n (by omega)
  refine c_Fi (ci := 0) F G (k_add M3 (hl3.E hH3 rfl rfl) (hl3.z hH3 rfl rfl) (ci := 10) (by decide) rfl (List.mem_of_getElem? (i := 9) rfl) (hH3.al hB3 rfl hku.1) hrow) (va_cwF 1 F.2.2.2.2 (zgF km_X11_72 ke_Jx4a65c_Jxbd725_add ki_Jx4a65c_add_9ea2d kn_Jx4a65c ko_Jx4a65c_add_9ea2d) rfl rfl rfl (G.2.2.2.2.1 (⟨"java/util/List", "add", "(Ljava/lang/Object;)Z"⟩, yJx4a65c_add_9ea2d) (List.mem_of_getElem? (i := 3) rfl)) hdF_add ⟨Nat.le_of_ble_eq_true rfl, Nat.le_of_ble_eq_true rfl⟩) rfl (by decide) M3 rfl rfl (Nat.le_of_ble_eq_true rfl) dX11_object_30 ⟨by show _ + chC n ≤ 8; omega, by show _ + chS n ≤ 64; omega⟩ (fun r30 S30 h30 => ?_)
  obtain ⟨q1, h30⟩ := h30
  obtain ⟨ad4, W4, hH4, g4, hl4, w4o⟩ := hl3.add hH3 (by decide) rfl rfl hB3 (by omega) rfl rfl h30
  have hl5 : vl W4 4 (n + 1) (fun o => 100 + 8 * o) := hl4.cg (fun j hj => by
    by_cases e9 : j = n
    · subst e9; exact va_up_self _ _ _
    · exact va_up_ne _ _ e9)
  have hR4 := hR1.obj hA1 hn1 hn7 (fun d d0 d2 d4 d6 e1 e2 => (w4o d e1 e2).trans ((w3o d d0 d2 d4 d6).trans (w2o d d0))) hl5 ((w4o _ (by omega) (by omega)).trans w3B) ((w4o _ (by omega) (by omega)).trans c2) ((w4o _ (by omega) (by omega)).trans c4) ((w4o _ (by omega) (by omega)).trans c6)
  have hm3 : ad3 2 = ad4 2 := (g4 2 (by decide)).symm
  rw [hm3]
  have D0 : zA S30 (ad4 2) 11 := hH4.al hR4.2.1 rfl rfl
  have D1 : zq S30 1100 (ad4 2) = some (ad4 4) := hH4.qS hR4.2.1 rfl (by decide) (hR4.1.q hR4.2.1 (by decide) rfl) rfl
  have D2 : zA S30 (ad4 4) 0 := hl5.al hH4 rfl rfl
  have D3 : zi S30 2 (ad4 4) = nI (n + 1) := hl5.z hH4 rfl rfl
  refine r_pop F dX11_object_35 rfl ?_
  refine r_aload_n F dX11_object_36 rfl ?_
  refine r_getS (ci := 11) (k := 0) (id := 1100) (C := RX11) (T := TX11) (N := 8) F G rfl (by decide) (by decide) rfl (zinL inG11) (zin kf_X11_10) (fun _ h9 => h9) dX11_object_37 D0 D1 ?_
  refine c_Fi (ci := 0) F G (k_ListSize D2) (va_cwF 0 F.2.2.2.2 (zgF km_X11_59 ke_Jx4a65c_Jxbd725_size ki_Jx4a65c_size_8abf5 kn_Jx4a65c ko_Jx4a65c_size_8abf5) rfl rfl rfl (G.2.2.2.2.1 (⟨"java/util/List", "size", "()I"⟩, yJx4a65c_size_8abf5) (List.mem_of_getElem? (i := 0) rfl)) hdF_size ⟨Nat.le_of_ble_eq_true rfl, Nat.le_of_ble_eq_true rfl⟩) rfl (by decide) D2 rfl rfl (Nat.le_of_ble_eq_true rfl) dX11_object_40 ⟨by show _ + chC n + 0 ≤ 8; omega, by show _ + chS n + 0 ≤ 64; omega⟩ (fun r40 S40 h40 => ?_)
  obtain ⟨h40a, h40b⟩ := h40
  have h40c := h40b.symm
  subst h40c
  rw [D3] at h40a
  subst h40a
  refine r_iconst (v := 1) F dX11_object_45 (by decide) ?_
  refine r_isub F dX11_object_46 ?_
  have e9 : v.1 1201 0 + 1 = nI (n + 1) := by rw [hn]; exact nI_add _ 1
  have e8 : nI (n + 1) - 1 = v.1 1201 0 := by rw [← e9]; exact Int32.add_sub_cancel _ _
  have hkeep : keepA W ad ad4 := fun d hd hev => by
    have hd1 : oa W1 d := by rw [eW]; exact (oaI hR.2.1).mpr hd
    have h9 : ∀ k, k < 8 → d ≠ (100 + 8 * n) + k := fun k hk9 e9 => hfree k hk9 (e9 ▸ hd1)
    rw [g4 d (by omega), g3 d (h9 2 (by omega)) (h9 4 (by omega)) (h9 6 (by omega)), a2o d (h9 0 (by omega))]
  refine x_iret F hr hlk ⟨fun h9 => by rw [hn, nl6, nI_eq (by omega) (by omega)] at h9; omega, e8, ad4, W4, hH4, hkeep, ?_, fun d q1 q2 => ((w4o d (by omega) (by omega)).trans ((w3o d (by omega) (by omega) (by omega) (by omega)).trans (w2o d (by omega)))).trans (by rw [eW]; exact va_up_ne _ _ (by omega))⟩ (by show _ + chC n + 0 ≤ 8; omega) (by show _ + chS n + 0 ≤ 64; omega) dX11_object_47
  show Rep (u1 (u1 (u1 v 1200 0 0) 1219 0 0) 1201 0 (v.1 1201 0 + 1)) W4
  rw [e9]
  exact hR4
