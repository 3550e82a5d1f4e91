set_option maxRecDepth 100000 in
set_option maxHeartbeats 4000000 in
theorem c_loR {l : Launch} {N0 t0 : Nat} {D : va_G} {cy : Nat → ClassId} {S : zS} {b : Nat} : zMi l yX11_largestOffset (zws yX11_largestOffset cX11_largestOffset 3 (some .int)) { frames := 0, cells := 0, slots := 0, locals := 0 } N0 t0 D cy S [.int 0, .ref b, .null] (fun r S' => r = 0 ∧ S' = S) 0 0 := by
  refine zMi.of (cc := cX11_largestOffset) (maxL := 3) (ret := (some .int)) (by decide) rfl (Nat.le_of_ble_eq_true rfl) ?_
  intro p e s m args below meth c F G hr hlk hnm
  refine r_iload_n F dX11_largestOffset_0 rfl ?_
  refine r_iconst (v := 1) F dX11_largestOffset_1 (by decide) ?_
  refine r_icmp_ne (tgt := 19) F dX11_largestOffset_2 (by decide) (fun _ => ?_) (fun h9 => absurd h9 (by decide))
  refine r_aload_n F dX11_largestOffset_19 rfl ?_
  refine r_ifnonnull (tgt := 28) F dX11_largestOffset_20 (by decide) ?_
  refine r_iconst (v := 0) F dX11_largestOffset_28 (by decide) ?_
  exact e_iret F hr hlk ⟨rfl, rfl⟩ (by decide) (by decide) dX11_largestOffset_29
set_option maxRecDepth 100000 in
set_option maxHeartbeats 4000000 in
theorem c_loA {l : Launch} {N0 t0 : Nat} {D : va_G} {cy : Nat → ClassId} {S : zS} : zMi l yX11_largestOffset (zws yX11_largestOffset cX11_largestOffset 3 (some .int)) { frames := 0, cells := 0, slots := 0, locals := 0 } N0 t0 D cy S [.int 0, .null, .null] (fun r S' => r = 9 ∧ S' = S) 0 0 := by
  refine zMi.of (cc := cX11_largestOffset) (maxL := 3) (ret := (some .int)) (by decide) rfl (Nat.le_of_ble_eq_true rfl) ?_
  intro p e s m args below meth c F G hr hlk hnm
  refine r_iload_n F dX11_largestOffset_0 rfl ?_
  refine r_iconst (v := 1) F dX11_largestOffset_1 (by decide) ?_
  refine r_icmp_ne (tgt := 19) F dX11_largestOffset_2 (by decide) (fun _ => ?_) (fun h9 => absurd h9 (by decide))
  refine r_aload_nQ (x := none) F dX11_largestOffset_19 rfl ?_
  refine r_ifnonnullN F dX11_largestOffset_20 ?_
  refine r_bipush (v := 9) F dX11_largestOffset_23 (by decide) ?_
  refine r_goto (tgt := 29) F dX11_largestOffset_25 (by decide) ?_
  exact e_iret F hr hlk ⟨rfl, rfl⟩ (by decide) (by decide) dX11_largestOffset_29
set_option maxRecDepth 100000 in
set_option maxHeartbeats 4000000 in
theorem c_loB {l : Launch} {N0 t0 : Nat} {D : va_G} {cy : Nat → ClassId} {S : zS} : zMi l yX11_largestOffset (zws yX11_largestOffset cX11_largestOffset 3 (some .int)) { frames := 0, cells := 0, slots := 0, locals := 0 } N0 t0 D cy S [.int 1, .null, .null] (fun r S' => r = 0 ∧ S' = S) 0 0 := by
  refine zMi.of (cc := cX11_largestOffset) (maxL := 3) (ret := (some .int)) (by decide) rfl (Nat.le_of_ble_eq_true rfl) ?_
  intro p e s m args below meth c F G hr hlk hnm
  refine r_iload_n F dX11_largestOffset_0 rfl ?_
  refine r_iconst (v := 1) F dX11_largestOffset_1 (by decide) ?_
  refine r_icmp_ne (tgt := 19) F dX11_largestOffset_2 (by decide) (fun h9 => absurd rfl h9) (fun _ => ?_)
  refine r_aload_nQ (x := none) F dX11_largestOffset_5 rfl ?_
  refine r_ifnonnullN F dX11_largestOffset_6 ?_
  refine r_iconst (v := 0) F dX11_largestOffset_9 (by decide) ?_
  refine r_goto (tgt := 18) F dX11_largestOffset_10 (by decide) ?_
  exact e_iret F hr hlk ⟨rfl, rfl⟩ (by decide) (by decide) dX11_largestOffset_18
set_option maxRecDepth 100000 in
set_option maxHeartbeats 4000000 in
theorem c_loG {l : Launch} {N0 t0 : Nat} {D : va_G} {cy : Nat → ClassId} {S : zS} {X : Nat → Prop} {S0 : zS} {ad : Nat → Nat} {W : zO} (hH : zH t0 X S0 ad W S) (hw : wr W) {B : Nat} (hB : oa W B) (hk : kd B = 8) (hk2 : kd (B + 2) = 13) : zMi l yX11_largestOffset (zws yX11_largestOffset cX11_largestOffset 3 (some .int)) { frames := 0, cells := 0, slots := 0, locals := 0 } N0 t0 D cy S [.int 1, .null, .ref (ad B)] (fun r S' => r = nI (onn W (B + 2)) ∧ S' = S) 0 0 := by
  refine zMi.of (cc := cX11_largestOffset) (maxL := 3) (ret := (some .int)) (by decide) rfl (Nat.le_of_ble_eq_true rfl) ?_
  intro p e s m args below meth c F G hr hlk hnm
  refine r_iload_n F dX11_largestOffset_0 rfl ?_
  refine r_iconst (v := 1) F dX11_largestOffset_1 (by decide) ?_
  refine r_icmp_ne (tgt := 19) F dX11_largestOffset_2 (by decide) (fun h9 => absurd rfl h9) (fun _ => ?_)
  refine r_aload_n F dX11_largestOffset_5 rfl ?_
  refine r_ifnonnull (tgt := 13) F dX11_largestOffset_6 (by decide) ?_
  refine r_aload_n F dX11_largestOffset_13 rfl ?_
  refine r_getS (ci := 8) (k := 0) (id := 800) (C := RX7) (T := TX7) (N := 3) F G rfl (by decide) (by decide) rfl (zinL inG8) (zin kf_X11_117) (fun _ h9 => h9) dX11_largestOffset_14 (hH.al hB rfl hk) (hH.qS hB rfl (by rw [hk]; decide) (hw.q hB (by decide) hk) rfl) ?_
  refine v_alen (n := 0) (j := 0) F G hH (hw.a hB (id := 800) (by decide) hk) rfl hk2 rfl rfl dX11_largestOffset_17 ?_
  exact e_iret F hr hlk ⟨rfl, rfl⟩ (by decide) (by decide) dX11_largestOffset_18
set_option maxRecDepth 100000 in
set_option maxHeartbeats 4000000 in
theorem c_symbol {l : Launch} {N0 t0 : Nat} {D : va_G} {cy : Nat → ClassId} {S : zS} (hl : l.stackTraces = false) {X : Nat → Prop} {S0 : zS} {ad : Nat → Nat} {W : zO} (hH : zH t0 X S0 ad W S) {v : zV} (hR : Rep v W) (hv : vRg v) (hZ : vZ v) {a : Nat} {o x1 x2 x3 x4 x5 : Int32} (ea : ad 2 = a) : zTi l yX11_symbol (zws yX11_symbol cX11_symbol 11 (some .int)) { frames := 8, cells := 14, slots := 140, locals := 169 } N0 t0 D cy S [.ref a, .int o, .int x1, .int x2, .int x3, .int x4, .int x5] (fun r S' => gSy v o x1 x2 x3 x4 x5 ∧ ∃ i, i < cn v 1201 0 ∧ o = nI i ∧ ¬ v.1 1204 i = 16 ∧ r = v.1 1204 i ∧ ∃ (ad' : Nat → Nat) (W' : zO), zH t0 X S0 ad' W' S' ∧ keepA W ad ad' ∧ Rep (vSym v i x1 x2 x3 x4 x5) W' ∧ ∀ d, 44 ≤ d → d < 50 → W' d = W d) (fun E S' => S' = S ∧ ((¬ gSy v o x1 x2 x3 x4 x5 ∧ E = zIAE) ∨ (gSy v o x1 x2 x3 x4 x5 ∧ (∃ i, i < cn v 1201 0 ∧ o = nI i ∧ v.1 1204 i = 16) ∧ E = zISE))) 14 140 := by
  refine zTi.of (cc := cX11_symbol) (maxL := 11) (ret := (some .int)) (by decide) rfl (Nat.le_of_ble_eq_true rfl) ?_
  intro p e s m args below meth c F G hr hlk hnm htb
  subst ea
  obtain ⟨A0, Q0, L0, L1, L2⟩ := hR.lin hH
  have hn0 := (rg_1201 hv (k := 0) (by decide)).2
  refine r_aload_n F dX11_symbol_0 rfl ?_
  refine r_iload_n F dX11_symbol_1 rfl ?_
  refine t_Vq (ci := 11) F G htb hlk (c_unitAt hl hH hR hv rfl) (cwV 1 F.2.2.2.2 (zgV km_X11_76 ki_X11_unitAt ke_X11_X11_unitAt kn_X11 ko_X11_unitAt) rfl rfl rfl ⟨rfl, hd_yX11_unitAt⟩ ⟨Nat.le_of_ble_eq_true rfl, Nat.le_of_ble_eq_true rfl⟩) rfl (by decide) A0 rfl rfl (Nat.le_of_ble_eq_true rfl) dX11_symbol_2 ⟨Nat.le_of_ble_eq_true rfl, Nat.le_of_ble_eq_true rfl⟩ (fun E S' h => ⟨h.2.2, Or.inl ⟨fun q => h.1 q.1, h.2.1⟩⟩) (Nat.le_of_ble_eq_true rfl) (Nat.le_of_ble_eq_true rfl) (fun r2 S2 h2 => ?_)
  obtain ⟨h2a, i, hi, ei, h2b⟩ := h2
  have h2c := h2a.symm
  subst h2c
  subst ei
  subst h2b
  have hi6 : i < 6 := by omega
  have hg := rg_1204 hv hi6
  obtain ⟨n, en⟩ : ∃ n, cn v 1204 i = n := ⟨_, rfl⟩
  have hn : v.1 1204 i = nI n := by rw [← en]; exact hg.1
  have hnM := hg.2
  rw [en] at hnM
  have hk := kd_u i hi6
  have hU := hR.2.2.2.1 i hi
  have U0 : zA S (ad (100 + 8 * i)) 10 := hH.al hU.1 rfl hk.1
  have Q1 : zq S 1002 (ad (100 + 8 * i)) = some (ad ((100 + 8 * i) + 6)) := hH.qS hU.1 rfl (by rw [hk.1]; decide) (hR.1.q hU.1 (by decide) hk.1) rfl
  have M0 : zA S (ad ((100 + 8 * i) + 6)) 0 := hU.2.2.2.al hH hk.2.2.2.2.2.1 rfl
  have M1 : zi S 2 (ad ((100 + 8 * i) + 6)) = nI n := by rw [← en]; exact hU.2.2.2.z hH hk.2.2.2.2.2.1 rfl
  refine r_astore (x := ad (100 + 8 * i)) F dX11_symbol_5 (by decide) ?_
  refine r_iload_n F dX11_symbol_7 rfl ?_
  refine r_bipush (v := 30) F dX11_symbol_8 (by decide) ?_
  refine t_Sv F G htb hlk (k_requireWithin hl _ _) (va_cwS 2 F.2.2.2.2 (zgS km_X11_80 ks_X11_requireWithin kn_X11 ko_X11_requireWithin) rfl rfl rfl hd_yX11_requireWithin ⟨Nat.le_of_ble_eq_true rfl, Nat.le_of_ble_eq_true rfl⟩) rfl rfl (Nat.le_of_ble_eq_true rfl) dX11_symbol_10 ⟨Nat.le_of_ble_eq_true rfl, Nat.le_of_ble_eq_true rfl⟩ (fun E S' h => ⟨h.2.2, Or.inl ⟨fun q => h.1 q.2.1, h.2.1⟩⟩) (Nat.le_of_ble_eq_true rfl) (Nat.le_of_ble_eq_true rfl) (fun S10 h10 => ?_)
  obtain ⟨h10a, h10b⟩ := h10
  have h10c := h10b.symm
  subst h10c
  refine r_iload_n F dX11_symbol_13 rfl ?_
  refine r_iconst (v := 1) F dX11_symbol_14 (by decide) ?_
  refine t_Sv F G htb hlk (k_requireWithin hl _ _) (va_cwS 2 F.2.2.2.2 (zgS km_X11_80 ks_X11_requireWithin kn_X11 ko_X11_requireWithin) rfl rfl rfl hd_yX11_requireWithin ⟨Nat.le_of_ble_eq_true rfl, Nat.le_of_ble_eq_true rfl⟩) rfl rfl (Nat.le_of_ble_eq_true rfl) dX11_symbol_15 ⟨Nat.le_of_ble_eq_true rfl, Nat.le_of_ble_eq_true rfl⟩ (fun E S' h => ⟨h.2.2, Or.inl ⟨fun q => h.1 q.2.2.1, h.2.1⟩⟩) (Nat.le_of_ble_eq_true rfl) (Nat.le_of_ble_eq_true rfl) (fun S15 h15 => ?_)
  obtain ⟨h15a, h15b⟩ := h15
  have h15c := h15b.symm
  subst h15c
  refine r_iload F dX11_symbol_18 rfl ?_
  refine r_iconst (v := 2) F dX11_symbol_20 (by decide) ?_
  refine t_Sv F G htb hlk (k_requireWithin hl _ _) (va_cwS 2 F.2.2.2.2 (zgS km_X11_80 ks_X11_requireWithin kn_X11 ko_X11_requireWithin) rfl rfl rfl hd_yX11_requireWithin ⟨Nat.le_of_ble_eq_true rfl, Nat.le_of_ble_eq_true rfl⟩) rfl rfl (Nat.le_of_ble_eq_true rfl) dX11_symbol_21 ⟨Nat.le_of_ble_eq_true rfl, Nat.le_of_ble_eq_true rfl⟩ (fun E S' h => ⟨h.2.2, Or.inl ⟨fun q => h.1 q.2.2.2.1, h.2.1⟩⟩) (Nat.le_of_ble_eq_true rfl) (Nat.le_of_ble_eq_true rfl) (fun S21 h21 => ?_)
  obtain ⟨h21a, h21b⟩ := h21
  have h21c := h21b.symm
  subst h21c
  rcases (show x2 = 0 ∨ x2 = 1 by
    obtain ⟨z, hz, ez⟩ := (pIn_iff (n := 1) (by decide)).mp h15a
    rcases (show z = 0 ∨ z = 1 by omega) with r | r <;> subst r
    · exact Or.inl ez
    · exact Or.inr ez) with ek | ek
  · subst ek
    refine r_iload_n F dX11_symbol_24 rfl ?_
    refine r_if_ne (tgt := 38) F dX11_symbol_25 (by decide) (fun h9 => absurd rfl h9) (fun _ => ?_)
    refine r_aload F dX11_symbol_28 rfl ?_
    refine r_iload F dX11_symbol_30 rfl ?_
    refine c_Vq (ci := 10) F G (c_routineAt hH hR.1 hU.1 rfl hk.1 hU.2.1 hk.2.1 hk.2.2.1 (fun j hj => (kd_r (8 * i + j) (by have := (rg_1202 hv hi6).2; omega)).1) (by have := (rg_1202 hv hi6).2; omega)) (cwV 1 F.2.2.2.2 (zgV km_X11_131 ki_X9_routineAt ke_X9_X9_routineAt kn_X9 ko_X9_routineAt) rfl rfl rfl ⟨rfl, hd_yX9_routineAt⟩ ⟨Nat.le_of_ble_eq_true rfl, Nat.le_of_ble_eq_true rfl⟩) rfl (by decide) U0 rfl rfl (Nat.le_of_ble_eq_true rfl) dX11_symbol_32 ⟨Nat.le_of_ble_eq_true rfl, Nat.le_of_ble_eq_true rfl⟩ (fun r32 S32 h32 => ?_)
    obtain ⟨h32a, h32⟩ := h32
    have h32c := h32a.symm
    subst h32c
    rcases h32 with ⟨j, hj, ej, h32r⟩ | ⟨h32n, h32r⟩
    · subst ej
      subst h32r
      have hj8 : j < 8 := by have := (rg_1202 hv hi6).2; omega
      have gt : gT v 1202 (nI i) (nI j) := ⟨i, j, hi, rfl, hj, rfl⟩
      have hr0 := hR.2.2.2.2.1 (8 * i + j) (by omega) (by rw [show (8 * i + j) / 8 = i by omega]; omega)
      have hd1 : ¬ nI j = -1 := fun h9 => by have h8 := nI_pos (n := j) (by omega); rw [h9] at h8; exact h8 (by decide)
      refine r_goto (tgt := 39) F dX11_symbol_35 (by decide) ?_
      refine r_astore (x := ad (200 + 12 * (8 * i + j))) F dX11_symbol_39 (by decide) ?_
      refine r_iload_n F dX11_symbol_41 rfl ?_
      refine r_iconst (v := 1) F dX11_symbol_42 (by decide) ?_
      refine r_icmp_ne (tgt := 56) F dX11_symbol_43 (by decide) (fun _ => ?_) (fun h9 => absurd h9 (by decide))
      refine r_null F dX11_symbol_56 ?_
      refine r_astoreQ (x := none) F dX11_symbol_57 (by decide) ?_
      refine r_iload F dX11_symbol_59 rfl ?_
      refine r_iconst (v := -1) F dX11_symbol_61 (by decide) ?_
      refine r_icmp_eq (tgt := 75) F dX11_symbol_62 (by decide) (fun h9 => absurd h9 hd1) (fun _ => ?_)
      refine r_aload F dX11_symbol_65 rfl ?_
      refine r_ifnonnull (tgt := 75) F dX11_symbol_67 (by decide) ?_
      refine r_iconst (v := 1) F dX11_symbol_75 (by decide) ?_
      refine r_goto (tgt := 80) F dX11_symbol_76 (by decide) ?_
      refine t_Sv F G htb hlk (k_require hl _) (va_cwS 1 F.2.2.2.2 (zgS km_X11_102 ks_X11_require kn_X11 ko_X11_require) rfl rfl rfl hd_yX11_require ⟨Nat.le_of_ble_eq_true rfl, Nat.le_of_ble_eq_true rfl⟩) rfl rfl (Nat.le_of_ble_eq_true rfl) dX11_symbol_80 ⟨Nat.le_of_ble_eq_true rfl, Nat.le_of_ble_eq_true rfl⟩ (fun E S' h => absurd h.1 (by decide)) (Nat.le_of_ble_eq_true rfl) (Nat.le_of_ble_eq_true rfl) (fun S80 h80 => ?_)
      obtain ⟨h80a, h80b⟩ := h80
      have h80c := h80b.symm
      subst h80c
      have iff0 : gSy v (nI i) x1 0 x3 (nI j) x5 ↔ pIn x5 0 0 := ⟨fun h => h.2.2.2.2.2.2.1 rfl hd1, fun q => ⟨⟨i, hi, rfl⟩, h10a, h15a, h21a, fun _ => ⟨fun _ => gt, fun h9 => absurd rfl h9⟩, fun _ h9 => absurd h9 hd1, fun _ _ => q, fun h9 => absurd rfl h9, fun h9 => absurd rfl h9⟩⟩
      refine r_iload F dX11_symbol_83 rfl ?_
      refine r_iload_n F dX11_symbol_85 rfl ?_
      refine r_aload F dX11_symbol_86 rfl ?_
      refine r_aloadQ (x := none) F dX11_symbol_88 rfl ?_
      refine c_Si F G (c_loR) (va_cwS 3 F.2.2.2.2 (zgS km_X11_134 ks_X11_largestOffset kn_X11 ko_X11_largestOffset) rfl rfl rfl hd_yX11_largestOffset ⟨Nat.le_of_ble_eq_true rfl, Nat.le_of_ble_eq_true rfl⟩) rfl rfl (Nat.le_of_ble_eq_true rfl) dX11_symbol_90 ⟨Nat.le_of_ble_eq_true rfl, Nat.le_of_ble_eq_true rfl⟩ (fun r90 S90 h90 => ?_)
      obtain ⟨h90a, h90b⟩ := h90
      have h90c := h90b.symm
      subst h90c
      subst h90a
      refine t_Sv F G htb hlk (k_requireWithin hl _ _) (va_cwS 2 F.2.2.2.2 (zgS km_X11_80 ks_X11_requireWithin kn_X11 ko_X11_requireWithin) rfl rfl rfl hd_yX11_requireWithin ⟨Nat.le_of_ble_eq_true rfl, Nat.le_of_ble_eq_true rfl⟩) rfl rfl (Nat.le_of_ble_eq_true rfl) dX11_symbol_93 ⟨Nat.le_of_ble_eq_true rfl, Nat.le_of_ble_eq_true rfl⟩ (fun E S' h => ⟨h.2.2, Or.inl ⟨fun q => h.1 (iff0.mp q), h.2.1⟩⟩) (Nat.le_of_ble_eq_true rfl) (Nat.le_of_ble_eq_true rfl) (fun S93 h93 => ?_)
      obtain ⟨h93a, h93b⟩ := h93
      have h93c := h93b.symm
      subst h93c
      have hgs := iff0.mpr h93a
      refine r_aload F dX11_symbol_96 rfl ?_
      refine r_getS (ci := 10) (k := 2) (id := 1002) (C := RX9) (T := TX9) (N := 3) F G rfl (by decide) (by decide) rfl (zinL inG10) (zin kf_X11_138) (fun _ h9 => h9) dX11_symbol_98 U0 Q1 ?_
      refine c_Fi (ci := 0) F G (k_ListSize M0) (va_cwF 0 F.2.2.2.2 (zgF km_X11_59 ke_Jx4a65c_Jxbd725_size ki_Jx4a65c_size_8abf5 kn_Jx4a65c ko_Jx4a65c_size_8abf5) rfl rfl rfl (G.2.2.2.2.1 (⟨"java/util/List", "size", "()I"⟩, yJx4a65c_size_8abf5) (List.mem_of_getElem? (i := 0) rfl)) hdF_size ⟨Nat.le_of_ble_eq_true rfl, Nat.le_of_ble_eq_true rfl⟩) rfl (by decide) M0 rfl rfl (Nat.le_of_ble_eq_true rfl) dX11_symbol_101 ⟨Nat.le_of_ble_eq_true rfl, Nat.le_of_ble_eq_true rfl⟩ (fun r101 S101 h101 => ?_)
      obtain ⟨h101a, h101b⟩ := h101
      have h101c := h101b.symm
      subst h101c
      rw [M1] at h101a
      subst h101a
      refine r_istore F dX11_symbol_106 (by decide) ?_
      refine r_iload F dX11_symbol_108 rfl ?_
      refine r_bipush (v := 16) F dX11_symbol_110 (by decide) ?_
      refine t_Sv F G htb hlk (k_requireRoom hl _ _) (va_cwS 2 F.2.2.2.2 (zgS km_X11_65 ks_X11_requireRoom kn_X11 ko_X11_requireRoom) rfl rfl rfl hd_yX11_requireRoom ⟨Nat.le_of_ble_eq_true rfl, Nat.le_of_ble_eq_true rfl⟩) rfl rfl (Nat.le_of_ble_eq_true rfl) dX11_symbol_112 ⟨Nat.le_of_ble_eq_true rfl, Nat.le_of_ble_eq_true rfl⟩ (fun E S' h => ⟨h.2.2, Or.inr ⟨hgs, ⟨i, hi, rfl, by have h9 := h.1; rw [nl16, nI_leI (by omega) (by omega)] at h9; rw [hn, nl16, show n = 16 by omega]⟩, h.2.1⟩⟩) (Nat.le_of_ble_eq_true rfl) (Nat.le_of_ble_eq_true rfl) (fun S112 h112 => ?_)
      obtain ⟨h112a, h112b⟩ := h112
      have h112c := h112b.symm
      subst h112c
      have hn7 : n < 16 := by rw [nl16, nI_leI (by omega) (by omega)] at h112a; omega
      refine r_aload_n F dX11_symbol_115 rfl ?_
      refine r_iconst (v := 0) F dX11_symbol_116 (by decide) ?_
      refine r_puti (ci := 11) (k := 6) (id := 1106) (C := RX11) (T := TX11) (N := 8) (ty := .boolean) (ty0 := tyX11) F G rfl (by decide) (by decide) rfl (zinL inG11) (zin kf_X11_51) (fun _ h9 => h9) tyX11_ok nmX11 rfl pd11_6 rfl rfl dX11_symbol_117 A0 ?_
      refine zgen (P := zH t0 X S0 ad (oI W 2 1106 0)) (hH.pi (id := 1106) hR.2.1 rfl rfl (by decide) 0) (fun S hH => ?_)
      have hR1 : Rep (u1 (u1 v 1200 0 0) 1219 0 0) (oI W 2 1106 0) := hR.unl
      obtain ⟨W1, eW⟩ : ∃ W1, W1 = (oI W 2 1106 0) := ⟨_, rfl⟩
      rw [← eW] at hH hR1
      have hZ1 : vZ (u1 (u1 v 1200 0 0) 1219 0 0) := hZ
      have hn1 : ((u1 (u1 v 1200 0 0) 1219 0 0)).1 1204 i = nI n := hn
      have hO1 : cn (u1 (u1 v 1200 0 0) 1219 0 0) 1201 0 ≤ 6 := hn0
      have hi1 : i < cn (u1 (u1 v 1200 0 0) 1219 0 0) 1201 0 := hi
      have hU1 := hR1.2.2.2.1 i hi
      have en1 : cn (u1 (u1 v 1200 0 0) 1219 0 0) 1204 i = n := en
      rw [rpU, en1] at hU1
      have U1 : zA S (ad (100 + 8 * i)) 10 := hH.al hU1.1 rfl hk.1
      have Q2 : zq S 1002 (ad (100 + 8 * i)) = some (ad ((100 + 8 * i) + 6)) := hH.qS hU1.1 rfl (by rw [hk.1]; decide) (hR1.1.q hU1.1 (by decide) hk.1) rfl
      have hfree : ∀ k, k < 2 → ¬ oa W1 ((900 + 2 * (16 * i + n)) + k) := fun k hk9 h9 => by
        rcases hR1.2.2.2.2.2.2.2.1 _ h9 with q | q | q | q | q
        · omega
        · omega
        · omega
        · omega
        · have q3 := q.2.2
          rw [show ((900 + 2 * (16 * i + n)) + k - 900) / 2 = 16 * i + n by omega, show (16 * i + n) % 16 = n by omega, show (16 * i + n) / 16 = i by omega, en1] at q3
          omega
      have hkr0 := kd_y (16 * i + n) (by omega)
      refine r_aload F dX11_symbol_120 rfl ?_
      refine r_getS (ci := 10) (k := 2) (id := 1002) (C := RX9) (T := TX9) (N := 3) F G rfl (by decide) (by decide) rfl (zinL inG10) (zin kf_X11_138) (fun _ h9 => h9) dX11_symbol_122 U1 Q2 ?_
      refine r_new (ci := 9) (C := RX8) (T := TX8) (N := 8) (ty0 := tyX8) F G rfl (by decide) (zinL inG9) tyX8_ok dvG9 (zin kc_X11_141) (zin kb_X8) (zin kn_X8) (by decide) (by decide) dX11_symbol_125 (fun q125 hq125 => ?_)
      have hB0 : ¬ oa W1 (900 + 2 * (16 * i + n)) := hfree 0 (by omega)
      have hH2 := hH.newo hB0 (by omega) hq125 hkr0 (by decide)
      obtain ⟨ad2, ead2⟩ : ∃ x, x = va_up ad (900 + 2 * (16 * i + n)) q125 := ⟨_, rfl⟩
      obtain ⟨W2, eW2⟩ : ∃ x, x = va_up W1 (900 + 2 * (16 * i + n)) eNo := ⟨_, rfl⟩
      rw [← ead2, ← eW2] at hH2
      have a2B : ad2 (900 + 2 * (16 * i + n)) = q125 := by rw [ead2]; exact va_up_self _ _ _
      have a2o : ∀ d, d ≠ (900 + 2 * (16 * i + n)) → ad d = ad2 d := fun d hd => by rw [ead2]; exact (va_up_ne _ _ hd).symm
      have w2B : W2 (900 + 2 * (16 * i + n)) = eNo := by rw [eW2]; exact va_up_self _ _ _
      have w2o : ∀ d, d ≠ (900 + 2 * (16 * i + n)) → W2 d = W1 d := fun d hd => by rw [eW2]; exact va_up_ne _ _ hd
      rw [a2o 2 (by omega), a2o (100 + 8 * i) (by omega), a2o ((100 + 8 * i) + 6) (by omega), a2o (200 + 12 * (8 * i + j)) (by omega)]
      refine zgen (P := zH t0 X S0 ad2 W2) hH2 (fun S hH => ?_)
      have hb2 : oa W2 (200 + 12 * (8 * i + j)) := oa_eq (w2o _ (by omega)) (by rw [eW]; exact (oaI hR.2.1).mpr hr0.1)
      refine r_dup F dX11_symbol_128 rfl ?_
      refine r_bipush (v := 100) F dX11_symbol_129 (by decide) ?_
      refine r_iload_n F dX11_symbol_131 rfl ?_
      refine r_imul F dX11_symbol_132 ?_
      refine r_iload F dX11_symbol_133 rfl ?_
      refine r_iadd F dX11_symbol_135 ?_
      refine r_iload_n F dX11_symbol_136 rfl ?_
      refine r_iload_n F dX11_symbol_137 rfl ?_
      refine r_iload F dX11_symbol_138 rfl ?_
      refine r_aload F dX11_symbol_140 rfl ?_
      refine r_aloadQ (x := none) F dX11_symbol_142 rfl ?_
      refine r_iload F dX11_symbol_144 rfl ?_
      rw [show (100 : Int32) * nI i + nI n = nI (100 * i + n) by rw [show (100 : Int32) = nI 100 from rfl, nI_mul, nI_add]]
      refine c_Iv F G (c_SymbolInitR hH (n := (900 + 2 * (16 * i + n))) a2B hkr0 (by omega) w2B hb2 (by omega) (by omega)) (cwI 7 F.2.2.2.2 (zgI ko_X8_init) rfl rfl rfl (F.2.2.2.2 _ (zin kn_X8)) (F.2.2.2.2 _ (zin km_X11_143)) (F.2.2.2.2 _ (zin ki_X8_init)) rfl hd_yX8_init ⟨Nat.le_of_ble_eq_true rfl, Nat.le_of_ble_eq_true rfl⟩) rfl rfl (Nat.le_of_ble_eq_true rfl) dX11_symbol_146 ⟨Nat.le_of_ble_eq_true rfl, Nat.le_of_ble_eq_true rfl⟩ (fun S146 h146 => ?_)
      obtain ⟨ad3, W3, hH3, g3, w3o, w3B⟩ := h146
      have a3B : ad3 (900 + 2 * (16 * i + n)) = q125 := (g3 (900 + 2 * (16 * i + n))).trans a2B
      have hl3 : vl W3 ((100 + 8 * i) + 6) n (fun j => 900 + 2 * (16 * i + j)) := hU1.2.2.2.same ((w3o _ (by omega)).trans (w2o _ (by omega))) ((w3o _ (by omega)).trans (w2o _ (by omega)))
      have hB3 : oa W3 (900 + 2 * (16 * i + n)) := oa_eq w3B trivial
      have hm : ad2 ((100 + 8 * i) + 6) = ad3 ((100 + 8 * i) + 6) := (g3 _).symm
      rw [hm, ← a3B]
      have M3 : zA S146 (ad3 ((100 + 8 * i) + 6)) 0 := hl3.al hH3 hk.2.2.2.2.2.1 rfl
      have hrow := hl3.row hH3 hk.2.2.2.2.2.2 (ci := 9) (fun j2 hj2 => kd_y (16 * i + j2) (by omega)) (by omega)
      have hch := chb n (by omega)
      refine c_Fi (ci := 0) F G (k_add M3 (hl3.E hH3 hk.2.2.2.2.2.1 rfl) (hl3.z hH3 hk.2.2.2.2.2.1 rfl) (ci := 9) (by decide) rfl (List.mem_of_getElem? (i := 8) rfl) (hH3.al hB3 rfl hkr0) hrow) (va_cwF 1 F.2.2.2.2 (zgF km_X11_72 ke_Jx4a65c_Jxbd725_add ki_Jx4a65c_add_9ea2d kn_Jx4a65c ko_Jx4a65c_add_9ea2d) rfl rfl rfl (G.2.2.2.2.1 (⟨"java/util/List", "add", "(Ljava/lang/Object;)Z"⟩, yJx4a65c_add_9ea2d) (List.mem_of_getElem? (i := 3) rfl)) hdF_add ⟨Nat.le_of_ble_eq_true rfl, Nat.le_of_ble_eq_true rfl⟩) rfl (by decide) M3 rfl rfl (Nat.le_of_ble_eq_true rfl) dX11_symbol_149 ⟨by show _ + chC n ≤ 14; omega, by show _ + chS n ≤ 140; omega⟩ (fun r149 S149 h149 => ?_)
      obtain ⟨q1, h149⟩ := h149
      obtain ⟨ad4, W4, hH4, g4, hl4, w4o⟩ := hl3.add hH3 (by omega) hk.2.2.2.2.2.1 hk.2.2.2.2.2.2 hB3 (by omega) rfl rfl h149
      refine r_pop F dX11_symbol_154 rfl ?_
      refine r_iload F dX11_symbol_155 rfl ?_
      have hR4 := hR1.sym hO1 hZ1 (nm := x1) (ki := 0) (b := x3) (df := (nI j)) (fo := x5) hi1 hn1 hn7 (fun d d0 e1 e2 => (w4o d e1 e2).trans ((w3o d d0).trans (w2o d d0))) (hl4.cg (fun j2 hj2 => by
        by_cases e9 : j2 = n
        · subst e9; exact va_up_self _ _ _
        · exact va_up_ne _ _ e9)) (((w4o _ (by omega) (by omega)).trans w3B).trans (by rw [if_pos ⟨rfl, hd1⟩, if_neg (fun h9 => h9.1 rfl), nI_clamp (by omega)]))
      have e9 : v.1 1204 i + 1 = nI (n + 1) := by rw [hn]; exact nI_add _ 1
      have hkeep : keepA W ad ad4 := fun d hd hev => by
        have hd1 : oa W1 d := by rw [eW]; exact (oaI hR.2.1).mpr hd
        have h9 : ∀ k, k < 2 → d ≠ (900 + 2 * (16 * i + n)) + k := fun k hk9 e9 => hfree k hk9 (e9 ▸ hd1)
        rw [g4 d (by omega), g3 d, a2o d (h9 0 (by omega))]
      refine x_iret F hr hlk ⟨hgs, i, hi, rfl, fun h9 => by rw [hn, nl16, nI_eq (by omega) (by omega)] at h9; omega, hn.symm, ad4, W4, hH4, hkeep, ?_, fun d q1 q2 => ((w4o d (by omega) (by omega)).trans ((w3o d (by omega)).trans (w2o d (by omega)))).trans (by rw [eW]; exact va_up_ne _ _ (by omega))⟩ (by show _ + chC n ≤ 14; omega) (by show _ + chS n ≤ 140; omega) dX11_symbol_157
      show Rep (u1 (u1 (u1 (u1 (u1 (u1 (u1 (u1 v 1200 0 0) 1219 0 0) 1214 (16 * i + cn v 1204 i) x1) 1215 (16 * i + cn v 1204 i) 0) 1216 (16 * i + cn v 1204 i) x3) 1217 (16 * i + cn v 1204 i) (nI j)) 1218 (16 * i + cn v 1204 i) x5) 1204 i (v.1 1204 i + 1)) W4
      rw [e9, en]
      exact hR4
    · subst h32r
      refine r_goto (tgt := 39) F dX11_symbol_35 (by decide) ?_
      refine r_astoreQ (x := none) F dX11_symbol_39 (by decide) ?_
      refine r_iload_n F dX11_symbol_41 rfl ?_
      refine r_iconst (v := 1) F dX11_symbol_42 (by decide) ?_
      refine r_icmp_ne (tgt := 56) F dX11_symbol_43 (by decide) (fun _ => ?_) (fun h9 => absurd h9 (by decide))
      refine r_null F dX11_symbol_56 ?_
      refine r_astoreQ (x := none) F dX11_symbol_57 (by decide) ?_
      refine r_iload F dX11_symbol_59 rfl ?_
      refine r_iconst (v := -1) F dX11_symbol_61 (by decide) ?_
      refine r_icmp_eq (tgt := 75) F dX11_symbol_62 (by decide) (fun c62 => ?_) (fun c62 => ?_)
      · subst c62
        refine r_iconst (v := 1) F dX11_symbol_75 (by decide) ?_
        refine r_goto (tgt := 80) F dX11_symbol_76 (by decide) ?_
        refine t_Sv F G htb hlk (k_require hl _) (va_cwS 1 F.2.2.2.2 (zgS km_X11_102 ks_X11_require kn_X11 ko_X11_require) rfl rfl rfl hd_yX11_require ⟨Nat.le_of_ble_eq_true rfl, Nat.le_of_ble_eq_true rfl⟩) rfl rfl (Nat.le_of_ble_eq_true rfl) dX11_symbol_80 ⟨Nat.le_of_ble_eq_true rfl, Nat.le_of_ble_eq_true rfl⟩ (fun E S' h => absurd h.1 (by decide)) (Nat.le_of_ble_eq_true rfl) (Nat.le_of_ble_eq_true rfl) (fun S80 h80 => ?_)
        obtain ⟨h80a, h80b⟩ := h80
        have h80c := h80b.symm
        subst h80c
        have iff0 : gSy v (nI i) x1 0 x3 (-1) x5 ↔ pIn x5 0 9 := ⟨fun h => h.2.2.2.2.2.1 rfl rfl, fun q => ⟨⟨i, hi, rfl⟩, h10a, h15a, h21a, fun h9 => absurd rfl h9, fun _ _ => q, fun _ h9 => absurd rfl h9, fun h9 => absurd rfl h9, fun h9 => absurd rfl h9⟩⟩
        refine r_iload F dX11_symbol_83 rfl ?_
        refine r_iload_n F dX11_symbol_85 rfl ?_
        refine r_aloadQ (x := none) F dX11_symbol_86 rfl ?_
        refine r_aloadQ (x := none) F dX11_symbol_88 rfl ?_
        refine c_Si F G (c_loA) (va_cwS 3 F.2.2.2.2 (zgS km_X11_134 ks_X11_largestOffset kn_X11 ko_X11_largestOffset) rfl rfl rfl hd_yX11_largestOffset ⟨Nat.le_of_ble_eq_true rfl, Nat.le_of_ble_eq_true rfl⟩) rfl rfl (Nat.le_of_ble_eq_true rfl) dX11_symbol_90 ⟨Nat.le_of_ble_eq_true rfl, Nat.le_of_ble_eq_true rfl⟩ (fun r90 S90 h90 => ?_)
        obtain ⟨h90a, h90b⟩ := h90
        have h90c := h90b.symm
        subst h90c
        subst h90a
        refine t_Sv F G htb hlk (k_requireWithin hl _ _) (va_cwS 2 F.2.2.2.2 (zgS km_X11_80 ks_X11_requireWithin kn_X11 ko_X11_requireWithin) rfl rfl rfl hd_yX11_requireWithin ⟨Nat.le_of_ble_eq_true rfl, Nat.le_of_ble_eq_true rfl⟩) rfl rfl (Nat.le_of_ble_eq_true rfl) dX11_symbol_93 ⟨Nat.le_of_ble_eq_true rfl, Nat.le_of_ble_eq_true rfl⟩ (fun E S' h => ⟨h.2.2, Or.inl ⟨fun q => h.1 (iff0.mp q), h.2.1⟩⟩) (Nat.le_of_ble_eq_true rfl) (Nat.le_of_ble_eq_true rfl) (fun S93 h93 => ?_)
        obtain ⟨h93a, h93b⟩ := h93
        have h93c := h93b.symm
        subst h93c
        have hgs := iff0.mpr h93a
        refine r_aload F dX11_symbol_96 rfl ?_
        refine r_getS (ci := 10) (k := 2) (id := 1002) (C := RX9) (T := TX9) (N := 3) F G rfl (by decide) (by decide) rfl (zinL inG10) (zin kf_X11_138) (fun _ h9 => h9) dX11_symbol_98 U0 Q1 ?_
        refine c_Fi (ci := 0) F G (k_ListSize M0) (va_cwF 0 F.2.2.2.2 (zgF km_X11_59 ke_Jx4a65c_Jxbd725_size ki_Jx4a65c_size_8abf5 kn_Jx4a65c ko_Jx4a65c_size_8abf5) rfl rfl rfl (G.2.2.2.2.1 (⟨"java/util/List", "size", "()I"⟩, yJx4a65c_size_8abf5) (List.mem_of_getElem? (i := 0) rfl)) hdF_size ⟨Nat.le_of_ble_eq_true rfl, Nat.le_of_ble_eq_true rfl⟩) rfl (by decide) M0 rfl rfl (Nat.le_of_ble_eq_true rfl) dX11_symbol_101 ⟨Nat.le_of_ble_eq_true rfl, Nat.le_of_ble_eq_true rfl⟩ (fun r101 S101 h101 => ?_)
        obtain ⟨h101a, h101b⟩ := h101
        have h101c := h101b.symm
        subst h101c
        rw [M1] at h101a
        subst h101a
        refine r_istore F dX11_symbol_106 (by decide) ?_
        refine r_iload F dX11_symbol_108 rfl ?_
        refine r_bipush (v := 16) F dX11_symbol_110 (by decide) ?_
        refine t_Sv F G htb hlk (k_requireRoom hl _ _) (va_cwS 2 F.2.2.2.2 (zgS km_X11_65 ks_X11_requireRoom kn_X11 ko_X11_requireRoom) rfl rfl rfl hd_yX11_requireRoom ⟨Nat.le_of_ble_eq_true rfl, Nat.le_of_ble_eq_true rfl⟩) rfl rfl (Nat.le_of_ble_eq_true rfl) dX11_symbol_112 ⟨Nat.le_of_ble_eq_true rfl, Nat.le_of_ble_eq_true rfl⟩ (fun E S' h => ⟨h.2.2, Or.inr ⟨hgs, ⟨i, hi, rfl, by have h9 := h.1; rw [nl16, nI_leI (by omega) (by omega)] at h9; rw [hn, nl16, show n = 16 by omega]⟩, h.2.1⟩⟩) (Nat.le_of_ble_eq_true rfl) (Nat.le_of_ble_eq_true rfl) (fun S112 h112 => ?_)
        obtain ⟨h112a, h112b⟩ := h112
        have h112c := h112b.symm
        subst h112c
        have hn7 : n < 16 := by rw [nl16, nI_leI (by omega) (by omega)] at h112a; omega
        refine r_aload_n F dX11_symbol_115 rfl ?_
        refine r_iconst (v := 0) F dX11_symbol_116 (by decide) ?_
        refine r_puti (ci := 11) (k := 6) (id := 1106) (C := RX11) (T := TX11) (N := 8) (ty := .boolean) (ty0 := tyX11) F G rfl (by decide) (by decide) rfl (zinL inG11) (zin kf_X11_51) (fun _ h9 => h9) tyX11_ok nmX11 rfl pd11_6 rfl rfl dX11_symbol_117 A0 ?_
        refine zgen (P := zH t0 X S0 ad (oI W 2 1106 0)) (hH.pi (id := 1106) hR.2.1 rfl rfl (by decide) 0) (fun S hH => ?_)
        have hR1 : Rep (u1 (u1 v 1200 0 0) 1219 0 0) (oI W 2 1106 0) := hR.unl
        obtain ⟨W1, eW⟩ : ∃ W1, W1 = (oI W 2 1106 0) := ⟨_, rfl⟩
        rw [← eW] at hH hR1
        have hZ1 : vZ (u1 (u1 v 1200 0 0) 1219 0 0) := hZ
        have hn1 : ((u1 (u1 v 1200 0 0) 1219 0 0)).1 1204 i = nI n := hn
        have hO1 : cn (u1 (u1 v 1200 0 0) 1219 0 0) 1201 0 ≤ 6 := hn0
        have hi1 : i < cn (u1 (u1 v 1200 0 0) 1219 0 0) 1201 0 := hi
        have hU1 := hR1.2.2.2.1 i hi
        have en1 : cn (u1 (u1 v 1200 0 0) 1219 0 0) 1204 i = n := en
        rw [rpU, en1] at hU1
        have U1 : zA S (ad (100 + 8 * i)) 10 := hH.al hU1.1 rfl hk.1
        have Q2 : zq S 1002 (ad (100 + 8 * i)) = some (ad ((100 + 8 * i) + 6)) := hH.qS hU1.1 rfl (by rw [hk.1]; decide) (hR1.1.q hU1.1 (by decide) hk.1) rfl
        have hfree : ∀ k, k < 2 → ¬ oa W1 ((900 + 2 * (16 * i + n)) + k) := fun k hk9 h9 => by
          rcases hR1.2.2.2.2.2.2.2.1 _ h9 with q | q | q | q | q
          · omega
          · omega
          · omega
          · omega
          · have q3 := q.2.2
            rw [show ((900 + 2 * (16 * i + n)) + k - 900) / 2 = 16 * i + n by omega, show (16 * i + n) % 16 = n by omega, show (16 * i + n) / 16 = i by omega, en1] at q3
            omega
        have hkr0 := kd_y (16 * i + n) (by omega)
        refine r_aload F dX11_symbol_120 rfl ?_
        refine r_getS (ci := 10) (k := 2) (id := 1002) (C := RX9) (T := TX9) (N := 3) F G rfl (by decide) (by decide) rfl (zinL inG10) (zin kf_X11_138) (fun _ h9 => h9) dX11_symbol_122 U1 Q2 ?_
        refine r_new (ci := 9) (C := RX8) (T := TX8) (N := 8) (ty0 := tyX8) F G rfl (by decide) (zinL inG9) tyX8_ok dvG9 (zin kc_X11_141) (zin kb_X8) (zin kn_X8) (by decide) (by decide) dX11_symbol_125 (fun q125 hq125 => ?_)
        have hB0 : ¬ oa W1 (900 + 2 * (16 * i + n)) := hfree 0 (by omega)
        have hH2 := hH.newo hB0 (by omega) hq125 hkr0 (by decide)
        obtain ⟨ad2, ead2⟩ : ∃ x, x = va_up ad (900 + 2 * (16 * i + n)) q125 := ⟨_, rfl⟩
        obtain ⟨W2, eW2⟩ : ∃ x, x = va_up W1 (900 + 2 * (16 * i + n)) eNo := ⟨_, rfl⟩
        rw [← ead2, ← eW2] at hH2
        have a2B : ad2 (900 + 2 * (16 * i + n)) = q125 := by rw [ead2]; exact va_up_self _ _ _
        have a2o : ∀ d, d ≠ (900 + 2 * (16 * i + n)) → ad d = ad2 d := fun d hd => by rw [ead2]; exact (va_up_ne _ _ hd).symm
        have w2B : W2 (900 + 2 * (16 * i + n)) = eNo := by rw [eW2]; exact va_up_self _ _ _
        have w2o : ∀ d, d ≠ (900 + 2 * (16 * i + n)) → W2 d = W1 d := fun d hd => by rw [eW2]; exact va_up_ne _ _ hd
        rw [a2o 2 (by omega), a2o (100 + 8 * i) (by omega), a2o ((100 + 8 * i) + 6) (by omega)]
        refine zgen (P := zH t0 X S0 ad2 W2) hH2 (fun S hH => ?_)
        refine r_dup F dX11_symbol_128 rfl ?_
        refine r_bipush (v := 100) F dX11_symbol_129 (by decide) ?_
        refine r_iload_n F dX11_symbol_131 rfl ?_
        refine r_imul F dX11_symbol_132 ?_
        refine r_iload F dX11_symbol_133 rfl ?_
        refine r_iadd F dX11_symbol_135 ?_
        refine r_iload_n F dX11_symbol_136 rfl ?_
        refine r_iload_n F dX11_symbol_137 rfl ?_
        refine r_iload F dX11_symbol_138 rfl ?_
        refine r_aloadQ (x := none) F dX11_symbol_140 rfl ?_
        refine r_aloadQ (x := none) F dX11_symbol_142 rfl ?_
        refine r_iload F dX11_symbol_144 rfl ?_
        rw [show (100 : Int32) * nI i + nI n = nI (100 * i + n) by rw [show (100 : Int32) = nI 100 from rfl, nI_mul, nI_add]]
        refine c_Iv F G (c_SymbolInitN hH (n := (900 + 2 * (16 * i + n))) a2B hkr0 (by omega) w2B) (cwI 7 F.2.2.2.2 (zgI ko_X8_init) rfl rfl rfl (F.2.2.2.2 _ (zin kn_X8)) (F.2.2.2.2 _ (zin km_X11_143)) (F.2.2.2.2 _ (zin ki_X8_init)) rfl hd_yX8_init ⟨Nat.le_of_ble_eq_true rfl, Nat.le_of_ble_eq_true rfl⟩) rfl rfl (Nat.le_of_ble_eq_true rfl) dX11_symbol_146 ⟨Nat.le_of_ble_eq_true rfl, Nat.le_of_ble_eq_true rfl⟩ (fun S146 h146 => ?_)
        obtain ⟨ad3, W3, hH3, g3, w3o, w3B⟩ := h146
        have a3B : ad3 (900 + 2 * (16 * i + n)) = q125 := (g3 (900 + 2 * (16 * i + n))).trans a2B
        have hl3 : vl W3 ((100 + 8 * i) + 6) n (fun j => 900 + 2 * (16 * i + j)) := hU1.2.2.2.same ((w3o _ (by omega)).trans (w2o _ (by omega))) ((w3o _ (by omega)).trans (w2o _ (by omega)))
        have hB3 : oa W3 (900 + 2 * (16 * i + n)) := oa_eq w3B trivial
        have hm : ad2 ((100 + 8 * i) + 6) = ad3 ((100 + 8 * i) + 6) := (g3 _).symm
        rw [hm, ← a3B]
        have M3 : zA S146 (ad3 ((100 + 8 * i) + 6)) 0 := hl3.al hH3 hk.2.2.2.2.2.1 rfl
        have hrow := hl3.row hH3 hk.2.2.2.2.2.2 (ci := 9) (fun j2 hj2 => kd_y (16 * i + j2) (by omega)) (by omega)
        have hch := chb n (by omega)
        refine c_Fi (ci := 0) F G (k_add M3 (hl3.E hH3 hk.2.2.2.2.2.1 rfl) (hl3.z hH3 hk.2.2.2.2.2.1 rfl) (ci := 9) (by decide) rfl (List.mem_of_getElem? (i := 8) rfl) (hH3.al hB3 rfl hkr0) hrow) (va_cwF 1 F.2.2.2.2 (zgF km_X11_72 ke_Jx4a65c_Jxbd725_add ki_Jx4a65c_add_9ea2d kn_Jx4a65c ko_Jx4a65c_add_9ea2d) rfl rfl rfl (G.2.2.2.2.1 (⟨"java/util/List", "add", "(Ljava/lang/Object;)Z"⟩, yJx4a65c_add_9ea2d) (List.mem_of_getElem? (i := 3) rfl)) hdF_add ⟨Nat.le_of_ble_eq_true rfl, Nat.le_of_ble_eq_true rfl⟩) rfl (by decide) M3 rfl rfl (Nat.le_of_ble_eq_true rfl) dX11_symbol_149 ⟨by show _ + chC n ≤ 14; omega, by show _ + chS n ≤ 140; omega⟩ (fun r149 S149 h149 => ?_)
        obtain ⟨q1, h149⟩ := h149
        obtain ⟨ad4, W4, hH4, g4, hl4, w4o⟩ := hl3.add hH3 (by omega) hk.2.2.2.2.2.1 hk.2.2.2.2.2.2 hB3 (by omega) rfl rfl h149
        refine r_pop F dX11_symbol_154 rfl ?_
        refine r_iload F dX11_symbol_155 rfl ?_
        have hR4 := hR1.sym hO1 hZ1 (nm := x1) (ki := 0) (b := x3) (df := (-1)) (fo := x5) hi1 hn1 hn7 (fun d d0 e1 e2 => (w4o d e1 e2).trans ((w3o d d0).trans (w2o d d0))) (hl4.cg (fun j2 hj2 => by
          by_cases e9 : j2 = n
          · subst e9; exact va_up_self _ _ _
          · exact va_up_ne _ _ e9)) (((w4o _ (by omega) (by omega)).trans w3B).trans (by rw [if_neg (fun h9 => h9.2 rfl), if_neg (fun h9 => h9.2 rfl)]))
        have e9 : v.1 1204 i + 1 = nI (n + 1) := by rw [hn]; exact nI_add _ 1
        have hkeep : keepA W ad ad4 := fun d hd hev => by
          have hd1 : oa W1 d := by rw [eW]; exact (oaI hR.2.1).mpr hd
          have h9 : ∀ k, k < 2 → d ≠ (900 + 2 * (16 * i + n)) + k := fun k hk9 e9 => hfree k hk9 (e9 ▸ hd1)
          rw [g4 d (by omega), g3 d, a2o d (h9 0 (by omega))]
        refine x_iret F hr hlk ⟨hgs, i, hi, rfl, fun h9 => by rw [hn, nl16, nI_eq (by omega) (by omega)] at h9; omega, hn.symm, ad4, W4, hH4, hkeep, ?_, fun d q1 q2 => ((w4o d (by omega) (by omega)).trans ((w3o d (by omega)).trans (w2o d (by omega)))).trans (by rw [eW]; exact va_up_ne _ _ (by omega))⟩ (by show _ + chC n ≤ 14; omega) (by show _ + chS n ≤ 140; omega) dX11_symbol_157
        show Rep (u1 (u1 (u1 (u1 (u1 (u1 (u1 (u1 v 1200 0 0) 1219 0 0) 1214 (16 * i + cn v 1204 i) x1) 1215 (16 * i + cn v 1204 i) 0) 1216 (16 * i + cn v 1204 i) x3) 1217 (16 * i + cn v 1204 i) (-1)) 1218 (16 * i + cn v 1204 i) x5) 1204 i (v.1 1204 i + 1)) W4
        rw [e9, en]
        exact hR4
      · refine r_aloadQ (x := none) F dX11_symbol_65 rfl ?_
        refine r_ifnonnullN F dX11_symbol_67 ?_
        refine r_aloadQ (x := none) F dX11_symbol_70 rfl ?_
        refine r_ifnullN (tgt := 79) F dX11_symbol_72 (by decide) ?_
        refine r_iconst (v := 0) F dX11_symbol_79 (by decide) ?_
        refine t_Sv F G htb hlk (k_require hl _) (va_cwS 1 F.2.2.2.2 (zgS km_X11_102 ks_X11_require kn_X11 ko_X11_require) rfl rfl rfl hd_yX11_require ⟨Nat.le_of_ble_eq_true rfl, Nat.le_of_ble_eq_true rfl⟩) rfl rfl (Nat.le_of_ble_eq_true rfl) dX11_symbol_80 ⟨Nat.le_of_ble_eq_true rfl, Nat.le_of_ble_eq_true rfl⟩ (fun E S' h => ⟨h.2.2, Or.inl ⟨fun q => by obtain ⟨i2, j2, q1, q2, q3, q4⟩ := (q.2.2.2.2.1 c62).1 rfl; have q5 := (nI_eq (by omega) (by omega)).mp q2; subst q5; exact h32n j2 q3 q4, h.2.1⟩⟩) (Nat.le_of_ble_eq_true rfl) (Nat.le_of_ble_eq_true rfl) (fun S80 h80 => ?_)
        exact absurd rfl h80.1
  · subst ek
    refine r_iload_n F dX11_symbol_24 rfl ?_
    refine r_if_ne (tgt := 38) F dX11_symbol_25 (by decide) (fun _ => ?_) (fun h9 => absurd h9 (by decide))
    refine r_null F dX11_symbol_38 ?_
    refine r_astoreQ (x := none) F dX11_symbol_39 (by decide) ?_
    refine r_iload_n F dX11_symbol_41 rfl ?_
    refine r_iconst (v := 1) F dX11_symbol_42 (by decide) ?_
    refine r_icmp_ne (tgt := 56) F dX11_symbol_43 (by decide) (fun h9 => absurd rfl h9) (fun _ => ?_)
    refine r_aload F dX11_symbol_46 rfl ?_
    refine r_iload F dX11_symbol_48 rfl ?_
    refine c_Vq (ci := 10) F G (c_segmentAt hH hR.1 hU.1 rfl hk.1 hU.2.2.1 hk.2.2.2.1 hk.2.2.2.2.1 (fun j hj => (kd_g (4 * i + j) (by have := (rg_1203 hv hi6).2; omega)).1) (by have := (rg_1203 hv hi6).2; omega)) (cwV 1 F.2.2.2.2 (zgV km_X11_113 ki_X9_segmentAt ke_X9_X9_segmentAt kn_X9 ko_X9_segmentAt) rfl rfl rfl ⟨rfl, hd_yX9_segmentAt⟩ ⟨Nat.le_of_ble_eq_true rfl, Nat.le_of_ble_eq_true rfl⟩) rfl (by decide) U0 rfl rfl (Nat.le_of_ble_eq_true rfl) dX11_symbol_50 ⟨Nat.le_of_ble_eq_true rfl, Nat.le_of_ble_eq_true rfl⟩ (fun r50 S50 h50 => ?_)
    obtain ⟨h50a, h50⟩ := h50
    have h50c := h50a.symm
    subst h50c
    rcases h50 with ⟨j, hj, ej, h50r⟩ | ⟨h50n, h50r⟩
    · subst ej
      subst h50r
      have hj4 : j < 4 := by have := (rg_1203 hv hi6).2; omega
      have gt : gT v 1203 (nI i) (nI j) := ⟨i, j, hi, rfl, hj, rfl⟩
      have hg0 := hR.2.2.2.2.2.1 (4 * i + j) (by omega) (by rw [show (4 * i + j) / 4 = i by omega]; omega)
      have hkg := kd_g (4 * i + j) (by omega)
      have hgn : nI (onn W (800 + 4 * (4 * i + j) + 2)) = v.1 1211 (4 * i + j) := by rw [hg0.2.2.1]; exact (rg_1211 hv (by omega)).1.symm
      have hd1 : ¬ nI j = -1 := fun h9 => by have h8 := nI_pos (n := j) (by omega); rw [h9] at h8; exact h8 (by decide)
      refine r_goto (tgt := 57) F dX11_symbol_53 (by decide) ?_
      refine r_astore (x := ad (800 + 4 * (4 * i + j))) F dX11_symbol_57 (by decide) ?_
      refine r_iload F dX11_symbol_59 rfl ?_
      refine r_iconst (v := -1) F dX11_symbol_61 (by decide) ?_
      refine r_icmp_eq (tgt := 75) F dX11_symbol_62 (by decide) (fun h9 => absurd h9 hd1) (fun _ => ?_)
      refine r_aloadQ (x := none) F dX11_symbol_65 rfl ?_
      refine r_ifnonnullN F dX11_symbol_67 ?_
      refine r_aload F dX11_symbol_70 rfl ?_
      refine r_ifnull F dX11_symbol_72 ?_
      refine r_iconst (v := 1) F dX11_symbol_75 (by decide) ?_
      refine r_goto (tgt := 80) F dX11_symbol_76 (by decide) ?_
      refine t_Sv F G htb hlk (k_require hl _) (va_cwS 1 F.2.2.2.2 (zgS km_X11_102 ks_X11_require kn_X11 ko_X11_require) rfl rfl rfl hd_yX11_require ⟨Nat.le_of_ble_eq_true rfl, Nat.le_of_ble_eq_true rfl⟩) rfl rfl (Nat.le_of_ble_eq_true rfl) dX11_symbol_80 ⟨Nat.le_of_ble_eq_true rfl, Nat.le_of_ble_eq_true rfl⟩ (fun E S' h => absurd h.1 (by decide)) (Nat.le_of_ble_eq_true rfl) (Nat.le_of_ble_eq_true rfl) (fun S80 h80 => ?_)
      obtain ⟨h80a, h80b⟩ := h80
      have h80c := h80b.symm
      subst h80c
      have iff0 : gSy v (nI i) x1 1 x3 (nI j) x5 ↔ pIn x5 0 (v.1 1211 (4 * i + j)) := ⟨fun h => h.2.2.2.2.2.2.2.2 (by decide) hd1 i j hi6 hj4 rfl rfl, fun q => ⟨⟨i, hi, rfl⟩, h10a, h15a, h21a, fun _ => ⟨fun h9 => absurd h9 (by decide), fun _ => gt⟩, fun h9 => absurd h9 (by decide), fun h9 => absurd h9 (by decide), fun _ h9 => absurd h9 hd1, fun _ _ i2 j2 hi2 hj2 q2 q3 => by have q4 := (nI_eq (by omega) (by omega)).mp q2; have q5 := (nI_eq (by omega) (by omega)).mp q3; subst q4; subst q5; exact q⟩⟩
      refine r_iload F dX11_symbol_83 rfl ?_
      refine r_iload_n F dX11_symbol_85 rfl ?_
      refine r_aloadQ (x := none) F dX11_symbol_86 rfl ?_
      refine r_aload F dX11_symbol_88 rfl ?_
      refine c_Si F G (c_loG hH hR.1 hg0.1 hkg.1 hkg.2) (va_cwS 3 F.2.2.2.2 (zgS km_X11_134 ks_X11_largestOffset kn_X11 ko_X11_largestOffset) rfl rfl rfl hd_yX11_largestOffset ⟨Nat.le_of_ble_eq_true rfl, Nat.le_of_ble_eq_true rfl⟩) rfl rfl (Nat.le_of_ble_eq_true rfl) dX11_symbol_90 ⟨Nat.le_of_ble_eq_true rfl, Nat.le_of_ble_eq_true rfl⟩ (fun r90 S90 h90 => ?_)
      obtain ⟨h90a, h90b⟩ := h90
      have h90c := h90b.symm
      subst h90c
      rw [hgn] at h90a
      subst h90a
      refine t_Sv F G htb hlk (k_requireWithin hl _ _) (va_cwS 2 F.2.2.2.2 (zgS km_X11_80 ks_X11_requireWithin kn_X11 ko_X11_requireWithin) rfl rfl rfl hd_yX11_requireWithin ⟨Nat.le_of_ble_eq_true rfl, Nat.le_of_ble_eq_true rfl⟩) rfl rfl (Nat.le_of_ble_eq_true rfl) dX11_symbol_93 ⟨Nat.le_of_ble_eq_true rfl, Nat.le_of_ble_eq_true rfl⟩ (fun E S' h => ⟨h.2.2, Or.inl ⟨fun q => h.1 (iff0.mp q), h.2.1⟩⟩) (Nat.le_of_ble_eq_true rfl) (Nat.le_of_ble_eq_true rfl) (fun S93 h93 => ?_)
      obtain ⟨h93a, h93b⟩ := h93
      have h93c := h93b.symm
      subst h93c
      have hgs := iff0.mpr h93a
      refine r_aload F dX11_symbol_96 rfl ?_
      refine r_getS (ci := 10) (k := 2) (id := 1002) (C := RX9) (T := TX9) (N := 3) F G rfl (by decide) (by decide) rfl (zinL inG10) (zin kf_X11_138) (fun _ h9 => h9) dX11_symbol_98 U0 Q1 ?_
      refine c_Fi (ci := 0) F G (k_ListSize M0) (va_cwF 0 F.2.2.2.2 (zgF km_X11_59 ke_Jx4a65c_Jxbd725_size ki_Jx4a65c_size_8abf5 kn_Jx4a65c ko_Jx4a65c_size_8abf5) rfl rfl rfl (G.2.2.2.2.1 (⟨"java/util/List", "size", "()I"⟩, yJx4a65c_size_8abf5) (List.mem_of_getElem? (i := 0) rfl)) hdF_size ⟨Nat.le_of_ble_eq_true rfl, Nat.le_of_ble_eq_true rfl⟩) rfl (by decide) M0 rfl rfl (Nat.le_of_ble_eq_true rfl) dX11_symbol_101 ⟨Nat.le_of_ble_eq_true rfl, Nat.le_of_ble_eq_true rfl⟩ (fun r101 S101 h101 => ?_)
      obtain ⟨h101a, h101b⟩ := h101
      have h101c := h101b.symm
      subst h101c
      rw [M1] at h101a
      subst h101a
      refine r_istore F dX11_symbol_106 (by decide) ?_
      refine r_iload F dX11_symbol_108 rfl ?_
      refine r_bipush (v := 16) F dX11_symbol_110 (by decide) ?_
      refine t_Sv F G htb hlk (k_requireRoom hl _ _) (va_cwS 2 F.2.2.2.2 (zgS km_X11_65 ks_X11_requireRoom kn_X11 ko_X11_requireRoom) rfl rfl rfl hd_yX11_requireRoom ⟨Nat.le_of_ble_eq_true rfl, Nat.le_of_ble_eq_true rfl⟩) rfl rfl (Nat.le_of_ble_eq_true rfl) dX11_symbol_112 ⟨Nat.le_of_ble_eq_true rfl, Nat.le_of_ble_eq_true rfl⟩ (fun E S' h => ⟨h.2.2, Or.inr ⟨hgs, ⟨i, hi, rfl, by have h9 := h.1; rw [nl16, nI_leI (by omega) (by omega)] at h9; rw [hn, nl16, show n = 16 by omega]⟩, h.2.1⟩⟩) (Nat.le_of_ble_eq_true rfl) (Nat.le_of_ble_eq_true rfl) (fun S112 h112 => ?_)
      obtain ⟨h112a, h112b⟩ := h112
      have h112c := h112b.symm
      subst h112c
      have hn7 : n < 16 := by rw [nl16, nI_leI (by omega) (by omega)] at h112a; omega
      refine r_aload_n F dX11_symbol_115 rfl ?_
      refine r_iconst (v := 0) F dX11_symbol_116 (by decide) ?_
      refine r_puti (ci := 11) (k := 6) (id := 1106) (C := RX11) (T := TX11) (N := 8) (ty := .boolean) (ty0 := tyX11) F G rfl (by decide) (by decide) rfl (zinL inG11) (zin kf_X11_51) (fun _ h9 => h9) tyX11_ok nmX11 rfl pd11_6 rfl rfl dX11_symbol_117 A0 ?_
      refine zgen (P := zH t0 X S0 ad (oI W 2 1106 0)) (hH.pi (id := 1106) hR.2.1 rfl rfl (by decide) 0) (fun S hH => ?_)
      have hR1 : Rep (u1 (u1 v 1200 0 0) 1219 0 0) (oI W 2 1106 0) := hR.unl
      obtain ⟨W1, eW⟩ : ∃ W1, W1 = (oI W 2 1106 0) := ⟨_, rfl⟩
      rw [← eW] at hH hR1
      have hZ1 : vZ (u1 (u1 v 1200 0 0) 1219 0 0) := hZ
      have hn1 : ((u1 (u1 v 1200 0 0) 1219 0 0)).1 1204 i = nI n := hn
      have hO1 : cn (u1 (u1 v 1200 0 0) 1219 0 0) 1201 0 ≤ 6 := hn0
      have hi1 : i < cn (u1 (u1 v 1200 0 0) 1219 0 0) 1201 0 := hi
      have hU1 := hR1.2.2.2.1 i hi
      have en1 : cn (u1 (u1 v 1200 0 0) 1219 0 0) 1204 i = n := en
      rw [rpU, en1] at hU1
      have U1 : zA S (ad (100 + 8 * i)) 10 := hH.al hU1.1 rfl hk.1
      have Q2 : zq S 1002 (ad (100 + 8 * i)) = some (ad ((100 + 8 * i) + 6)) := hH.qS hU1.1 rfl (by rw [hk.1]; decide) (hR1.1.q hU1.1 (by decide) hk.1) rfl
      have hfree : ∀ k, k < 2 → ¬ oa W1 ((900 + 2 * (16 * i + n)) + k) := fun k hk9 h9 => by
        rcases hR1.2.2.2.2.2.2.2.1 _ h9 with q | q | q | q | q
        · omega
        · omega
        · omega
        · omega
        · have q3 := q.2.2
          rw [show ((900 + 2 * (16 * i + n)) + k - 900) / 2 = 16 * i + n by omega, show (16 * i + n) % 16 = n by omega, show (16 * i + n) / 16 = i by omega, en1] at q3
          omega
      have hkr0 := kd_y (16 * i + n) (by omega)
      refine r_aload F dX11_symbol_120 rfl ?_
      refine r_getS (ci := 10) (k := 2) (id := 1002) (C := RX9) (T := TX9) (N := 3) F G rfl (by decide) (by decide) rfl (zinL inG10) (zin kf_X11_138) (fun _ h9 => h9) dX11_symbol_122 U1 Q2 ?_
      refine r_new (ci := 9) (C := RX8) (T := TX8) (N := 8) (ty0 := tyX8) F G rfl (by decide) (zinL inG9) tyX8_ok dvG9 (zin kc_X11_141) (zin kb_X8) (zin kn_X8) (by decide) (by decide) dX11_symbol_125 (fun q125 hq125 => ?_)
      have hB0 : ¬ oa W1 (900 + 2 * (16 * i + n)) := hfree 0 (by omega)
      have hH2 := hH.newo hB0 (by omega) hq125 hkr0 (by decide)
      obtain ⟨ad2, ead2⟩ : ∃ x, x = va_up ad (900 + 2 * (16 * i + n)) q125 := ⟨_, rfl⟩
      obtain ⟨W2, eW2⟩ : ∃ x, x = va_up W1 (900 + 2 * (16 * i + n)) eNo := ⟨_, rfl⟩
      rw [← ead2, ← eW2] at hH2
      have a2B : ad2 (900 + 2 * (16 * i + n)) = q125 := by rw [ead2]; exact va_up_self _ _ _
      have a2o : ∀ d, d ≠ (900 + 2 * (16 * i + n)) → ad d = ad2 d := fun d hd => by rw [ead2]; exact (va_up_ne _ _ hd).symm
      have w2B : W2 (900 + 2 * (16 * i + n)) = eNo := by rw [eW2]; exact va_up_self _ _ _
      have w2o : ∀ d, d ≠ (900 + 2 * (16 * i + n)) → W2 d = W1 d := fun d hd => by rw [eW2]; exact va_up_ne _ _ hd
      rw [a2o 2 (by omega), a2o (100 + 8 * i) (by omega), a2o ((100 + 8 * i) + 6) (by omega), a2o (800 + 4 * (4 * i + j)) (by omega)]
      refine zgen (P := zH t0 X S0 ad2 W2) hH2 (fun S hH => ?_)
      have hb2 : oa W2 (800 + 4 * (4 * i + j)) := oa_eq (w2o _ (by omega)) (by rw [eW]; exact (oaI hR.2.1).mpr hg0.1)
      refine r_dup F dX11_symbol_128 rfl ?_
      refine r_bipush (v := 100) F dX11_symbol_129 (by decide) ?_
      refine r_iload_n F dX11_symbol_131 rfl ?_
      refine r_imul F dX11_symbol_132 ?_
      refine r_iload F dX11_symbol_133 rfl ?_
      refine r_iadd F dX11_symbol_135 ?_
      refine r_iload_n F dX11_symbol_136 rfl ?_
      refine r_iload_n F dX11_symbol_137 rfl ?_
      refine r_iload F dX11_symbol_138 rfl ?_
      refine r_aloadQ (x := none) F dX11_symbol_140 rfl ?_
      refine r_aload F dX11_symbol_142 rfl ?_
      refine r_iload F dX11_symbol_144 rfl ?_
      rw [show (100 : Int32) * nI i + nI n = nI (100 * i + n) by rw [show (100 : Int32) = nI 100 from rfl, nI_mul, nI_add]]
      refine c_Iv F G (c_SymbolInitG hH (n := (900 + 2 * (16 * i + n))) a2B hkr0 (by omega) w2B hb2 (by omega) (by omega)) (cwI 7 F.2.2.2.2 (zgI ko_X8_init) rfl rfl rfl (F.2.2.2.2 _ (zin kn_X8)) (F.2.2.2.2 _ (zin km_X11_143)) (F.2.2.2.2 _ (zin ki_X8_init)) rfl hd_yX8_init ⟨Nat.le_of_ble_eq_true rfl, Nat.le_of_ble_eq_true rfl⟩) rfl rfl (Nat.le_of_ble_eq_true rfl) dX11_symbol_146 ⟨Nat.le_of_ble_eq_true rfl, Nat.le_of_ble_eq_true rfl⟩ (fun S146 h146 => ?_)
      obtain ⟨ad3, W3, hH3, g3, w3o, w3B⟩ := h146
      have a3B : ad3 (900 + 2 * (16 * i + n)) = q125 := (g3 (900 + 2 * (16 * i + n))).trans a2B
      have hl3 : vl W3 ((100 + 8 * i) + 6) n (fun j => 900 + 2 * (16 * i + j)) := hU1.2.2.2.same ((w3o _ (by omega)).trans (w2o _ (by omega))) ((w3o _ (by omega)).trans (w2o _ (by omega)))
      have hB3 : oa W3 (900 + 2 * (16 * i + n)) := oa_eq w3B trivial
      have hm : ad2 ((100 + 8 * i) + 6) = ad3 ((100 + 8 * i) + 6) := (g3 _).symm
      rw [hm, ← a3B]
      have M3 : zA S146 (ad3 ((100 + 8 * i) + 6)) 0 := hl3.al hH3 hk.2.2.2.2.2.1 rfl
      have hrow := hl3.row hH3 hk.2.2.2.2.2.2 (ci := 9) (fun j2 hj2 => kd_y (16 * i + j2) (by omega)) (by omega)
      have hch := chb n (by omega)
      refine c_Fi (ci := 0) F G (k_add M3 (hl3.E hH3 hk.2.2.2.2.2.1 rfl) (hl3.z hH3 hk.2.2.2.2.2.1 rfl) (ci := 9) (by decide) rfl (List.mem_of_getElem? (i := 8) rfl) (hH3.al hB3 rfl hkr0) hrow) (va_cwF 1 F.2.2.2.2 (zgF km_X11_72 ke_Jx4a65c_Jxbd725_add ki_Jx4a65c_add_9ea2d kn_Jx4a65c ko_Jx4a65c_add_9ea2d) rfl rfl rfl (G.2.2.2.2.1 (⟨"java/util/List", "add", "(Ljava/lang/Object;)Z"⟩, yJx4a65c_add_9ea2d) (List.mem_of_getElem? (i := 3) rfl)) hdF_add ⟨Nat.le_of_ble_eq_true rfl, Nat.le_of_ble_eq_true rfl⟩) rfl (by decide) M3 rfl rfl (Nat.le_of_ble_eq_true rfl) dX11_symbol_149 ⟨by show _ + chC n ≤ 14; omega, by show _ + chS n ≤ 140; omega⟩ (fun r149 S149 h149 => ?_)
      obtain ⟨q1, h149⟩ := h149
      obtain ⟨ad4, W4, hH4, g4, hl4, w4o⟩ := hl3.add hH3 (by omega) hk.2.2.2.2.2.1 hk.2.2.2.2.2.2 hB3 (by omega) rfl rfl h149
      refine r_pop F dX11_symbol_154 rfl ?_
      refine r_iload F dX11_symbol_155 rfl ?_
      have hR4 := hR1.sym hO1 hZ1 (nm := x1) (ki := 1) (b := x3) (df := (nI j)) (fo := x5) hi1 hn1 hn7 (fun d d0 e1 e2 => (w4o d e1 e2).trans ((w3o d d0).trans (w2o d d0))) (hl4.cg (fun j2 hj2 => by
        by_cases e9 : j2 = n
        · subst e9; exact va_up_self _ _ _
        · exact va_up_ne _ _ e9)) (((w4o _ (by omega) (by omega)).trans w3B).trans (by rw [if_neg (fun h9 => absurd h9.1 (by decide)), if_pos ⟨by decide, hd1⟩, nI_clamp (by omega)]))
      have e9 : v.1 1204 i + 1 = nI (n + 1) := by rw [hn]; exact nI_add _ 1
      have hkeep : keepA W ad ad4 := fun d hd hev => by
        have hd1 : oa W1 d := by rw [eW]; exact (oaI hR.2.1).mpr hd
        have h9 : ∀ k, k < 2 → d ≠ (900 + 2 * (16 * i + n)) + k := fun k hk9 e9 => hfree k hk9 (e9 ▸ hd1)
        rw [g4 d (by omega), g3 d, a2o d (h9 0 (by omega))]
      refine x_iret F hr hlk ⟨hgs, i, hi, rfl, fun h9 => by rw [hn, nl16, nI_eq (by omega) (by omega)] at h9; omega, hn.symm, ad4, W4, hH4, hkeep, ?_, fun d q1 q2 => ((w4o d (by omega) (by omega)).trans ((w3o d (by omega)).trans (w2o d (by omega)))).trans (by rw [eW]; exact va_up_ne _ _ (by omega))⟩ (by show _ + chC n ≤ 14; omega) (by show _ + chS n ≤ 140; omega) dX11_symbol_157
      show Rep (u1 (u1 (u1 (u1 (u1 (u1 (u1 (u1 v 1200 0 0) 1219 0 0) 1214 (16 * i + cn v 1204 i) x1) 1215 (16 * i + cn v 1204 i) 1) 1216 (16 * i + cn v 1204 i) x3) 1217 (16 * i + cn v 1204 i) (nI j)) 1218 (16 * i + cn v 1204 i) x5) 1204 i (v.1 1204 i + 1)) W4
      rw [e9, en]
      exact hR4
    · subst h50r
      refine r_goto (tgt := 57) F dX11_symbol_53 (by decide) ?_
      refine r_astoreQ (x := none) F dX11_symbol_57 (by decide) ?_
      refine r_iload F dX11_symbol_59 rfl ?_
      refine r_iconst (v := -1) F dX11_symbol_61 (by decide) ?_
      refine r_icmp_eq (tgt := 75) F dX11_symbol_62 (by decide) (fun c62 => ?_) (fun c62 => ?_)
      · subst c62
        refine r_iconst (v := 1) F dX11_symbol_75 (by decide) ?_
        refine r_goto (tgt := 80) F dX11_symbol_76 (by decide) ?_
        refine t_Sv F G htb hlk (k_require hl _) (va_cwS 1 F.2.2.2.2 (zgS km_X11_102 ks_X11_require kn_X11 ko_X11_require) rfl rfl rfl hd_yX11_require ⟨Nat.le_of_ble_eq_true rfl, Nat.le_of_ble_eq_true rfl⟩) rfl rfl (Nat.le_of_ble_eq_true rfl) dX11_symbol_80 ⟨Nat.le_of_ble_eq_true rfl, Nat.le_of_ble_eq_true rfl⟩ (fun E S' h => absurd h.1 (by decide)) (Nat.le_of_ble_eq_true rfl) (Nat.le_of_ble_eq_true rfl) (fun S80 h80 => ?_)
        obtain ⟨h80a, h80b⟩ := h80
        have h80c := h80b.symm
        subst h80c
        have iff0 : gSy v (nI i) x1 1 x3 (-1) x5 ↔ pIn x5 0 0 := ⟨fun h => h.2.2.2.2.2.2.2.1 (by decide) rfl, fun q => ⟨⟨i, hi, rfl⟩, h10a, h15a, h21a, fun h9 => absurd rfl h9, fun h9 => absurd h9 (by decide), fun h9 => absurd h9 (by decide), fun _ _ => q, fun _ h9 => absurd rfl h9⟩⟩
        refine r_iload F dX11_symbol_83 rfl ?_
        refine r_iload_n F dX11_symbol_85 rfl ?_
        refine r_aloadQ (x := none) F dX11_symbol_86 rfl ?_
        refine r_aloadQ (x := none) F dX11_symbol_88 rfl ?_
        refine c_Si F G (c_loB) (va_cwS 3 F.2.2.2.2 (zgS km_X11_134 ks_X11_largestOffset kn_X11 ko_X11_largestOffset) rfl rfl rfl hd_yX11_largestOffset ⟨Nat.le_of_ble_eq_true rfl, Nat.le_of_ble_eq_true rfl⟩) rfl rfl (Nat.le_of_ble_eq_true rfl) dX11_symbol_90 ⟨Nat.le_of_ble_eq_true rfl, Nat.le_of_ble_eq_true rfl⟩ (fun r90 S90 h90 => ?_)
        obtain ⟨h90a, h90b⟩ := h90
        have h90c := h90b.symm
        subst h90c
        subst h90a
        refine t_Sv F G htb hlk (k_requireWithin hl _ _) (va_cwS 2 F.2.2.2.2 (zgS km_X11_80 ks_X11_requireWithin kn_X11 ko_X11_requireWithin) rfl rfl rfl hd_yX11_requireWithin ⟨Nat.le_of_ble_eq_true rfl, Nat.le_of_ble_eq_true rfl⟩) rfl rfl (Nat.le_of_ble_eq_true rfl) dX11_symbol_93 ⟨Nat.le_of_ble_eq_true rfl, Nat.le_of_ble_eq_true rfl⟩ (fun E S' h => ⟨h.2.2, Or.inl ⟨fun q => h.1 (iff0.mp q), h.2.1⟩⟩) (Nat.le_of_ble_eq_true rfl) (Nat.le_of_ble_eq_true rfl) (fun S93 h93 => ?_)
        obtain ⟨h93a, h93b⟩ := h93
        have h93c := h93b.symm
        subst h93c
        have hgs := iff0.mpr h93a
        refine r_aload F dX11_symbol_96 rfl ?_
        refine r_getS (ci := 10) (k := 2) (id := 1002) (C := RX9) (T := TX9) (N := 3) F G rfl (by decide) (by decide) rfl (zinL inG10) (zin kf_X11_138) (fun _ h9 => h9) dX11_symbol_98 U0 Q1 ?_
        refine c_Fi (ci := 0) F G (k_ListSize M0) (va_cwF 0 F.2.2.2.2 (zgF km_X11_59 ke_Jx4a65c_Jxbd725_size ki_Jx4a65c_size_8abf5 kn_Jx4a65c ko_Jx4a65c_size_8abf5) rfl rfl rfl (G.2.2.2.2.1 (⟨"java/util/List", "size", "()I"⟩, yJx4a65c_size_8abf5) (List.mem_of_getElem? (i := 0) rfl)) hdF_size ⟨Nat.le_of_ble_eq_true rfl, Nat.le_of_ble_eq_true rfl⟩) rfl (by decide) M0 rfl rfl (Nat.le_of_ble_eq_true rfl) dX11_symbol_101 ⟨Nat.le_of_ble_eq_true rfl, Nat.le_of_ble_eq_true rfl⟩ (fun r101 S101 h101 => ?_)
        obtain ⟨h101a, h101b⟩ := h101
        have h101c := h101b.symm
        subst h101c
        rw [M1] at h101a
        subst h101a
        refine r_istore F dX11_symbol_106 (by decide) ?_
        refine r_iload F dX11_symbol_108 rfl ?_
        refine r_bipush (v := 16) F dX11_symbol_110 (by decide) ?_
        refine t_Sv F G htb hlk (k_requireRoom hl _ _) (va_cwS 2 F.2.2.2.2 (zgS km_X11_65 ks_X11_requireRoom kn_X11 ko_X11_requireRoom) rfl rfl rfl hd_yX11_requireRoom ⟨Nat.le_of_ble_eq_true rfl, Nat.le_of_ble_eq_true rfl⟩) rfl rfl (Nat.le_of_ble_eq_true rfl) dX11_symbol_112 ⟨Nat.le_of_ble_eq_true rfl, Nat.le_of_ble_eq_true rfl⟩ (fun E S' h => ⟨h.2.2, Or.inr ⟨hgs, ⟨i, hi, rfl, by have h9 := h.1; rw [nl16, nI_leI (by omega) (by omega)] at h9; rw [hn, nl16, show n = 16 by omega]⟩, h.2.1⟩⟩) (Nat.le_of_ble_eq_true rfl) (Nat.le_of_ble_eq_true rfl) (fun S112 h112 => ?_)
        obtain ⟨h112a, h112b⟩ := h112
        have h112c := h112b.symm
        subst h112c
        have hn7 : n < 16 := by rw [nl16, nI_leI (by omega) (by omega)] at h112a; omega
        refine r_aload_n F dX11_symbol_115 rfl ?_
        refine r_iconst (v := 0) F dX11_symbol_116 (by decide) ?_
        refine r_puti (ci := 11) (k := 6) (id := 1106) (C := RX11) (T := TX11) (N := 8) (ty := .boolean) (ty0 := tyX11) F G rfl (by decide) (by decide) rfl (zinL inG11) (zin kf_X11_51) (fun _ h9 => h9) tyX11_ok nmX11 rfl pd11_6 rfl rfl dX11_symbol_117 A0 ?_
        refine zgen (P := zH t0 X S0 ad (oI W 2 1106 0)) (hH.pi (id := 1106) hR.2.1 rfl rfl (by decide) 0) (fun S hH => ?_)
        have hR1 : Rep (u1 (u1 v 1200 0 0) 1219 0 0) (oI W 2 1106 0) := hR.unl
        obtain ⟨W1, eW⟩ : ∃ W1, W1 = (oI W 2 1106 0) := ⟨_, rfl⟩
        rw [← eW] at hH hR1
        have hZ1 : vZ (u1 (u1 v 1200 0 0) 1219 0 0) := hZ
        have hn1 : ((u1 (u1 v 1200 0 0) 1219 0 0)).1 1204 i = nI n := hn
        have hO1 : cn (u1 (u1 v 1200 0 0) 1219 0 0) 1201 0 ≤ 6 := hn0
        have hi1 : i < cn (u1 (u1 v 1200 0 0) 1219 0 0) 1201 0 := hi
        have hU1 := hR1.2.2.2.1 i hi
        have en1 : cn (u1 (u1 v 1200 0 0) 1219 0 0) 1204 i = n := en
        rw [rpU, en1] at hU1
        have U1 : zA S (ad (100 + 8 * i)) 10 := hH.al hU1.1 rfl hk.1
        have Q2 : zq S 1002 (ad (100 + 8 * i)) = some (ad ((100 + 8 * i) + 6)) := hH.qS hU1.1 rfl (by rw [hk.1]; decide) (hR1.1.q hU1.1 (by decide) hk.1) rfl
        have hfree : ∀ k, k < 2 → ¬ oa W1 ((900 + 2 * (16 * i + n)) + k) := fun k hk9 h9 => by
          rcases hR1.2.2.2.2.2.2.2.1 _ h9 with q | q | q | q | q
          · omega
          · omega
          · omega
          · omega
          · have q3 := q.2.2
            rw [show ((900 + 2 * (16 * i + n)) + k - 900) / 2 = 16 * i + n by omega, show (16 * i + n) % 16 = n by omega, show (16 * i + n) / 16 = i by omega, en1] at q3
            omega
        have hkr0 := kd_y (16 * i + n) (by omega)
        refine r_aload F dX11_symbol_120 rfl ?_
        refine r_getS (ci := 10) (k := 2) (id := 1002) (C := RX9) (T := TX9) (N := 3) F G rfl (by decide) (by decide) rfl (zinL inG10) (zin kf_X11_138) (fun _ h9 => h9) dX11_symbol_122 U1 Q2 ?_
        refine r_new (ci := 9) (C := RX8) (T := TX8) (N := 8) (ty0 := tyX8) F G rfl (by decide) (zinL inG9) tyX8_ok dvG9 (zin kc_X11_141) (zin kb_X8) (zin kn_X8) (by decide) (by decide) dX11_symbol_125 (fun q125 hq125 => ?_)
        have hB0 : ¬ oa W1 (900 + 2 * (16 * i + n)) := hfree 0 (by omega)
        have hH2 := hH.newo hB0 (by omega) hq125 hkr0 (by decide)
        obtain ⟨ad2, ead2⟩ : ∃ x, x = va_up ad (900 + 2 * (16 * i + n)) q125 := ⟨_, rfl⟩
        obtain ⟨W2, eW2⟩ : ∃ x, x = va_up W1 (900 + 2 * (16 * i + n)) eNo := ⟨_, rfl⟩
        rw [← ead2, ← eW2] at hH2
        have a2B : ad2 (900 + 2 * (16 * i + n)) = q125 := by rw [ead2]; exact va_up_self _ _ _
        have a2o : ∀ d, d ≠ (900 + 2 * (16 * i + n)) → ad d = ad2 d := fun d hd => by rw [ead2]; exact (va_up_ne _ _ hd).symm
        have w2B : W2 (900 + 2 * (16 * i + n)) = eNo := by rw [eW2]; exact va_up_self _ _ _
        have w2o : ∀ d, d ≠ (900 + 2 * (16 * i + n)) → W2 d = W1 d := fun d hd => by rw [eW2]; exact va_up_ne _ _ hd
        rw [a2o 2 (by omega), a2o (100 + 8 * i) (by omega), a2o ((100 + 8 * i) + 6) (by omega)]
        refine zgen (P := zH t0 X S0 ad2 W2) hH2 (fun S hH => ?_)
        refine r_dup F dX11_symbol_128 rfl ?_
        refine r_bipush (v := 100) F dX11_symbol_129 (by decide) ?_
        refine r_iload_n F dX11_symbol_131 rfl ?_
        refine r_imul F dX11_symbol_132 ?_
        refine r_iload F dX11_symbol_133 rfl ?_
        refine r_iadd F dX11_symbol_135 ?_
        refine r_iload_n F dX11_symbol_136 rfl ?_
        refine r_iload_n F dX11_symbol_137 rfl ?_
        refine r_iload F dX11_symbol_138 rfl ?_
        refine r_aloadQ (x := none) F dX11_symbol_140 rfl ?_
        refine r_aloadQ (x := none) F dX11_symbol_142 rfl ?_
        refine r_iload F dX11_symbol_144 rfl ?_
        rw [show (100 : Int32) * nI i + nI n = nI (100 * i + n) by rw [show (100 : Int32) = nI 100 from rfl, nI_mul, nI_add]]
        refine c_Iv F G (c_SymbolInitN hH (n := (900 + 2 * (16 * i + n))) a2B hkr0 (by omega) w2B) (cwI 7 F.2.2.2.2 (zgI ko_X8_init) rfl rfl rfl (F.2.2.2.2 _ (zin kn_X8)) (F.2.2.2.2 _ (zin km_X11_143)) (F.2.2.2.2 _ (zin ki_X8_init)) rfl hd_yX8_init ⟨Nat.le_of_ble_eq_true rfl, Nat.le_of_ble_eq_true rfl⟩) rfl rfl (Nat.le_of_ble_eq_true rfl) dX11_symbol_146 ⟨Nat.le_of_ble_eq_true rfl, Nat.le_of_ble_eq_true rfl⟩ (fun S146 h146 => ?_)
        obtain ⟨ad3, W3, hH3, g3, w3o, w3B⟩ := h146
        have a3B : ad3 (900 + 2 * (16 * i + n)) = q125 := (g3 (900 + 2 * (16 * i + n))).trans a2B
        have hl3 : vl W3 ((100 + 8 * i) + 6) n (fun j => 900 + 2 * (16 * i + j)) := hU1.2.2.2.same ((w3o _ (by omega)).trans (w2o _ (by omega))) ((w3o _ (by omega)).trans (w2o _ (by omega)))
        have hB3 : oa W3 (900 + 2 * (16 * i + n)) := oa_eq w3B trivial
        have hm : ad2 ((100 + 8 * i) + 6) = ad3 ((100 + 8 * i) + 6) := (g3 _).symm
        rw [hm, ← a3B]
        have M3 : zA S146 (ad3 ((100 + 8 * i) + 6)) 0 := hl3.al hH3 hk.2.2.2.2.2.1 rfl
        have hrow := hl3.row hH3 hk.2.2.2.2.2.2 (ci := 9) (fun j2 hj2 => kd_y (16 * i + j2) (by omega)) (by omega)
        have hch := chb n (by omega)
        refine c_Fi (ci := 0) F G (k_add M3 (hl3.E hH3 hk.2.2.2.2.2.1 rfl) (hl3.z hH3 hk.2.2.2.2.2.1 rfl) (ci := 9) (by decide) rfl (List.mem_of_getElem? (i := 8) rfl) (hH3.al hB3 rfl hkr0) hrow) (va_cwF 1 F.2.2.2.2 (zgF km_X11_72 ke_Jx4a65c_Jxbd725_add ki_Jx4a65c_add_9ea2d kn_Jx4a65c ko_Jx4a65c_add_9ea2d) rfl rfl rfl (G.2.2.2.2.1 (⟨"java/util/List", "add", "(Ljava/lang/Object;)Z"⟩, yJx4a65c_add_9ea2d) (List.mem_of_getElem? (i := 3) rfl)) hdF_add ⟨Nat.le_of_ble_eq_true rfl, Nat.le_of_ble_eq_true rfl⟩) rfl (by decide) M3 rfl rfl (Nat.le_of_ble_eq_true rfl) dX11_symbol_149 ⟨by show _ + chC n ≤ 14; omega, by show _ + chS n ≤ 140; omega⟩ (fun r149 S149 h149 => ?_)
        obtain ⟨q1, h149⟩ := h149
        obtain ⟨ad4, W4, hH4, g4, hl4, w4o⟩ := hl3.add hH3 (by omega) hk.2.2.2.2.2.1 hk.2.2.2.2.2.2 hB3 (by omega) rfl rfl h149
        refine r_pop F dX11_symbol_154 rfl ?_
        refine r_iload F dX11_symbol_155 rfl ?_
        have hR4 := hR1.sym hO1 hZ1 (nm := x1) (ki := 1) (b := x3) (df := (-1)) (fo := x5) hi1 hn1 hn7 (fun d d0 e1 e2 => (w4o d e1 e2).trans ((w3o d d0).trans (w2o d d0))) (hl4.cg (fun j2 hj2 => by
          by_cases e9 : j2 = n
          · subst e9; exact va_up_self _ _ _
          · exact va_up_ne _ _ e9)) (((w4o _ (by omega) (by omega)).trans w3B).trans (by rw [if_neg (fun h9 => h9.2 rfl), if_neg (fun h9 => h9.2 rfl)]))
        have e9 : v.1 1204 i + 1 = nI (n + 1) := by rw [hn]; exact nI_add _ 1
        have hkeep : keepA W ad ad4 := fun d hd hev => by
          have hd1 : oa W1 d := by rw [eW]; exact (oaI hR.2.1).mpr hd
          have h9 : ∀ k, k < 2 → d ≠ (900 + 2 * (16 * i + n)) + k := fun k hk9 e9 => hfree k hk9 (e9 ▸ hd1)
          rw [g4 d (by omega), g3 d, a2o d (h9 0 (by omega))]
        refine x_iret F hr hlk ⟨hgs, i, hi, rfl, fun h9 => by rw [hn, nl16, nI_eq (by omega) (by omega)] at h9; omega, hn.symm, ad4, W4, hH4, hkeep, ?_, fun d q1 q2 => ((w4o d (by omega) (by omega)).trans ((w3o d (by omega)).trans (w2o d (by omega)))).trans (by rw [eW]; exact va_up_ne _ _ (by omega))⟩ (by show _ + chC n ≤ 14; omega) (by show _ + chS n ≤ 140; omega) dX11_symbol_157
        show Rep (u1 (u1 (u1 (u1 (u1 (u1 (u1 (u1 v 1200 0 0) 1219 0 0) 1214 (16 * i + cn v 1204 i) x1) 1215 (16 * i + cn v 1204 i) 1) 1216 (16 * i + cn v 1204 i) x3) 1217 (16 * i + cn v 1204 i) (-1)) 1218 (16 * i + cn v 1204 i) x5) 1204 i (v.1 1204 i + 1)) W4
        rw [e9, en]
        exact hR4
      · refine r_aloadQ (x := none) F dX11_symbol_65 rfl ?_
        refine r_ifnonnullN F dX11_symbol_67 ?_
        refine r_aloadQ (x := none) F dX11_symbol_70 rfl ?_
        refine r_ifnullN (tgt := 79) F dX11_symbol_72 (by decide) ?_
        refine r_iconst (v := 0) F dX11_symbol_79 (by decide) ?_
        refine t_Sv F G htb hlk (k_require hl _) (va_cwS 1 F.2.2.2.2 (zgS km_X11_102 ks_X11_require kn_X11 ko_X11_require) rfl rfl rfl hd_yX11_require ⟨Nat.le_of_ble_eq_true rfl, Nat.le_of_ble_eq_true rfl⟩) rfl rfl (Nat.le_of_ble_eq_true rfl) dX11_symbol_80 ⟨Nat.le_of_ble_eq_true rfl, Nat.le_of_ble_eq_true rfl⟩ (fun E S' h => ⟨h.2.2, Or.inl ⟨fun q => by obtain ⟨i2, j2, q1, q2, q3, q4⟩ := (q.2.2.2.2.1 c62).2 (by decide); have q5 := (nI_eq (by omega) (by omega)).mp q2; subst q5; exact h50n j2 q3 q4, h.2.1⟩⟩) (Nat.le_of_ble_eq_true rfl) (Nat.le_of_ble_eq_true rfl) (fun S80 h80 => ?_)
        exact absurd rfl h80.1
