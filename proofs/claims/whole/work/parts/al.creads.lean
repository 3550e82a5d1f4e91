def cntC (v0 : zV) (x : Int32) : Int32 := if x = 0 then nI (mdB v0 (wdF v0 48).1 (wdF v0 48).2).length else if x = 1 then nI (pS v0 1202 6) else if x = 2 then nI (wdF v0 48).1.length else if x = 3 then nI (wdF v0 48).2.length else nI (aS v0 24)
theorem tgt_no {v : zV} (hK : kEq v) {y : Nat} (hy : y < 96) (ht : y % 16 < cn v 1204 (y / 16)) (hk : ¬ v.1 1215 y = 0) : tgt v y = none := by
  unfold tgt
  cases hs : src v y with
  | none => rfl
  | some z =>
    show (if v.1 1215 z = 0 ∧ ¬ v.1 1217 z = -1 then some _ else none) = none
    refine if_neg (fun h9 => ?_)
    have hm := (src_mng hs).2 h9.2
    rw [hK y hy ht z hm] at h9
    exact hk h9.1
set_option maxRecDepth 100000 in
set_option maxHeartbeats 4000000 in
theorem c_count {l : Launch} {N0 t0 : Nat} {D : va_G} {cy : Nat → ClassId} {S : zS} (hl : l.stackTraces = false) {X : Nat → Prop} {S0 : zS} {ad : Nat → Nat} {W : zO} (hH : zH t0 X S0 ad W S) {v v0 : zV} (hR : Rep v W) (hv : vRg v) (hK : v.1 1219 0 = 1 → LK v0 W) (h01 : v.1 1219 0 = 0 ∨ v.1 1219 0 = 1) {x : Int32} : zTi l yX11_count (zws yX11_count cX11_count 2 (some .int)) { frames := 8, cells := 2, slots := 12, locals := 130 } N0 t0 D cy S [.ref (ad 2), .int x] (fun r S' => pIn x 0 4 ∧ v.1 1219 0 = 1 ∧ r = cntC v0 x ∧ S' = S) (fun E S' => S' = S ∧ ((¬ pIn x 0 4 ∧ E = zIAE) ∨ (pIn x 0 4 ∧ v.1 1219 0 = 0 ∧ E = zISE))) 2 12 := by
  refine zTi.of (cc := cX11_count) (maxL := 2) (ret := (some .int)) (by decide) rfl (Nat.le_of_ble_eq_true rfl) ?_
  intro p e s m args below meth c F G hr hlk hnm htb
  have a2 := hR.2.1
  have hw := hR.1
  have A0 : zA S (ad 2) 11 := hH.al a2 rfl rfl
  have I6 : zi S 1106 (ad 2) = v.1 1219 0 := (hH.i a2 rfl (by decide)).trans hR.2.2.2.2.2.2.2.2.1
  refine r_iload_n F dX11_count_0 rfl ?_
  refine r_iconst (v := 4) F dX11_count_1 (by decide) ?_
  refine t_Sv F G htb hlk (k_requireWithin hl _ _) (va_cwS 2 F.2.2.2.2 (zgS km_X11_80 ks_X11_requireWithin kn_X11 ko_X11_requireWithin) rfl rfl rfl hd_yX11_requireWithin ⟨Nat.le_of_ble_eq_true rfl, Nat.le_of_ble_eq_true rfl⟩) rfl rfl (Nat.le_of_ble_eq_true rfl) dX11_count_2 ⟨Nat.le_of_ble_eq_true rfl, Nat.le_of_ble_eq_true rfl⟩ (fun E S' h => ⟨h.2.2, Or.inl ⟨h.1, h.2.1⟩⟩) (Nat.le_of_ble_eq_true rfl) (Nat.le_of_ble_eq_true rfl) (fun S2 h2 => ?_)
  obtain ⟨h2a, h2b⟩ := h2
  have h2c := h2b.symm
  subst h2c
  refine r_aload_n F dX11_count_5 rfl ?_
  refine r_getiS (ci := 11) (k := 6) (id := 1106) (C := RX11) (T := TX11) (N := 8) F G rfl (by decide) (by decide) rfl (zinL inG11) (zin kf_X11_51) (fun _ h9 => h9) dX11_count_6 A0 I6 ?_
  refine t_Sv F G htb hlk (k_requireState hl _) (va_cwS 1 F.2.2.2.2 (zgS km_X11_150 ks_X11_requireState kn_X11 ko_X11_requireState) rfl rfl rfl hd_yX11_requireState ⟨Nat.le_of_ble_eq_true rfl, Nat.le_of_ble_eq_true rfl⟩) rfl rfl (Nat.le_of_ble_eq_true rfl) dX11_count_9 ⟨Nat.le_of_ble_eq_true rfl, Nat.le_of_ble_eq_true rfl⟩ (fun E S' h => ⟨h.2.2, Or.inr ⟨h2a, (by have h9 := h.1; first | rw [I6] at h9; exact h9 | exact h9), h.2.1⟩⟩) (Nat.le_of_ble_eq_true rfl) (Nat.le_of_ble_eq_true rfl) (fun S9 h9 => ?_)
  obtain ⟨h9a, h9b⟩ := h9
  have h9c := h9b.symm
  subst h9c
  have hl1 : v.1 1219 0 = 1 := h01.resolve_left (fun h9 => h9a (by first | rw [I6]; exact h9 | exact h9))
  obtain ⟨hnB, hLd, hxR, e307, km, hM⟩ := hK hl1
  have a10 := hLd.2.2.2.2.2.2.2.2.1
  have a12 := hLd.2.2.2.2.2.2.2.2.2.1
  have II := yI hLd hH (fun _ _ _ _ => rfl)
  have Q10 : zq S 1103 (ad 2) = some (ad 10) := hH.qS a2 rfl (by decide) (hw.q a2 (by decide) rfl) rfl
  have Q12 : zq S 1104 (ad 2) = some (ad 12) := hH.qS a2 rfl (by decide) (hw.q a2 (by decide) rfl) rfl
  have A12 : zA S (ad 12) 5 := hH.al a12 rfl rfl
  have Q44 : zq S 500 (ad 12) = some (ad 44) := hH.qS a12 rfl (by decide) (hw.q a12 (by decide) rfl) rfl
  have A44 : zA S (ad 44) 1 := hH.al hM.2.1 rfl rfl
  have I44 : zi S 101 (ad 44) = nI ((mdB v0 (wdF v0 48).1 (wdF v0 48).2)).length := (hH.i hM.2.1 rfl (by decide)).trans hM.2.2.2.2.2.1
  have I307 : zi S 307 (ad 10) = nI (aS v0 24) := (hH.i a10 rfl (by decide)).trans e307
  obtain ⟨w, hw4, ew⟩ := (pIn_iff (n := 4) rfl).mp h2a
  subst ew
  refine r_iload_n F dX11_count_12 rfl ?_
  rcases (show (w = 0) ∨ (w = 1) ∨ (w = 2) ∨ (w = 3) ∨ (w = 4) by omega) with w1 | w1 | w1 | w1 | w1
  · refine r_table (off := 31) (tgt := 44) F dX11_count_13 ((show ∀ w : Nat, w < 5 → (w = 0) → (if (nI w).toInt < 0 ∨ 3 < (nI w).toInt then some (76 : Int) else (#[31, 42, 55, 63] : Array Int)[((nI w).toInt - 0).toNat]?) = some (31 : Int) from by decide) w (by omega) w1) (by decide) ?_
    refine r_aload_n F dX11_count_44 rfl ?_
    refine r_getS (ci := 11) (k := 4) (id := 1104) (C := RX11) (T := TX11) (N := 8) F G rfl (by decide) (by decide) rfl (zinL inG11) (zin kf_X11_40) (fun _ h9 => h9) dX11_count_45 A0 Q12 ?_
    refine r_getS (ci := 5) (k := 0) (id := 500) (C := RX4) (T := TX4) (N := 3) F G rfl (by decide) (by decide) rfl (zinL inG5) (zin kf_X11_172) (fun _ h9 => h9) dX11_count_48 A12 Q44 ?_
    refine r_getiS (ci := 1) (k := 1) (id := 101) (C := RX0) (T := TX0) (N := 2) F G rfl (by decide) (by decide) rfl (zinL inG1) (zin kf_X11_176) (fun _ h9 => h9) dX11_count_51 A44 I44 ?_
    exact x_iret F hr hlk ⟨h2a, hl1, by rw [w1]; unfold cntC; rw [if_pos (by decide)], rfl⟩ (by decide) (by decide) dX11_count_54
  · refine r_table (off := 42) (tgt := 55) F dX11_count_13 ((show ∀ w : Nat, w < 5 → (w = 1) → (if (nI w).toInt < 0 ∨ 3 < (nI w).toInt then some (76 : Int) else (#[31, 42, 55, 63] : Array Int)[((nI w).toInt - 0).toNat]?) = some (42 : Int) from by decide) w (by omega) w1) (by decide) ?_
    refine r_aload_n F dX11_count_55 rfl ?_
    refine r_getS (ci := 11) (k := 3) (id := 1103) (C := RX11) (T := TX11) (N := 8) F G rfl (by decide) (by decide) rfl (zinL inG11) (zin kf_X11_33) (fun _ h9 => h9) dX11_count_56 A0 Q10 ?_
    refine r_getS (ci := 3) (k := 0) (id := 300) (C := RX2) (T := TX2) (N := 8) F G rfl (by decide) (by decide) rfl (zinL inG3) (zin kf_X11_179) (fun _ h9 => h9) dX11_count_59 II.1 II.2.2.2.2.1 ?_
    refine c_Fi (ci := 0) F G (k_ListSize II.2.2.2.2.2.2.2.1) (va_cwF 0 F.2.2.2.2 (zgF km_X11_59 ke_Jx4a65c_Jxbd725_size ki_Jx4a65c_size_8abf5 kn_Jx4a65c ko_Jx4a65c_size_8abf5) rfl rfl rfl (G.2.2.2.2.1 (⟨"java/util/List", "size", "()I"⟩, yJx4a65c_size_8abf5) (List.mem_of_getElem? (i := 0) rfl)) hdF_size ⟨Nat.le_of_ble_eq_true rfl, Nat.le_of_ble_eq_true rfl⟩) rfl (by decide) II.2.2.2.2.2.2.2.1 rfl rfl (Nat.le_of_ble_eq_true rfl) dX11_count_62 ⟨Nat.le_of_ble_eq_true rfl, Nat.le_of_ble_eq_true rfl⟩ (fun r62 S62 h62 => ?_)
    obtain ⟨h62a, h62b⟩ := h62
    have h62c := h62b.symm
    subst h62c
    rw [II.2.2.2.2.2.2.2.2.1] at h62a
    subst h62a
    exact x_iret F hr hlk ⟨h2a, hl1, by rw [w1]; unfold cntC; rw [if_neg (by decide)]; rw [if_pos (by decide)], rfl⟩ (by decide) (by decide) dX11_count_67
  · refine r_table (off := 55) (tgt := 68) F dX11_count_13 ((show ∀ w : Nat, w < 5 → (w = 2) → (if (nI w).toInt < 0 ∨ 3 < (nI w).toInt then some (76 : Int) else (#[31, 42, 55, 63] : Array Int)[((nI w).toInt - 0).toNat]?) = some (55 : Int) from by decide) w (by omega) w1) (by decide) ?_
    refine r_aload_n F dX11_count_68 rfl ?_
    refine r_getS (ci := 11) (k := 3) (id := 1103) (C := RX11) (T := TX11) (N := 8) F G rfl (by decide) (by decide) rfl (zinL inG11) (zin kf_X11_33) (fun _ h9 => h9) dX11_count_69 A0 Q10 ?_
    refine r_getiS (ci := 3) (k := 6) (id := 306) (C := RX2) (T := TX2) (N := 8) F G rfl (by decide) (by decide) rfl (zinL inG3) (zin kf_X11_180) (fun _ h9 => h9) dX11_count_72 II.1 II.2.1 ?_
    exact x_iret F hr hlk ⟨h2a, hl1, by rw [w1]; unfold cntC; rw [if_neg (by decide)]; rw [if_neg (by decide)]; rw [if_pos (by decide)], rfl⟩ (by decide) (by decide) dX11_count_75
  · refine r_table (off := 63) (tgt := 76) F dX11_count_13 ((show ∀ w : Nat, w < 5 → (w = 3) → (if (nI w).toInt < 0 ∨ 3 < (nI w).toInt then some (76 : Int) else (#[31, 42, 55, 63] : Array Int)[((nI w).toInt - 0).toNat]?) = some (63 : Int) from by decide) w (by omega) w1) (by decide) ?_
    refine r_aload_n F dX11_count_76 rfl ?_
    refine r_getS (ci := 11) (k := 3) (id := 1103) (C := RX11) (T := TX11) (N := 8) F G rfl (by decide) (by decide) rfl (zinL inG11) (zin kf_X11_33) (fun _ h9 => h9) dX11_count_77 A0 Q10 ?_
    refine r_getS (ci := 3) (k := 3) (id := 303) (C := RX2) (T := TX2) (N := 8) F G rfl (by decide) (by decide) rfl (zinL inG3) (zin kf_X11_183) (fun _ h9 => h9) dX11_count_80 II.1 II.2.2.2.2.2.2.1 ?_
    refine c_Fi (ci := 0) F G (k_ListSize II.2.2.2.2.2.2.2.2.2.2.2.1) (va_cwF 0 F.2.2.2.2 (zgF km_X11_59 ke_Jx4a65c_Jxbd725_size ki_Jx4a65c_size_8abf5 kn_Jx4a65c ko_Jx4a65c_size_8abf5) rfl rfl rfl (G.2.2.2.2.1 (⟨"java/util/List", "size", "()I"⟩, yJx4a65c_size_8abf5) (List.mem_of_getElem? (i := 0) rfl)) hdF_size ⟨Nat.le_of_ble_eq_true rfl, Nat.le_of_ble_eq_true rfl⟩) rfl (by decide) II.2.2.2.2.2.2.2.2.2.2.2.1 rfl rfl (Nat.le_of_ble_eq_true rfl) dX11_count_83 ⟨Nat.le_of_ble_eq_true rfl, Nat.le_of_ble_eq_true rfl⟩ (fun r83 S83 h83 => ?_)
    obtain ⟨h83a, h83b⟩ := h83
    have h83c := h83b.symm
    subst h83c
    rw [II.2.2.2.2.2.2.2.2.2.2.2.2] at h83a
    subst h83a
    exact x_iret F hr hlk ⟨h2a, hl1, by rw [w1]; unfold cntC; rw [if_neg (by decide)]; rw [if_neg (by decide)]; rw [if_neg (by decide)]; rw [if_pos (by decide)], rfl⟩ (by decide) (by decide) dX11_count_88
  · refine r_table (off := 76) (tgt := 89) F dX11_count_13 ((show ∀ w : Nat, w < 5 → (w = 4) → (if (nI w).toInt < 0 ∨ 3 < (nI w).toInt then some (76 : Int) else (#[31, 42, 55, 63] : Array Int)[((nI w).toInt - 0).toNat]?) = some (76 : Int) from by decide) w (by omega) w1) (by decide) ?_
    refine r_aload_n F dX11_count_89 rfl ?_
    refine r_getS (ci := 11) (k := 3) (id := 1103) (C := RX11) (T := TX11) (N := 8) F G rfl (by decide) (by decide) rfl (zinL inG11) (zin kf_X11_33) (fun _ h9 => h9) dX11_count_90 A0 Q10 ?_
    refine r_getiS (ci := 3) (k := 7) (id := 307) (C := RX2) (T := TX2) (N := 8) F G rfl (by decide) (by decide) rfl (zinL inG3) (zin kf_X11_186) (fun _ h9 => h9) dX11_count_93 II.1 I307 ?_
    exact x_iret F hr hlk ⟨h2a, hl1, by rw [w1]; unfold cntC; rw [if_neg (by decide)]; rw [if_neg (by decide)]; rw [if_neg (by decide)]; rw [if_neg (by decide)], rfl⟩ (by decide) (by decide) dX11_count_96
set_option maxRecDepth 100000 in
set_option maxHeartbeats 4000000 in
theorem c_byteAt {l : Launch} {N0 t0 : Nat} {D : va_G} {cy : Nat → ClassId} {S : zS} (hl : l.stackTraces = false) {X : Nat → Prop} {S0 : zS} {ad : Nat → Nat} {W : zO} (hH : zH t0 X S0 ad W S) {v v0 : zV} (hR : Rep v W) (hv : vRg v) (hK : v.1 1219 0 = 1 → LK v0 W) (h01 : v.1 1219 0 = 0 ∨ v.1 1219 0 = 1) {x : Int32} (hlen : v.1 1219 0 = 1 → (mdB v0 (wdF v0 48).1 (wdF v0 48).2).length ≤ 40000) : zTi l yX11_byteAt (zws yX11_byteAt cX11_byteAt 2 (some .int)) { frames := 8, cells := 2, slots := 12, locals := 130 } N0 t0 D cy S [.ref (ad 2), .int x] (fun r S' => v.1 1219 0 = 1 ∧ ∃ k, k < (mdB v0 (wdF v0 48).1 (wdF v0 48).2).length ∧ x = nI k ∧ r = (mdB v0 (wdF v0 48).1 (wdF v0 48).2).getD k 0 &&& 255 ∧ S' = S) (fun E S' => S' = S ∧ (((x < 0 ∨ (v.1 1219 0 = 1 ∧ ∀ k, k < (mdB v0 (wdF v0 48).1 (wdF v0 48).2).length → ¬ x = nI k)) ∧ E = zIAE) ∨ (¬ x < 0 ∧ v.1 1219 0 = 0 ∧ E = zISE))) 2 12 := by
  refine zTi.of (cc := cX11_byteAt) (maxL := 2) (ret := (some .int)) (by decide) rfl (Nat.le_of_ble_eq_true rfl) ?_
  intro p e s m args below meth c F G hr hlk hnm htb
  have a2 := hR.2.1
  have hw := hR.1
  have A0 : zA S (ad 2) 11 := hH.al a2 rfl rfl
  have I6 : zi S 1106 (ad 2) = v.1 1219 0 := (hH.i a2 rfl (by decide)).trans hR.2.2.2.2.2.2.2.2.1
  refine r_iload_n F dX11_byteAt_0 rfl ?_
  refine r_if_lt (tgt := 29) F dX11_byteAt_1 (by decide) (fun c1 => ?_) (fun c1 => ?_)
  · refine r_iconst (v := 0) F dX11_byteAt_29 (by decide) ?_
    refine t_Sv F G htb hlk (k_require hl _) (va_cwS 1 F.2.2.2.2 (zgS km_X11_102 ks_X11_require kn_X11 ko_X11_require) rfl rfl rfl hd_yX11_require ⟨Nat.le_of_ble_eq_true rfl, Nat.le_of_ble_eq_true rfl⟩) rfl rfl (Nat.le_of_ble_eq_true rfl) dX11_byteAt_30 ⟨Nat.le_of_ble_eq_true rfl, Nat.le_of_ble_eq_true rfl⟩ (fun E S' h => ⟨h.2.2, Or.inl ⟨Or.inl c1, h.2.1⟩⟩) (Nat.le_of_ble_eq_true rfl) (Nat.le_of_ble_eq_true rfl) (fun S30 h30 => ?_)
    exact absurd rfl h30.1
  · refine r_aload_n F dX11_byteAt_4 rfl ?_
    refine r_getiS (ci := 11) (k := 6) (id := 1106) (C := RX11) (T := TX11) (N := 8) F G rfl (by decide) (by decide) rfl (zinL inG11) (zin kf_X11_51) (fun _ h9 => h9) dX11_byteAt_5 A0 I6 ?_
    refine r_if_eq (tgt := 25) F dX11_byteAt_8 (by decide) (fun c8 => ?_) (fun c8 => ?_)
    · refine r_iconst (v := 1) F dX11_byteAt_25 (by decide) ?_
      refine r_goto (tgt := 30) F dX11_byteAt_26 (by decide) ?_
      refine t_Sv F G htb hlk (k_require hl _) (va_cwS 1 F.2.2.2.2 (zgS km_X11_102 ks_X11_require kn_X11 ko_X11_require) rfl rfl rfl hd_yX11_require ⟨Nat.le_of_ble_eq_true rfl, Nat.le_of_ble_eq_true rfl⟩) rfl rfl (Nat.le_of_ble_eq_true rfl) dX11_byteAt_30 ⟨Nat.le_of_ble_eq_true rfl, Nat.le_of_ble_eq_true rfl⟩ (fun E S' h => absurd h.1 (by decide)) (Nat.le_of_ble_eq_true rfl) (Nat.le_of_ble_eq_true rfl) (fun S30 h30 => ?_)
      obtain ⟨h30a, h30b⟩ := h30
      have h30c := h30b.symm
      subst h30c
      refine r_aload_n F dX11_byteAt_33 rfl ?_
      refine r_getiS (ci := 11) (k := 6) (id := 1106) (C := RX11) (T := TX11) (N := 8) F G rfl (by decide) (by decide) rfl (zinL inG11) (zin kf_X11_51) (fun _ h9 => h9) dX11_byteAt_34 A0 I6 ?_
      refine t_Sv F G htb hlk (k_requireState hl _) (va_cwS 1 F.2.2.2.2 (zgS km_X11_150 ks_X11_requireState kn_X11 ko_X11_requireState) rfl rfl rfl hd_yX11_requireState ⟨Nat.le_of_ble_eq_true rfl, Nat.le_of_ble_eq_true rfl⟩) rfl rfl (Nat.le_of_ble_eq_true rfl) dX11_byteAt_37 ⟨Nat.le_of_ble_eq_true rfl, Nat.le_of_ble_eq_true rfl⟩ (fun E S' h => ⟨h.2.2, Or.inr ⟨c1, c8, h.2.1⟩⟩) (Nat.le_of_ble_eq_true rfl) (Nat.le_of_ble_eq_true rfl) (fun S37 h37 => ?_)
      exact absurd c8 h37.1
    · have hl1 : v.1 1219 0 = 1 := h01.resolve_left c8
      obtain ⟨hnB, hLd, hxR, e307, km, hM⟩ := hK hl1
      have a10 := hLd.2.2.2.2.2.2.2.2.1
      have a12 := hLd.2.2.2.2.2.2.2.2.2.1
      have II := yI hLd hH (fun _ _ _ _ => rfl)
      have Q10 : zq S 1103 (ad 2) = some (ad 10) := hH.qS a2 rfl (by decide) (hw.q a2 (by decide) rfl) rfl
      have Q12 : zq S 1104 (ad 2) = some (ad 12) := hH.qS a2 rfl (by decide) (hw.q a2 (by decide) rfl) rfl
      have A12 : zA S (ad 12) 5 := hH.al a12 rfl rfl
      have Q44 : zq S 500 (ad 12) = some (ad 44) := hH.qS a12 rfl (by decide) (hw.q a12 (by decide) rfl) rfl
      have A44 : zA S (ad 44) 1 := hH.al hM.2.1 rfl rfl
      have I44 : zi S 101 (ad 44) = nI ((mdB v0 (wdF v0 48).1 (wdF v0 48).2)).length := (hH.i hM.2.1 rfl (by decide)).trans hM.2.2.2.2.2.1
      have I307 : zi S 307 (ad 10) = nI (aS v0 24) := (hH.i a10 rfl (by decide)).trans e307
      refine r_iload_n F dX11_byteAt_11 rfl ?_
      refine r_aload_n F dX11_byteAt_12 rfl ?_
      refine r_getS (ci := 11) (k := 4) (id := 1104) (C := RX11) (T := TX11) (N := 8) F G rfl (by decide) (by decide) rfl (zinL inG11) (zin kf_X11_40) (fun _ h9 => h9) dX11_byteAt_13 A0 Q12 ?_
      refine r_getS (ci := 5) (k := 0) (id := 500) (C := RX4) (T := TX4) (N := 3) F G rfl (by decide) (by decide) rfl (zinL inG5) (zin kf_X11_172) (fun _ h9 => h9) dX11_byteAt_16 A12 Q44 ?_
      refine r_getiS (ci := 1) (k := 1) (id := 101) (C := RX0) (T := TX0) (N := 2) F G rfl (by decide) (by decide) rfl (zinL inG1) (zin kf_X11_176) (fun _ h9 => h9) dX11_byteAt_19 A44 I44 ?_
      refine r_icmp_ge (tgt := 29) F dX11_byteAt_22 (by decide) (fun c22 => ?_) (fun c22 => ?_)
      · refine r_iconst (v := 0) F dX11_byteAt_29 (by decide) ?_
        refine t_Sv F G htb hlk (k_require hl _) (va_cwS 1 F.2.2.2.2 (zgS km_X11_102 ks_X11_require kn_X11 ko_X11_require) rfl rfl rfl hd_yX11_require ⟨Nat.le_of_ble_eq_true rfl, Nat.le_of_ble_eq_true rfl⟩) rfl rfl (Nat.le_of_ble_eq_true rfl) dX11_byteAt_30 ⟨Nat.le_of_ble_eq_true rfl, Nat.le_of_ble_eq_true rfl⟩ (fun E S' h => ⟨h.2.2, Or.inl ⟨Or.inr ⟨hl1, fun k hk e => by rw [e, nI_leI (by have := hlen hl1; omega) (by have := hlen hl1; omega)] at c22; omega⟩, h.2.1⟩⟩) (Nat.le_of_ble_eq_true rfl) (Nat.le_of_ble_eq_true rfl) (fun S30 h30 => ?_)
        exact absurd rfl h30.1
      · refine r_iconst (v := 1) F dX11_byteAt_25 (by decide) ?_
        refine r_goto (tgt := 30) F dX11_byteAt_26 (by decide) ?_
        refine t_Sv F G htb hlk (k_require hl _) (va_cwS 1 F.2.2.2.2 (zgS km_X11_102 ks_X11_require kn_X11 ko_X11_require) rfl rfl rfl hd_yX11_require ⟨Nat.le_of_ble_eq_true rfl, Nat.le_of_ble_eq_true rfl⟩) rfl rfl (Nat.le_of_ble_eq_true rfl) dX11_byteAt_30 ⟨Nat.le_of_ble_eq_true rfl, Nat.le_of_ble_eq_true rfl⟩ (fun E S' h => absurd h.1 (by decide)) (Nat.le_of_ble_eq_true rfl) (Nat.le_of_ble_eq_true rfl) (fun S30 h30 => ?_)
        obtain ⟨h30a, h30b⟩ := h30
        have h30c := h30b.symm
        subst h30c
        refine r_aload_n F dX11_byteAt_33 rfl ?_
        refine r_getiS (ci := 11) (k := 6) (id := 1106) (C := RX11) (T := TX11) (N := 8) F G rfl (by decide) (by decide) rfl (zinL inG11) (zin kf_X11_51) (fun _ h9 => h9) dX11_byteAt_34 A0 I6 ?_
        refine t_Sv F G htb hlk (k_requireState hl _) (va_cwS 1 F.2.2.2.2 (zgS km_X11_150 ks_X11_requireState kn_X11 ko_X11_requireState) rfl rfl rfl hd_yX11_requireState ⟨Nat.le_of_ble_eq_true rfl, Nat.le_of_ble_eq_true rfl⟩) rfl rfl (Nat.le_of_ble_eq_true rfl) dX11_byteAt_37 ⟨Nat.le_of_ble_eq_true rfl, Nat.le_of_ble_eq_true rfl⟩ (fun E S' h => absurd (hl1.symm.trans h.1) (by decide)) (Nat.le_of_ble_eq_true rfl) (Nat.le_of_ble_eq_true rfl) (fun S37 h37 => ?_)
        obtain ⟨h37a, h37b⟩ := h37
        have h37c := h37b.symm
        subst h37c
        have hle := hlen hl1
        obtain ⟨k, hk, ex⟩ : ∃ k, k < (mdB v0 (wdF v0 48).1 (wdF v0 48).2).length ∧ x = nI k := nI_of9 (Int32.not_lt.mp c1) (Int32.not_le.mp c22) (by omega)
        have Q45 : zq S 100 (ad 44) = some (ad 45) := hH.qS hM.2.1 rfl (by decide) hM.2.2.1 rfl
        have hkb := hM.b
        have hnn := hM.2.2.2.2.2.2.1
        have hle2 := hM.2.2.2.2.2.2.2.1
        refine r_aload_n F dX11_byteAt_40 rfl ?_
        refine r_getS (ci := 11) (k := 4) (id := 1104) (C := RX11) (T := TX11) (N := 8) F G rfl (by decide) (by decide) rfl (zinL inG11) (zin kf_X11_40) (fun _ h9 => h9) dX11_byteAt_41 A0 Q12 ?_
        refine r_getS (ci := 5) (k := 0) (id := 500) (C := RX4) (T := TX4) (N := 3) F G rfl (by decide) (by decide) rfl (zinL inG5) (zin kf_X11_172) (fun _ h9 => h9) dX11_byteAt_44 A12 Q44 ?_
        refine r_getS (ci := 1) (k := 0) (id := 100) (C := RX0) (T := TX0) (N := 2) F G rfl (by decide) (by decide) rfl (zinL inG1) (zin kf_X11_189) (fun _ h9 => h9) dX11_byteAt_47 A44 Q45 ?_
        refine r_iload_n F dX11_byteAt_50 rfl ?_
        refine zeq (y := nI k) ex ?_
        refine v_bald F G hH hM.2.2.2.2.1 rfl rfl (by rw [hnn]; omega) (by rw [hnn]; omega) dX11_byteAt_51 ?_
        rw [hM.2.2.2.2.2.2.2.2.2.2 k hk]
        refine r_sipush (v := 255) F dX11_byteAt_52 (by decide) ?_
        refine r_iand F dX11_byteAt_55 ?_
        exact x_iret F hr hlk ⟨hl1, k, hk, ex, rfl, rfl⟩ (by decide) (by decide) dX11_byteAt_56
set_option maxRecDepth 100000 in
set_option maxHeartbeats 4000000 in
theorem c_meant {l : Launch} {N0 t0 : Nat} {D : va_G} {cy : Nat → ClassId} {S : zS} (hl : l.stackTraces = false) {X : Nat → Prop} {S0 : zS} {ad : Nat → Nat} {W : zO} (hH : zH t0 X S0 ad W S) {v v0 : zV} (hR : Rep v W) (hv : vRg v) (hK : v.1 1219 0 = 1 → LK v0 W) (h01 : v.1 1219 0 = 0 ∨ v.1 1219 0 = 1) (hVL : vL v0 v) (hv0 : vRg v0) (hD0 : vD v0) {o yy x : Int32} : zTi l yX11_meant (zws yX11_meant cX11_meant 6 (some .int)) { frames := 8, cells := 4, slots := 24, locals := 123 } N0 t0 D cy S [.ref (ad 2), .int o, .int yy, .int x] (fun r S' => v.1 1219 0 = 1 ∧ pIn x 0 1 ∧ ∃ i j, i < cn v 1201 0 ∧ o = nI i ∧ j < cn v 1204 i ∧ yy = nI j ∧ r = mntR v0 (wdF v0 48).2 (16 * i + j) x ∧ S' = S) (fun E S' => S' = S ∧ ((¬ ((∃ i j, i < cn v 1201 0 ∧ o = nI i ∧ j < cn v 1204 i ∧ yy = nI j) ∧ pIn x 0 1) ∧ E = zIAE) ∨ (((∃ i j, i < cn v 1201 0 ∧ o = nI i ∧ j < cn v 1204 i ∧ yy = nI j) ∧ pIn x 0 1) ∧ v.1 1219 0 = 0 ∧ E = zISE))) 4 24 := by
  refine zTi.of (cc := cX11_meant) (maxL := 6) (ret := (some .int)) (by decide) rfl (Nat.le_of_ble_eq_true rfl) ?_
  intro p e s m args below meth c F G hr hlk hnm htb
  have a2 := hR.2.1
  have hw := hR.1
  have A0 : zA S (ad 2) 11 := hH.al a2 rfl rfl
  have I6 : zi S 1106 (ad 2) = v.1 1219 0 := (hH.i a2 rfl (by decide)).trans hR.2.2.2.2.2.2.2.2.1
  refine r_aload_n F dX11_meant_0 rfl ?_
  refine r_iload_n F dX11_meant_1 rfl ?_
  refine t_Vq (ci := 11) F G htb hlk (c_unitAt hl hH hR hv rfl) (cwV 1 F.2.2.2.2 (zgV km_X11_76 ki_X11_unitAt ke_X11_X11_unitAt kn_X11 ko_X11_unitAt) rfl rfl rfl ⟨rfl, hd_yX11_unitAt⟩ ⟨Nat.le_of_ble_eq_true rfl, Nat.le_of_ble_eq_true rfl⟩) rfl (by decide) A0 rfl rfl (Nat.le_of_ble_eq_true rfl) dX11_meant_2 ⟨Nat.le_of_ble_eq_true rfl, Nat.le_of_ble_eq_true rfl⟩ (fun E S' h => ⟨h.2.2, Or.inl ⟨fun h9 => h.1 (by obtain ⟨⟨i, j, q1, q2, -⟩, -⟩ := h9; exact ⟨i, q1, q2⟩), h.2.1⟩⟩) (Nat.le_of_ble_eq_true rfl) (Nat.le_of_ble_eq_true rfl) (fun r2 S2 h2 => ?_)
  obtain ⟨es2, i, hi, eo, er2⟩ := h2
  have hs2 := es2.symm
  subst hs2
  subst er2
  have hO := (rg_1201 hv (k := 0) (by decide)).2
  have hU := hR.2.2.2.1 i hi
  have hku := kd_u i (by omega)
  have hyb := (rg_1204 hv (k := i) (by omega)).2
  have U0 : zA S (ad (100 + 8 * i)) 10 := hH.al hU.1 rfl hku.1
  refine r_iload_n F dX11_meant_5 rfl ?_
  refine c_Vq (ci := 10) F G (c_symbolAt hH hw hU.1 rfl hku.1 hU.2.2.2 hku.2.2.2.2.2.1 hku.2.2.2.2.2.2 (fun j hj => kd_y (16 * i + j) (by omega)) (by omega)) (cwV 1 F.2.2.2.2 (zgV km_X11_192 ki_X9_symbolAt ke_X9_X9_symbolAt kn_X9 ko_X9_symbolAt) rfl rfl rfl ⟨rfl, hd_yX9_symbolAt⟩ ⟨Nat.le_of_ble_eq_true rfl, Nat.le_of_ble_eq_true rfl⟩) rfl (by decide) U0 rfl rfl (Nat.le_of_ble_eq_true rfl) dX11_meant_6 ⟨Nat.le_of_ble_eq_true rfl, Nat.le_of_ble_eq_true rfl⟩ (fun r6 S6 h6 => ?_)
  obtain ⟨es6, h6⟩ := h6
  have hs6 := es6.symm
  subst hs6
  rcases h6 with ⟨j, hj, ey, er6⟩ | ⟨hno, er6⟩
  · subst er6
    have hY9 : (16 * i + j) < 96 := by omega
    have hT9 : (16 * i + j) % 16 < cn v 1204 ((16 * i + j) / 16) := by rw [show (16 * i + j) / 16 = i by omega]; omega
    have hYj := hR.2.2.2.2.2.2.1 (16 * i + j) hY9 hT9
    have Y0 : zA S (ad (cY (16 * i + j))) 9 := hH.al hYj.1 rfl (kd_y _ hY9)
    refine r_astore (x := ad (cY (16 * i + j))) F dX11_meant_9 (by decide) ?_
    refine r_aload F dX11_meant_11 rfl ?_
    refine r_ifnull F dX11_meant_13 ?_
    refine r_iconst (v := 1) F dX11_meant_16 (by decide) ?_
    refine r_goto (tgt := 21) F dX11_meant_17 (by decide) ?_
    refine t_Sv F G htb hlk (k_require hl _) (va_cwS 1 F.2.2.2.2 (zgS km_X11_102 ks_X11_require kn_X11 ko_X11_require) rfl rfl rfl hd_yX11_require ⟨Nat.le_of_ble_eq_true rfl, Nat.le_of_ble_eq_true rfl⟩) rfl rfl (Nat.le_of_ble_eq_true rfl) dX11_meant_21 ⟨Nat.le_of_ble_eq_true rfl, Nat.le_of_ble_eq_true rfl⟩ (fun E S' h => absurd h.1 (by decide)) (Nat.le_of_ble_eq_true rfl) (Nat.le_of_ble_eq_true rfl) (fun S21 h21 => ?_)
    obtain ⟨h21a, h21b⟩ := h21
    have h21c := h21b.symm
    subst h21c
    refine r_iload_n F dX11_meant_24 rfl ?_
    refine r_iconst (v := 1) F dX11_meant_25 (by decide) ?_
    refine t_Sv F G htb hlk (k_requireWithin hl _ _) (va_cwS 2 F.2.2.2.2 (zgS km_X11_80 ks_X11_requireWithin kn_X11 ko_X11_requireWithin) rfl rfl rfl hd_yX11_requireWithin ⟨Nat.le_of_ble_eq_true rfl, Nat.le_of_ble_eq_true rfl⟩) rfl rfl (Nat.le_of_ble_eq_true rfl) dX11_meant_26 ⟨Nat.le_of_ble_eq_true rfl, Nat.le_of_ble_eq_true rfl⟩ (fun E S' h => ⟨h.2.2, Or.inl ⟨fun h9 => h.1 h9.2, h.2.1⟩⟩) (Nat.le_of_ble_eq_true rfl) (Nat.le_of_ble_eq_true rfl) (fun S26 h26 => ?_)
    obtain ⟨h26a, h26b⟩ := h26
    have h26c := h26b.symm
    subst h26c
    refine r_aload_n F dX11_meant_29 rfl ?_
    refine r_getiS (ci := 11) (k := 6) (id := 1106) (C := RX11) (T := TX11) (N := 8) F G rfl (by decide) (by decide) rfl (zinL inG11) (zin kf_X11_51) (fun _ h9 => h9) dX11_meant_30 A0 I6 ?_
    refine t_Sv F G htb hlk (k_requireState hl _) (va_cwS 1 F.2.2.2.2 (zgS km_X11_150 ks_X11_requireState kn_X11 ko_X11_requireState) rfl rfl rfl hd_yX11_requireState ⟨Nat.le_of_ble_eq_true rfl, Nat.le_of_ble_eq_true rfl⟩) rfl rfl (Nat.le_of_ble_eq_true rfl) dX11_meant_33 ⟨Nat.le_of_ble_eq_true rfl, Nat.le_of_ble_eq_true rfl⟩ (fun E S' h => ⟨h.2.2, Or.inr ⟨⟨⟨i, j, hi, eo, hj, ey⟩, h26a⟩, (by have h9 := h.1; first | rw [I6] at h9; exact h9 | exact h9), h.2.1⟩⟩) (Nat.le_of_ble_eq_true rfl) (Nat.le_of_ble_eq_true rfl) (fun S33 h33 => ?_)
    obtain ⟨h33a, h33b⟩ := h33
    have h33c := h33b.symm
    subst h33c
    have hl1 : v.1 1219 0 = 1 := h01.resolve_left (fun h9 => h33a (by first | rw [I6]; exact h9 | exact h9))
    obtain ⟨hnB, hLd, hxR, e307, km, hM⟩ := hK hl1
    have hKE : kEq v0 := kEq.of (fun z hz h9 => hnB.2.2.2.2.1 (by decide) z hz h9)
    have hT0 : (16 * i + j) % 16 < cn v0 1204 ((16 * i + j) / 16) := by rw [← hVL.c (by omega)]; exact hT9
    have I2 : zi S 902 (ad (cY (16 * i + j))) = v0.1 1215 (16 * i + j) := (hH.i hYj.1 rfl (by rw [kd_y _ hY9]; decide)).trans (hYj.2.2.2.1.trans (hVL 1215 _ (by omega)))
    have hkr := rg_1215 hv0 (k := (16 * i + j)) hY9
    refine r_iload_n F dX11_meant_36 rfl ?_
    refine r_iconst (v := 1) F dX11_meant_37 (by decide) ?_
    refine r_icmp_ne (tgt := 47) F dX11_meant_38 (by decide) (fun c38 => ?_) (fun c38 => ?_)
    · refine r_aload F dX11_meant_47 rfl ?_
      refine r_getiS (ci := 9) (k := 2) (id := 902) (C := RX8) (T := TX8) (N := 8) F G rfl (by decide) (by decide) rfl (zinL inG9) (zin kf_X11_199) (fun _ h9 => h9) dX11_meant_49 Y0 I2 ?_
      refine r_iconst (v := 1) F dX11_meant_52 (by decide) ?_
      refine r_icmp_ne (tgt := 62) F dX11_meant_53 (by decide) (fun c53 => ?_) (fun c53 => ?_)
      · have hx0 : x = 0 := by
          obtain ⟨w9, hw9, ew9⟩ := (pIn_iff (n := 1) rfl).mp h26a
          rcases (show w9 = 0 ∨ w9 = 1 by omega) with e | e
          · rw [ew9, e]; rfl
          · exact absurd (by rw [ew9, e]; rfl) c38
        refine r_aload F dX11_meant_62 rfl ?_
        refine c_Vq (ci := 9) F G (c_target hH hLd.1 hv0 hLd.2.1 hY9 hT0 rfl) (cwV 0 F.2.2.2.2 (zgV km_X11_205 ki_X8_target ke_X8_X8_target kn_X8 ko_X8_target) rfl rfl rfl ⟨rfl, hd_yX8_target⟩ ⟨Nat.le_of_ble_eq_true rfl, Nat.le_of_ble_eq_true rfl⟩) rfl (by decide) Y0 rfl rfl (Nat.le_of_ble_eq_true rfl) dX11_meant_64 ⟨Nat.le_of_ble_eq_true rfl, Nat.le_of_ble_eq_true rfl⟩ (fun r64 S64 h64 => ?_)
        obtain ⟨er64, es64⟩ := h64
        have hs64 := es64.symm
        subst hs64
        subst er64
        have hk0 : v0.1 1215 (16 * i + j) = 0 := by
          have h9 := hkr.2
          rcases (show cn v0 1215 (16 * i + j) = 0 ∨ cn v0 1215 (16 * i + j) = 1 by omega) with e | e
          · rw [hkr.1, e]; rfl
          · exact absurd (by rw [hkr.1, e]; rfl) c53
        rw [tgt_fO (fun z hz => (hKE _ hY9 hT0 z hz).trans hk0) (fun _ => hk0)]
        have hk1 : ¬ v0.1 1215 (16 * i + j) = 1 := c53
        rcases hz : fO v0 (16 * i + j) with _ | g
        · refine r_astoreQ (x := none) F dX11_meant_67 (by decide) ?_
          refine r_aloadQ (x := none) F dX11_meant_69 rfl ?_
          refine r_ifnonnullN F dX11_meant_71 ?_
          refine r_iconst (v := -1) F dX11_meant_74 (by decide) ?_
          refine r_goto (tgt := 83) F dX11_meant_75 (by decide) ?_
          exact x_iret F hr hlk ⟨hl1, h26a, i, j, hi, eo, hj, ey, by unfold mntR; rw [if_neg hk1, if_pos hx0, hz], rfl⟩ (by decide) (by decide) dX11_meant_83
        · have hgt : g < 48 ∧ g % 8 < cn v0 1202 (g / 8) := ⟨fO_lt hv0 hD0 hY9 hT0 hz, fO_th hv0 hD0 hKE hY9 hT0 hk0 hz⟩
          have hRg := hLd.1.2.2.1 g hgt.1 hgt.2
          have hkr2 := (kd_r g hgt.1).1
          have G0 : zA S (ad (200 + 12 * g)) 7 := hH.al hRg.1 rfl hkr2
          have I7 : zi S 711 (ad (200 + 12 * g)) = nI (pN v0 1202 8 g) := (hH.i hRg.1 rfl (by rw [hkr2]; decide)).trans (hLd.2.2.2.2.1 g hgt.1 hgt.2)
          refine r_astore (x := ad (200 + 12 * g)) F dX11_meant_67 (by decide) ?_
          refine r_aload F dX11_meant_69 rfl ?_
          refine r_ifnonnull (tgt := 78) F dX11_meant_71 (by decide) ?_
          refine r_aload F dX11_meant_78 rfl ?_
          refine r_getiS (ci := 7) (k := 11) (id := 711) (C := RX6) (T := TX6) (N := 13) F G rfl (by decide) (by decide) rfl (zinL inG7) (zin kf_X11_209) (fun _ h9 => h9) dX11_meant_80 G0 I7 ?_
          exact x_iret F hr hlk ⟨hl1, h26a, i, j, hi, eo, hj, ey, by unfold mntR; rw [if_neg hk1, if_pos hx0, hz], rfl⟩ (by decide) (by decide) dX11_meant_83
      · have hx0 : x = 0 := by
          obtain ⟨w9, hw9, ew9⟩ := (pIn_iff (n := 1) rfl).mp h26a
          rcases (show w9 = 0 ∨ w9 = 1 by omega) with e | e
          · rw [ew9, e]; rfl
          · exact absurd (by rw [ew9, e]; rfl) c38
        refine r_aload F dX11_meant_56 rfl ?_
        refine c_Vi (ci := 9) F G (c_address hH hLd.1 hv0 hD0 hLd.2.1 hLd.2.2.2.2.2.1 hKE hY9 hT0 rfl (show ¬ v0.1 1215 (16 * i + j) = 0 from fun h9 => by rw [h9] at c53; exact absurd c53 (by decide))) (cwV 0 F.2.2.2.2 (zgV km_X11_202 ki_X8_address ke_X8_X8_address kn_X8 ko_X8_address) rfl rfl rfl ⟨rfl, hd_yX8_address⟩ ⟨Nat.le_of_ble_eq_true rfl, Nat.le_of_ble_eq_true rfl⟩) rfl (by decide) Y0 rfl rfl (Nat.le_of_ble_eq_true rfl) dX11_meant_58 ⟨Nat.le_of_ble_eq_true rfl, Nat.le_of_ble_eq_true rfl⟩ (fun r58 S58 h58 => ?_)
        obtain ⟨er58, es58⟩ := h58
        have hs58 := es58.symm
        subst hs58
        exact x_iret F hr hlk ⟨hl1, h26a, i, j, hi, eo, hj, ey, by unfold mntR; rw [if_pos c53, if_pos hx0]; exact er58, rfl⟩ (by decide) (by decide) dX11_meant_61
    · refine r_aload F dX11_meant_41 rfl ?_
      refine c_Vi (ci := 9) F G (c_slot hH hLd.1 hv0 hD0 hLd.2.1 hLd.2.2.2.1 hY9 hT0 rfl) (cwV 0 F.2.2.2.2 (zgV km_X11_196 ki_X8_slot ke_X8_X8_slot kn_X8 ko_X8_slot) rfl rfl rfl ⟨rfl, hd_yX8_slot⟩ ⟨Nat.le_of_ble_eq_true rfl, Nat.le_of_ble_eq_true rfl⟩) rfl (by decide) Y0 rfl rfl (Nat.le_of_ble_eq_true rfl) dX11_meant_43 ⟨Nat.le_of_ble_eq_true rfl, Nat.le_of_ble_eq_true rfl⟩ (fun r43 S43 h43 => ?_)
      obtain ⟨er43, es43⟩ := h43
      have hs43 := es43.symm
      subst hs43
      refine x_iret F hr hlk ⟨hl1, h26a, i, j, hi, eo, hj, ey, ?_, rfl⟩ (by decide) (by decide) dX11_meant_46
      rw [er43]
      unfold mntR
      by_cases hk1 : v0.1 1215 (16 * i + j) = 1
      · rw [if_pos hk1, if_neg (by rw [c38]; decide), tgt_no hKE hY9 hT0 (by rw [hk1]; decide), slN_nn]
        rfl
      · have hk0 : v0.1 1215 (16 * i + j) = 0 := by
          have h9 := hkr.2
          rcases (show cn v0 1215 (16 * i + j) = 0 ∨ cn v0 1215 (16 * i + j) = 1 by omega) with e | e
          · rw [hkr.1, e]; rfl
          · exact absurd (by rw [hkr.1, e]; rfl) hk1
        rw [if_neg hk1, if_neg (by rw [c38]; decide), tgt_fO (fun z hz => (hKE _ hY9 hT0 z hz).trans hk0) (fun _ => hk0)]
  · subst er6
    refine r_astoreQ (x := none) F dX11_meant_9 (by decide) ?_
    refine r_aloadQ (x := none) F dX11_meant_11 rfl ?_
    refine r_ifnullN (tgt := 20) F dX11_meant_13 (by decide) ?_
    refine r_iconst (v := 0) F dX11_meant_20 (by decide) ?_
    refine t_Sv F G htb hlk (k_require hl _) (va_cwS 1 F.2.2.2.2 (zgS km_X11_102 ks_X11_require kn_X11 ko_X11_require) rfl rfl rfl hd_yX11_require ⟨Nat.le_of_ble_eq_true rfl, Nat.le_of_ble_eq_true rfl⟩) rfl rfl (Nat.le_of_ble_eq_true rfl) dX11_meant_21 ⟨Nat.le_of_ble_eq_true rfl, Nat.le_of_ble_eq_true rfl⟩ (fun E S' h => ⟨h.2.2, Or.inl ⟨fun h9 => by obtain ⟨⟨i2, j2, q1, q2, q3, q4⟩, -⟩ := h9; rw [eo] at q2; have e2 := (nI_eq (by omega) (by omega)).mp q2; subst e2; exact hno j2 q3 q4, h.2.1⟩⟩) (Nat.le_of_ble_eq_true rfl) (Nat.le_of_ble_eq_true rfl) (fun S21 h21 => ?_)
    exact absurd rfl h21.1
