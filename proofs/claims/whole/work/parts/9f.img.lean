set_option maxRecDepth 100000 in
set_option maxHeartbeats 4000000 in
theorem c_wrongNumber {l : Launch} {N0 t0 : Nat} {D : va_G} {cy : Nat → ClassId} {S : zS} {X : Nat → Prop} {S0 : zS} {ad : Nat → Nat} {W : zO} (hH : zH t0 X S0 ad W S) {v : zV} (hB : Bld v W) (hv : vRg v) (hA : vA v) {a : Nat} (a10 : oa W 10) (ea : ad 10 = a) (hL : vl W 32 (pS v 1202 6) (fun i => 200 + 12 * eN v 1202 8 i)) : zMi l yX2_wrongNumber (zws yX2_wrongNumber cX2_wrongNumber 4 (some .int)) { frames := 6, cells := 0, slots := 0, locals := 132 } N0 t0 D cy S [.ref a] (fun r S' => S' = S ∧ ((r = -1 ∧ ∀ f k, f < 48 → ¬ bW v 1 f k) ∨ ∃ f k, f < 48 ∧ bW v 1 f k ∧ (∀ f' k', f' < f → ¬ bW v 1 f' k') ∧ (∀ k', k' < k → ¬ bW v 1 f k') ∧ r = nI (plW f k))) 0 0 := by
  refine zMi.of (cc := cX2_wrongNumber) (maxL := 4) (ret := (some .int)) (by decide) rfl (Nat.le_of_ble_eq_true rfl) ?_
  intro p e s m args below meth c F G hr hlk hnm
  subst ea
  have hc : ∀ o, o < 6 → cn v 1202 o ≤ 8 := fun o ho => (rg_1202 hv ho).2
  have hNb := pS_b (v := v) (t := 1202) (M := 8) hc 6 (Nat.le_refl _)
  have A0 : zA S (ad 10) 3 := hH.al a10 rfl rfl
  have Q0 : zq S 300 (ad 10) = some (ad 32) := hH.qS a10 rfl (by decide) (hB.1.q a10 (by decide) rfl) rfl
  have L0 : zA S (ad 32) 0 := hL.al hH rfl rfl
  have L1 : zi S 2 (ad 32) = nI (pS v 1202 6) := hL.z hH rfl rfl
  have L2 : zq S 1 (ad 32) = some (vlq t0 ad W 32) := hL.E hH rfl rfl
  refine r_iconst (v := 0) F dX2_wrongNumber_0 (by decide) ?_
  refine r_istore_n F dX2_wrongNumber_1 (by decide) ?_
  refine z_loop (fun n S9 lv => ∃ i, i + n = pS v 1202 6 ∧ S = S9 ∧ (∀ f2 k2, f2 < 6 * 8 → f2 % 8 < cn v 1202 (f2 / 8) → pN v 1202 8 f2 < i → ¬ bW v 1 f2 k2) ∧ lv = [(1, .int (nI i)), (0, .ref (ad 10))]) (pS v 1202 6) ?_ ⟨0, by omega, rfl, fun f2 k2 _ _ h9 => absurd h9 (Nat.not_lt_zero _), rfl⟩
  rintro n S9 lv ⟨i, hn9, rfl, hst, rfl⟩ ih
  refine r_iload_n F dX2_wrongNumber_2 rfl ?_
  refine r_aload_n F dX2_wrongNumber_3 rfl ?_
  refine r_getS (ci := 3) (k := 0) (id := 300) (C := RX2) (T := TX2) (N := 8) F G rfl (by decide) (by decide) rfl (zinL inG3) (zin kf_X2_12) (fun _ h9 => h9) dX2_wrongNumber_4 A0 Q0 ?_
  refine c_Fi (ci := 0) F G (k_ListSize L0) (va_cwF 0 F.2.2.2.2 (zgF km_X2_39 ke_Jx4a65c_Jxbd725_size ki_Jx4a65c_size_8abf5 kn_Jx4a65c ko_Jx4a65c_size_8abf5) rfl rfl rfl (G.2.2.2.2.1 (⟨"java/util/List", "size", "()I"⟩, yJx4a65c_size_8abf5) (List.mem_of_getElem? (i := 0) rfl)) hdF_size ⟨Nat.le_of_ble_eq_true rfl, Nat.le_of_ble_eq_true rfl⟩) rfl (by decide) L0 rfl rfl (Nat.le_of_ble_eq_true rfl) dX2_wrongNumber_7 ⟨Nat.le_of_ble_eq_true rfl, Nat.le_of_ble_eq_true rfl⟩ (fun r7 S7 h7 => ?_)
  obtain ⟨h7a, h7b⟩ := h7
  have h7c := h7b.symm
  subst h7c
  rw [L1] at h7a
  subst h7a
  refine r_icmp_ge (tgt := 66) F dX2_wrongNumber_12 (by decide) (fun c12 => ?_) (fun c12 => ?_)
  · refine r_iconst (v := -1) F dX2_wrongNumber_66 (by decide) ?_
    exact e_iret F hr hlk ⟨rfl, Or.inl ⟨rfl, fun f2 k2 hf2 h9 => hst f2 k2 hf2 h9.1 (by have h8 := pN_top (v := v) (t := 1202) (M := 8) (by decide) hf2 h9.1; rw [nI_leI (by omega) (by omega)] at c12; omega) h9⟩⟩ (by decide) (by decide) dX2_wrongNumber_67
  · have hi : i < pS v 1202 6 := by rw [nI_leI (by omega) (by omega)] at c12; omega
    obtain ⟨hf, ht, hp⟩ := eN_t (v := v) (t := 1202) (M := 8) (by decide) hc hi
    have gg := hL.get hH rfl hi
    have hR := hB.2.2.1 (eN v 1202 8 i) hf ht
    have hkr := kd_r (eN v 1202 8 i) hf
    have gA : zA S (ad (200 + 12 * (eN v 1202 8 i))) 7 := hH.al hR.1 rfl hkr.1
    have hlen := rg_1208 hv hf
    have hlen2 := hlen.2
    have J0 : zi S 710 (ad (200 + 12 * (eN v 1202 8 i))) = nI (cn v 1208 (eN v 1202 8 i)) := (hH.i hR.1 rfl (by rw [hkr.1]; decide)).trans (hR.2.2.2.2.2.2.1.trans hlen.1)
    have J1 : zi S 701 (ad (200 + 12 * (eN v 1202 8 i))) = nI (1000 * ((eN v 1202 8 i) / 8) + 100 * ((eN v 1202 8 i) % 8)) := (hH.i hR.1 rfl (by rw [hkr.1]; decide)).trans hR.2.2.1
    refine r_aload_n F dX2_wrongNumber_15 rfl ?_
    refine r_getS (ci := 3) (k := 0) (id := 300) (C := RX2) (T := TX2) (N := 8) F G rfl (by decide) (by decide) rfl (zinL inG3) (zin kf_X2_12) (fun _ h9 => h9) dX2_wrongNumber_16 A0 Q0 ?_
    refine r_iload_n F dX2_wrongNumber_19 rfl ?_
    refine c_Fq (ci := 0) F G (k_get L0 L2 gg.1 L1 hi gg.2.1 gg.2.2.1) (va_cwF 1 F.2.2.2.2 (zgF km_X2_43 ke_Jx4a65c_Jxbd725_get ki_Jx4a65c_get_915e3 kn_Jx4a65c ko_Jx4a65c_get_915e3) rfl rfl rfl (G.2.2.2.2.1 (⟨"java/util/List", "get", "(I)Ljava/lang/Object;"⟩, yJx4a65c_get_915e3) (List.mem_of_getElem? (i := 2) rfl)) hdF_get ⟨Nat.le_of_ble_eq_true rfl, Nat.le_of_ble_eq_true rfl⟩) rfl (by decide) L0 rfl rfl (Nat.le_of_ble_eq_true rfl) dX2_wrongNumber_20 ⟨Nat.le_of_ble_eq_true rfl, Nat.le_of_ble_eq_true rfl⟩ (fun r20 S20 h20 => ?_)
    obtain ⟨h20a, h20b⟩ := h20
    have h20c := h20b.symm
    subst h20c
    rw [gg.2.2.2] at h20a
    subst h20a
    refine r_cast (a := ad (200 + 12 * (eN v 1202 8 i))) (ci := 7) F G gA (by decide) rfl (List.mem_of_getElem? (i := 2) rfl) (zin kc_X2_50) dX2_wrongNumber_25 ?_
    refine r_astore_n (x := ad (200 + 12 * (eN v 1202 8 i))) F dX2_wrongNumber_28 (by decide) ?_
    refine r_iconst (v := 0) F dX2_wrongNumber_29 (by decide) ?_
    refine r_istore_n F dX2_wrongNumber_30 (by decide) ?_
    refine z_loop (fun n2 S9 lv => ∃ k, k + n2 = cn v 1208 (eN v 1202 8 i) ∧ S = S9 ∧ (∀ k', k' < k → ¬ bW v 1 (eN v 1202 8 i) k') ∧ lv = [(3, .int (nI k)), (2, .ref (ad (200 + 12 * (eN v 1202 8 i)))), (1, .int (nI i)), (0, .ref (ad 10))]) (cn v 1208 (eN v 1202 8 i)) ?_ ⟨0, by omega, rfl, fun k' h9 => absurd h9 (Nat.not_lt_zero k'), rfl⟩
    rintro n2 S9 lv ⟨k, hn2, rfl, hst2, rfl⟩ ih2
    refine r_iload_n F dX2_wrongNumber_31 rfl ?_
    refine r_aload_n F dX2_wrongNumber_32 rfl ?_
    refine r_getiS (ci := 7) (k := 10) (id := 710) (C := RX6) (T := TX6) (N := 13) F G rfl (by decide) (by decide) rfl (zinL inG7) (zin kf_X2_62) (fun _ h9 => h9) dX2_wrongNumber_33 gA J0 ?_
    refine r_icmp_ge (tgt := 60) F dX2_wrongNumber_36 (by decide) (fun c36 => ?_) (fun c36 => ?_)
    · have hnbf : ∀ k', ¬ bW v 1 (eN v 1202 8 i) k' := fun k' h9 => by
        have hkl : k = cn v 1208 (eN v 1202 8 i) := by rw [nI_leI (by omega) (by omega)] at c36; omega
        have h8 := h9.2
        rw [if_neg (by decide)] at h8
        exact hst2 k' (by omega) h9
      refine r_iinc F dX2_wrongNumber_60 rfl (by decide) ?_
      refine r_goto (tgt := 2) F dX2_wrongNumber_63 (by decide) ?_
      refine zsub (lv' := [(1, .int (nI (i + 1))), (0, .ref (ad 10))]) (by rw [show nI (i + 1) = nI i + Int32.ofInt 1 from (nI_add i 1).symm]; simp [zs1, Value.category, show ((1 : Fin 4) : Nat) = 1 from rfl, show ((2 : Fin 4) : Nat) = 2 from rfl, show ((3 : Fin 4) : Nat) = 3 from rfl]) ?_
      exact ih (n - 1) _ _ (by omega) ⟨i + 1, by omega, rfl, fun f2 k2 h1 h2 h3 h4 => fst_s (bad := fun f => ∃ k, bW v 1 f k) (by decide) hc (fun z h1 h2 h3 h4 => h4.elim (fun k3 h5 => hst z k3 h1 h2 h3 h5)) (fun h9 => h9.elim (fun k3 h5 => hnbf k3 h5)) f2 h1 h2 h3 ⟨k2, h4⟩, rfl⟩
    · have hk : k < cn v 1208 (eN v 1202 8 i) := by rw [nI_leI (by omega) (by omega)] at c36; omega
      have hk60 : k < 60 := by omega
      refine r_aload_n F dX2_wrongNumber_39 rfl ?_
      refine r_iload_n F dX2_wrongNumber_40 rfl ?_
      refine c_Vi (ci := 7) F G (c_numberFits hH hB hv hA hf ht rfl hk60) (cwV 1 F.2.2.2.2 (zgV km_X2_65 ki_X6_numberFits ke_X6_X6_numberFits kn_X6 ko_X6_numberFits) rfl rfl rfl ⟨rfl, hd_yX6_numberFits⟩ ⟨Nat.le_of_ble_eq_true rfl, Nat.le_of_ble_eq_true rfl⟩) rfl (by decide) gA rfl rfl (Nat.le_of_ble_eq_true rfl) dX2_wrongNumber_41 ⟨Nat.le_of_ble_eq_true rfl, Nat.le_of_ble_eq_true rfl⟩ (fun r41 S41 h41 => ?_)
      obtain ⟨a41, e41⟩ := h41
      have hs41 := e41.symm
      subst hs41
      refine r_if_ne (tgt := 54) F dX2_wrongNumber_44 (by decide) (fun c44 => ?_) (fun c44 => ?_)
      · have hnb : ¬ bW v 1 (eN v 1202 8 i) k := fun h9 => by have h8 := h9.2; rw [if_neg (by decide)] at h8; have h7 := h8.2; rw [if_pos rfl] at h7; exact h7 (a41.t c44)
        refine r_iinc F dX2_wrongNumber_54 rfl (by decide) ?_
        refine r_goto (tgt := 31) F dX2_wrongNumber_57 (by decide) ?_
        exact ih2 (n2 - 1) _ _ (by omega) ⟨k + 1, by omega, rfl, fun k' hk' h9 => by
          rcases Nat.lt_or_ge k' k with h8 | h8
          · exact hst2 k' h8 h9
          · rw [show k' = k by omega] at h9
            exact hnb h9, by rw [show nI k + Int32.ofInt 1 = nI (k + 1) from nI_add k 1]; rfl⟩
      · refine r_aload_n F dX2_wrongNumber_47 rfl ?_
        refine r_getiS (ci := 7) (k := 1) (id := 701) (C := RX6) (T := TX6) (N := 13) F G rfl (by decide) (by decide) rfl (zinL inG7) (zin kf_X2_69) (fun _ h9 => h9) dX2_wrongNumber_48 gA J1 ?_
        refine r_iload_n F dX2_wrongNumber_51 rfl ?_
        refine r_iadd F dX2_wrongNumber_52 ?_
        exact e_iret F hr hlk ⟨rfl, Or.inr ⟨(eN v 1202 8 i), k, hf, ⟨ht, by rw [if_neg (by decide)]; exact ⟨hk, by rw [if_pos rfl]; exact a41.f c44⟩⟩, fun f2 k2 h9 h8 => fst_i (bad := fun f => ∃ k, bW v 1 f k) (by decide) hc hi (fun z h1 h2 h3 h4 => h4.elim (fun k3 h5 => hst z k3 h1 h2 h3 h5)) f2 h9 ⟨h8.1, k2, h8⟩, hst2, nI_add _ _⟩⟩ (by decide) (by decide) dX2_wrongNumber_53
/-- a function symbol means a function -/
def kOK (v : zV) : Prop := ∀ y, y < 96 → y % 16 < cn v 1204 (y / 16) → v.1 1215 y = 0 → ∀ z, mng v y = some z → v.1 1215 z = 0
set_option maxRecDepth 100000 in
set_option maxHeartbeats 4000000 in
theorem c_otherSignature {l : Launch} {N0 t0 : Nat} {D : va_G} {cy : Nat → ClassId} {S : zS} {X : Nat → Prop} {S0 : zS} {ad : Nat → Nat} {W : zO} (hH : zH t0 X S0 ad W S) {v : zV} (hB : Bld v W) (hv : vRg v) (hA : vA v) {a : Nat} (a10 : oa W 10) (ea : ad 10 = a) (hL : vl W 32 (pS v 1202 6) (fun i => 200 + 12 * eN v 1202 8 i)) (hD : vD v) (hg : allG v) (hko : kOK v) (hSr : SrcOK v W) : zMi l yX2_otherSignature (zws yX2_otherSignature cX2_otherSignature 4 (some .int)) { frames := 6, cells := 0, slots := 0, locals := 132 } N0 t0 D cy S [.ref a] (fun r S' => S' = S ∧ ((r = -1 ∧ ∀ f k, f < 48 → ¬ bW v 6 f k) ∨ ∃ f k, f < 48 ∧ bW v 6 f k ∧ (∀ f' k', f' < f → ¬ bW v 6 f' k') ∧ (∀ k', k' < k → ¬ bW v 6 f k') ∧ r = nI (plW f k))) 0 0 := by
  refine zMi.of (cc := cX2_otherSignature) (maxL := 4) (ret := (some .int)) (by decide) rfl (Nat.le_of_ble_eq_true rfl) ?_
  intro p e s m args below meth c F G hr hlk hnm
  subst ea
  have hc : ∀ o, o < 6 → cn v 1202 o ≤ 8 := fun o ho => (rg_1202 hv ho).2
  have hNb := pS_b (v := v) (t := 1202) (M := 8) hc 6 (Nat.le_refl _)
  have A0 : zA S (ad 10) 3 := hH.al a10 rfl rfl
  have Q0 : zq S 300 (ad 10) = some (ad 32) := hH.qS a10 rfl (by decide) (hB.1.q a10 (by decide) rfl) rfl
  have L0 : zA S (ad 32) 0 := hL.al hH rfl rfl
  have L1 : zi S 2 (ad 32) = nI (pS v 1202 6) := hL.z hH rfl rfl
  have L2 : zq S 1 (ad 32) = some (vlq t0 ad W 32) := hL.E hH rfl rfl
  refine r_iconst (v := 0) F dX2_otherSignature_0 (by decide) ?_
  refine r_istore_n F dX2_otherSignature_1 (by decide) ?_
  refine z_loop (fun n S9 lv => ∃ i, i + n = pS v 1202 6 ∧ S = S9 ∧ (∀ f2 k2, f2 < 6 * 8 → f2 % 8 < cn v 1202 (f2 / 8) → pN v 1202 8 f2 < i → ¬ bW v 6 f2 k2) ∧ lv = [(1, .int (nI i)), (0, .ref (ad 10))]) (pS v 1202 6) ?_ ⟨0, by omega, rfl, fun f2 k2 _ _ h9 => absurd h9 (Nat.not_lt_zero _), rfl⟩
  rintro n S9 lv ⟨i, hn9, rfl, hst, rfl⟩ ih
  refine r_iload_n F dX2_otherSignature_2 rfl ?_
  refine r_aload_n F dX2_otherSignature_3 rfl ?_
  refine r_getS (ci := 3) (k := 0) (id := 300) (C := RX2) (T := TX2) (N := 8) F G rfl (by decide) (by decide) rfl (zinL inG3) (zin kf_X2_12) (fun _ h9 => h9) dX2_otherSignature_4 A0 Q0 ?_
  refine c_Fi (ci := 0) F G (k_ListSize L0) (va_cwF 0 F.2.2.2.2 (zgF km_X2_39 ke_Jx4a65c_Jxbd725_size ki_Jx4a65c_size_8abf5 kn_Jx4a65c ko_Jx4a65c_size_8abf5) rfl rfl rfl (G.2.2.2.2.1 (⟨"java/util/List", "size", "()I"⟩, yJx4a65c_size_8abf5) (List.mem_of_getElem? (i := 0) rfl)) hdF_size ⟨Nat.le_of_ble_eq_true rfl, Nat.le_of_ble_eq_true rfl⟩) rfl (by decide) L0 rfl rfl (Nat.le_of_ble_eq_true rfl) dX2_otherSignature_7 ⟨Nat.le_of_ble_eq_true rfl, Nat.le_of_ble_eq_true rfl⟩ (fun r7 S7 h7 => ?_)
  obtain ⟨h7a, h7b⟩ := h7
  have h7c := h7b.symm
  subst h7c
  rw [L1] at h7a
  subst h7a
  refine r_icmp_ge (tgt := 77) F dX2_otherSignature_12 (by decide) (fun c12 => ?_) (fun c12 => ?_)
  · refine r_iconst (v := -1) F dX2_otherSignature_77 (by decide) ?_
    exact e_iret F hr hlk ⟨rfl, Or.inl ⟨rfl, fun f2 k2 hf2 h9 => hst f2 k2 hf2 h9.1 (by have h8 := pN_top (v := v) (t := 1202) (M := 8) (by decide) hf2 h9.1; rw [nI_leI (by omega) (by omega)] at c12; omega) h9⟩⟩ (by decide) (by decide) dX2_otherSignature_78
  · have hi : i < pS v 1202 6 := by rw [nI_leI (by omega) (by omega)] at c12; omega
    obtain ⟨hf, ht, hp⟩ := eN_t (v := v) (t := 1202) (M := 8) (by decide) hc hi
    have gg := hL.get hH rfl hi
    have hR := hB.2.2.1 (eN v 1202 8 i) hf ht
    have hkr := kd_r (eN v 1202 8 i) hf
    have gA : zA S (ad (200 + 12 * (eN v 1202 8 i))) 7 := hH.al hR.1 rfl hkr.1
    have hlen := rg_1208 hv hf
    have hlen2 := hlen.2
    have J0 : zi S 710 (ad (200 + 12 * (eN v 1202 8 i))) = nI (cn v 1208 (eN v 1202 8 i)) := (hH.i hR.1 rfl (by rw [hkr.1]; decide)).trans (hR.2.2.2.2.2.2.1.trans hlen.1)
    have J1 : zi S 701 (ad (200 + 12 * (eN v 1202 8 i))) = nI (1000 * ((eN v 1202 8 i) / 8) + 100 * ((eN v 1202 8 i) % 8)) := (hH.i hR.1 rfl (by rw [hkr.1]; decide)).trans hR.2.2.1
    refine r_aload_n F dX2_otherSignature_15 rfl ?_
    refine r_getS (ci := 3) (k := 0) (id := 300) (C := RX2) (T := TX2) (N := 8) F G rfl (by decide) (by decide) rfl (zinL inG3) (zin kf_X2_12) (fun _ h9 => h9) dX2_otherSignature_16 A0 Q0 ?_
    refine r_iload_n F dX2_otherSignature_19 rfl ?_
    refine c_Fq (ci := 0) F G (k_get L0 L2 gg.1 L1 hi gg.2.1 gg.2.2.1) (va_cwF 1 F.2.2.2.2 (zgF km_X2_43 ke_Jx4a65c_Jxbd725_get ki_Jx4a65c_get_915e3 kn_Jx4a65c ko_Jx4a65c_get_915e3) rfl rfl rfl (G.2.2.2.2.1 (⟨"java/util/List", "get", "(I)Ljava/lang/Object;"⟩, yJx4a65c_get_915e3) (List.mem_of_getElem? (i := 2) rfl)) hdF_get ⟨Nat.le_of_ble_eq_true rfl, Nat.le_of_ble_eq_true rfl⟩) rfl (by decide) L0 rfl rfl (Nat.le_of_ble_eq_true rfl) dX2_otherSignature_20 ⟨Nat.le_of_ble_eq_true rfl, Nat.le_of_ble_eq_true rfl⟩ (fun r20 S20 h20 => ?_)
    obtain ⟨h20a, h20b⟩ := h20
    have h20c := h20b.symm
    subst h20c
    rw [gg.2.2.2] at h20a
    subst h20a
    refine r_cast (a := ad (200 + 12 * (eN v 1202 8 i))) (ci := 7) F G gA (by decide) rfl (List.mem_of_getElem? (i := 2) rfl) (zin kc_X2_50) dX2_otherSignature_25 ?_
    refine r_astore_n (x := ad (200 + 12 * (eN v 1202 8 i))) F dX2_otherSignature_28 (by decide) ?_
    refine r_iconst (v := 0) F dX2_otherSignature_29 (by decide) ?_
    refine r_istore_n F dX2_otherSignature_30 (by decide) ?_
    refine z_loop (fun n2 S9 lv => ∃ k, k + n2 = cn v 1208 (eN v 1202 8 i) ∧ S = S9 ∧ (∀ k', k' < k → ¬ bW v 6 (eN v 1202 8 i) k') ∧ lv = [(3, .int (nI k)), (2, .ref (ad (200 + 12 * (eN v 1202 8 i)))), (1, .int (nI i)), (0, .ref (ad 10))]) (cn v 1208 (eN v 1202 8 i)) ?_ ⟨0, by omega, rfl, fun k' h9 => absurd h9 (Nat.not_lt_zero k'), rfl⟩
    rintro n2 S9 lv ⟨k, hn2, rfl, hst2, rfl⟩ ih2
    refine r_iload_n F dX2_otherSignature_31 rfl ?_
    refine r_aload_n F dX2_otherSignature_32 rfl ?_
    refine r_getiS (ci := 7) (k := 10) (id := 710) (C := RX6) (T := TX6) (N := 13) F G rfl (by decide) (by decide) rfl (zinL inG7) (zin kf_X2_62) (fun _ h9 => h9) dX2_otherSignature_33 gA J0 ?_
    refine r_icmp_ge (tgt := 71) F dX2_otherSignature_36 (by decide) (fun c36 => ?_) (fun c36 => ?_)
    · have hnbf : ∀ k', ¬ bW v 6 (eN v 1202 8 i) k' := fun k' h9 => by
        have hkl : k = cn v 1208 (eN v 1202 8 i) := by rw [nI_leI (by omega) (by omega)] at c36; omega
        have h8 := h9.2
        rw [if_neg (by decide)] at h8
        exact hst2 k' (by omega) h9
      refine r_iinc F dX2_otherSignature_71 rfl (by decide) ?_
      refine r_goto (tgt := 2) F dX2_otherSignature_74 (by decide) ?_
      refine zsub (lv' := [(1, .int (nI (i + 1))), (0, .ref (ad 10))]) (by rw [show nI (i + 1) = nI i + Int32.ofInt 1 from (nI_add i 1).symm]; simp [zs1, Value.category, show ((1 : Fin 4) : Nat) = 1 from rfl, show ((2 : Fin 4) : Nat) = 2 from rfl, show ((3 : Fin 4) : Nat) = 3 from rfl]) ?_
      exact ih (n - 1) _ _ (by omega) ⟨i + 1, by omega, rfl, fun f2 k2 h1 h2 h3 h4 => fst_s (bad := fun f => ∃ k, bW v 6 f k) (by decide) hc (fun z h1 h2 h3 h4 => h4.elim (fun k3 h5 => hst z k3 h1 h2 h3 h5)) (fun h9 => h9.elim (fun k3 h5 => hnbf k3 h5)) f2 h1 h2 h3 ⟨k2, h4⟩, rfl⟩
    · have hk : k < cn v 1208 (eN v 1202 8 i) := by rw [nI_leI (by omega) (by omega)] at c36; omega
      have hk60 : k < 60 := by omega
      have hwd := rg_1209 hv (k := 60 * (eN v 1202 8 i) + k) (by omega)
      have hwd2 := hwd.2
      have Qw : zq S 705 (ad (200 + 12 * (eN v 1202 8 i))) = some (ad (200 + 12 * (eN v 1202 8 i) + 2)) := hH.qS hR.1 rfl (by rw [hkr.1]; decide) (hB.1.q hR.1 (by decide) hkr.1) rfl
      have aw : oa W (200 + 12 * (eN v 1202 8 i) + 2) := hB.1.a hR.1 (id := 705) (by decide) hkr.1
      have nw : onn W (200 + 12 * (eN v 1202 8 i) + 2) = 60 := hB.1.n hR.1 (id := 705) (by decide) hkr.1 (by decide)
      have vw : ori W (200 + 12 * (eN v 1202 8 i) + 2) k = nI (cn v 1209 (60 * (eN v 1202 8 i) + k)) := (hR.2.2.2.2.2.2.2.1 k hk60).trans hwd.1
      refine r_aload_n F dX2_otherSignature_39 rfl ?_
      refine r_getS (ci := 7) (k := 5) (id := 705) (C := RX6) (T := TX6) (N := 13) F G rfl (by decide) (by decide) rfl (zinL inG7) (zin kf_X2_72) (fun _ h9 => h9) dX2_otherSignature_40 gA Qw ?_
      refine r_iload_n F dX2_otherSignature_43 rfl ?_
      refine v_iald F G hH aw rfl hkr.2.1 (by omega) (by omega) dX2_otherSignature_44 ?_
      rw [vw]
      refine r_bipush (v := 31) F dX2_otherSignature_45 (by decide) ?_
      refine r_icmp_ne (tgt := 65) F dX2_otherSignature_47 (by decide) (fun c47 => ?_) (fun c47 => ?_)
      · have hnb : ¬ bW v 6 (eN v 1202 8 i) k := fun h9 => by have h8 := h9.2; rw [if_neg (by decide)] at h8; have h7 := h8.2; rw [if_neg (by decide)] at h7; exact c47 (by rw [h7.1]; rfl)
        refine r_iinc F dX2_otherSignature_65 rfl (by decide) ?_
        refine r_goto (tgt := 31) F dX2_otherSignature_68 (by decide) ?_
        exact ih2 (n2 - 1) _ _ (by omega) ⟨k + 1, by omega, rfl, fun k' hk' h9 => by
          rcases Nat.lt_or_ge k' k with h8 | h8
          · exact hst2 k' h8 h9
          · rw [show k' = k by omega] at h9
            exact hnb h9, by rw [show nI k + Int32.ofInt 1 = nI (k + 1) from nI_add k 1]; rfl⟩
      · have hw31 : cn v 1209 (60 * (eN v 1202 8 i) + k) = 31 := by have c9 := c47; rw [show (31 : Int32) = nI 31 from rfl, nI_eq (by omega) (by omega)] at c9; exact c9
        obtain ⟨j, hj, ej, hkj⟩ := (hg.g hf ht hk).2.2.2.2.1 (Or.inl hw31)
        have hyb := (rg_1204 hv (k := (eN v 1202 8 i) / 8) (by omega)).2
        have hY9 : (16 * ((eN v 1202 8 i) / 8) + j) < 96 := by omega
        have hT9 : (16 * ((eN v 1202 8 i) / 8) + j) % 16 < cn v 1204 ((16 * ((eN v 1202 8 i) / 8) + j) / 16) := by rw [show (16 * ((eN v 1202 8 i) / 8) + j) / 16 = (eN v 1202 8 i) / 8 by omega]; omega
        have etf : tgt v (16 * ((eN v 1202 8 i) / 8) + j) = fO v (16 * ((eN v 1202 8 i) / 8) + j) := tgt_fO (hko _ hY9 hT9 hkj) (fun _ => hkj)
        refine r_aload_n F dX2_otherSignature_50 rfl ?_
        refine r_iload_n F dX2_otherSignature_51 rfl ?_
        refine c_Vi (ci := 7) F G (c_callFits hH hB hv hD hSr hA hf ht rfl hk60 hj ej hkj) (cwV 1 F.2.2.2.2 (zgV km_X2_77 ki_X6_callFits ke_X6_X6_callFits kn_X6 ko_X6_callFits) rfl rfl rfl ⟨rfl, hd_yX6_callFits⟩ ⟨Nat.le_of_ble_eq_true rfl, Nat.le_of_ble_eq_true rfl⟩) rfl (by decide) gA rfl rfl (Nat.le_of_ble_eq_true rfl) dX2_otherSignature_52 ⟨Nat.le_of_ble_eq_true rfl, Nat.le_of_ble_eq_true rfl⟩ (fun r52 S52 h52 => ?_)
        obtain ⟨a52, e52⟩ := h52
        have hs52 := e52.symm
        subst hs52
        refine r_if_ne (tgt := 65) F dX2_otherSignature_55 (by decide) (fun c55 => ?_) (fun c55 => ?_)
        · have hnb : ¬ bW v 6 (eN v 1202 8 i) k := fun h9 => by have h8 := h9.2; rw [if_neg (by decide)] at h8; have h7 := h8.2; rw [if_neg (by decide)] at h7; obtain ⟨_, j2, g, q1, q2, q3, q4⟩ := h7; rw [ej] at q1; have q5 := (nI_eq (by omega) (by omega)).mp q1; subst q5; exact q4 (a52.t c55 g (by rw [etf]; exact q3))
          refine r_iinc F dX2_otherSignature_65 rfl (by decide) ?_
          refine r_goto (tgt := 31) F dX2_otherSignature_68 (by decide) ?_
          exact ih2 (n2 - 1) _ _ (by omega) ⟨k + 1, by omega, rfl, fun k' hk' h9 => by
            rcases Nat.lt_or_ge k' k with h8 | h8
            · exact hst2 k' h8 h9
            · rw [show k' = k by omega] at h9
              exact hnb h9, by rw [show nI k + Int32.ofInt 1 = nI (k + 1) from nI_add k 1]; rfl⟩
        · refine r_aload_n F dX2_otherSignature_58 rfl ?_
          refine r_getiS (ci := 7) (k := 1) (id := 701) (C := RX6) (T := TX6) (N := 13) F G rfl (by decide) (by decide) rfl (zinL inG7) (zin kf_X2_69) (fun _ h9 => h9) dX2_otherSignature_59 gA J1 ?_
          refine r_iload_n F dX2_otherSignature_62 rfl ?_
          refine r_iadd F dX2_otherSignature_63 ?_
          have hwC : wC v (eN v 1202 8 i) (cn v 1209 (60 * (eN v 1202 8 i) + k)) (v.1 1210 (60 * (eN v 1202 8 i) + k)) := by
              have h9 := a52.f c55
              rcases Classical.em (∃ g, tgt v (16 * ((eN v 1202 8 i) / 8) + j) = some g ∧ ¬ sh v g = sg v (16 * ((eN v 1202 8 i) / 8) + j)) with ⟨g, g1, g2⟩ | h8
              · exact ⟨hw31, j, g, ej, hj, by rw [← etf]; exact g1, g2⟩
              · exact absurd (fun g h7 => Decidable.not_not.mp (fun h6 => h8 ⟨g, h7, h6⟩)) h9
          exact e_iret F hr hlk ⟨rfl, Or.inr ⟨(eN v 1202 8 i), k, hf, ⟨ht, by rw [if_neg (by decide)]; exact ⟨hk, by rw [if_neg (by decide)]; exact hwC⟩⟩, fun f2 k2 h9 h8 => fst_i (bad := fun f => ∃ k, bW v 6 f k) (by decide) hc hi (fun z h1 h2 h3 h4 => h4.elim (fun k3 h5 => hst z k3 h1 h2 h3 h5)) f2 h9 ⟨h8.1, k2, h8⟩, hst2, nI_add _ _⟩⟩ (by decide) (by decide) dX2_otherSignature_64
