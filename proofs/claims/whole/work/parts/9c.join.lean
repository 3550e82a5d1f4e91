theorem pN_top {v : zV} {t M x : Nat} (hM : 0 < M) (hx : x < 6 * M) (ht : x % M < cn v t (x / M)) : pN v t M x < pS v t 6 := by
  have h1 : x / M < 6 := (Nat.div_lt_iff_lt_mul hM).mpr hx
  have h2 : pS v t (x / M + 1) ≤ pS v t 6 := pS_mono h1
  have h3 : pS v t (x / M + 1) = pS v t (x / M) + cn v t (x / M) := rfl
  unfold pN
  omega
/-- behind the first i things: where the next ones begin -/
def bd (v : zV) (t M i : Nat) : Nat := if i = 0 then 0 else eN v t M (i - 1) + 1
theorem bd_gap {v : zV} {t M i : Nat} (hM : 0 < M) (hc : ∀ o, o < 6 → cn v t o ≤ M) (hi : i ≤ pS v t 6) {x : Nat} (hx : bd v t M i ≤ x) (hx2 : x < 6 * M) (ht : x % M < cn v t (x / M)) : i ≤ pN v t M x := by
  unfold bd at hx
  by_cases e : i = 0
  · omega
  · rw [if_neg e] at hx
    obtain ⟨h1, h2, h3⟩ := eN_t (v := v) (t := t) (M := M) (i := i - 1) hM hc (by omega)
    have := pN_lt (x := x) hM (show eN v t M (i - 1) < x by omega) h2
    omega
theorem bd_le {v : zV} {t M i : Nat} (hM : 0 < M) (hc : ∀ o, o < 6 → cn v t o ≤ M) (hi : i < pS v t 6) : bd v t M i ≤ eN v t M i ∧ ∀ x, bd v t M i ≤ x → x < eN v t M i → ¬ x % M < cn v t (x / M) := by
  obtain ⟨g1, g2, g3⟩ := eN_t hM hc hi
  refine ⟨?_, fun x h1 h2 h3 => ?_⟩
  · unfold bd
    by_cases e : i = 0
    · rw [if_pos e]; exact Nat.zero_le _
    · rw [if_neg e]
      obtain ⟨h1, h2, h3⟩ := eN_t (v := v) (t := t) (M := M) (i := i - 1) hM hc (by omega)
      rcases Nat.lt_trichotomy (eN v t M (i - 1)) (eN v t M i) with q | q | q
      · exact q
      · rw [q, g3] at h3; omega
      · have := pN_lt hM q g2; omega
  · have h4 := bd_gap hM hc (Nat.le_of_lt hi) h1 (by omega) h3
    have := pN_lt hM h2 h3
    omega
theorem bd_s {v : zV} {t M i : Nat} : bd v t M (i + 1) = eN v t M i + 1 := by
  unfold bd
  rw [if_neg (by omega)]
  rfl
theorem bd_top {v : zV} {t M : Nat} (hM : 0 < M) (hc : ∀ o, o < 6 → cn v t o ≤ M) : bd v t M (pS v t 6) ≤ 6 * M ∧ ∀ x, bd v t M (pS v t 6) ≤ x → x < 6 * M → ¬ x % M < cn v t (x / M) := by
  refine ⟨?_, fun x h1 h2 h3 => ?_⟩
  · unfold bd
    by_cases e9 : pS v t 6 = 0
    · rw [if_pos e9]; exact Nat.zero_le _
    · rw [if_neg e9]
      have := (eN_t (v := v) (t := t) (M := M) (i := pS v t 6 - 1) hM hc (by omega)).1
      omega
  · have h4 := bd_gap hM hc (Nat.le_refl _) h1 h2 h3
    have h5 := pN_top hM h2 h3
    omega
/-- the symbol that a symbol's definition is taken from -/
def src (v : zV) (y : Nat) : Option Nat := if v.1 1216 y = 2 then some y else (fnd (ySt v (v.1 1214 y)) 96).or (fnd (yWk v (v.1 1214 y)) 96)
/-- the symbols' sources up to the i-th -/
def sq (v : zV) (W W9 : zO) (i : Nat) : Prop := (∀ y, y < 96 → y % 16 < cn v 1204 (y / 16) → W9 (cY y) = if pN v 1204 16 y < i then eQ (W (cY y)) 907 ((src v y).map cY) else W (cY y)) ∧ ∀ d, d ≠ 16 → d ≠ 18 → d ≠ 20 → (∀ y, y < 96 → y % 16 < cn v 1204 (y / 16) → d ≠ cY y) → W9 d = W d
theorem sq.Y {v : zV} {W W9 : zO} {i y : Nat} (h : sq v W W9 i) (hY : rpY v W y) (hy : y < 96) (ht : y % 16 < cn v 1204 (y / 16)) : rpY v W9 y := by
  have h1 := h.1 y hy ht
  by_cases e : pN v 1204 16 y < i
  · rw [if_pos e] at h1
    unfold rpY oa oi oq
    rw [h1]
    exact hY
  · rw [if_neg e] at h1
    exact hY.same (fun _ _ => rfl) h1
set_option maxRecDepth 100000 in
set_option maxHeartbeats 4000000 in
theorem c_join {l : Launch} {N0 t0 : Nat} {D : va_G} {cy : Nat → ClassId} {S : zS} {X : Nat → Prop} {S0 : zS} {ad : Nat → Nat} {W : zO} (hH : zH t0 X S0 ad W S) {v : zV} {a b : Nat} (hR : Rep v W) (hv : vRg v) (ea : ad 6 = a) (eb : ad 36 = b) (hL : vl W 36 (pS v 1204 6) (fun i => 900 + 2 * eN v 1204 16 i)) : zMv l yX5_join (zws yX5_join cX5_join 4 none) { frames := 3, cells := 0, slots := 0, locals := 65 } N0 t0 D cy S [.ref a, .ref b] (fun S' => ∃ W', zH t0 X S0 ad W' S' ∧ wr W' ∧ nmS v W' 96 ∧ sq v W W' (pS v 1204 6)) 0 0 := by
  refine zMv.of (cc := cX5_join) (maxL := 4) (ret := none) (by decide) rfl (Nat.le_of_ble_eq_true rfl) ?_
  intro p e s m args below meth c F G hr hlk hnm
  subst ea
  subst eb
  have hc : ∀ o, o < 6 → cn v 1204 o ≤ 16 := fun o ho => (rg_1204 hv ho).2
  have hNb := pS_b (v := v) (t := 1204) (M := 16) hc 6 (Nat.le_refl _)
  have a6 : oa W 6 := hR.1.a hR.2.1 (id := 1101) (by decide) rfl
  have hYs : ∀ y, y < 96 → y % 16 < cn v 1204 (y / 16) → rpY v W y := hR.2.2.2.2.2.2.1
  refine r_iconst (v := 0) F dX5_join_0 (by decide) ?_
  refine r_istore_n F dX5_join_1 (by decide) ?_
  refine z_loop (fun n S9 lv => ∃ k W9, k + n = 31 ∧ zH t0 X S0 ad W9 S9 ∧ wr W9 ∧ (∀ d, d ≠ 16 → d ≠ 18 → d ≠ 20 → W9 d = W d) ∧ (∀ nm, nm < k → orq W9 16 nm = none ∧ orq W9 18 nm = none ∧ orq W9 20 nm = none) ∧ lv = [(2, .int (nI k)), (0, .ref (ad 6)), (1, .ref (ad 36))]) 31 ?_ ⟨0, W, by omega, hH, hR.1, fun _ _ _ _ => rfl, fun nm h9 => absurd h9 (Nat.not_lt_zero nm), rfl⟩
  clear hH
  rintro n S lv ⟨k, W9, hn9, hH, hw9, hW9, hz9, rfl⟩ ih
  have b6 : oa W9 6 := oa_eq (hW9 6 (by decide) (by decide) (by decide)) a6
  have b16 : oa W9 16 := hw9.a b6 (id := 600) (by decide) rfl
  have b18 : oa W9 18 := hw9.a b6 (id := 601) (by decide) rfl
  have b20 : oa W9 20 := hw9.a b6 (id := 602) (by decide) rfl
  have m16 : onn W9 16 = 31 := hw9.n b6 (id := 600) (by decide) rfl (by decide)
  have m18 : onn W9 18 = 31 := hw9.n b6 (id := 601) (by decide) rfl (by decide)
  have m20 : onn W9 20 = 31 := hw9.n b6 (id := 602) (by decide) rfl (by decide)
  have A0 : zA S (ad 6) 6 := hH.al b6 rfl rfl
  have Q0 : zq S 600 (ad 6) = some (ad 16) := hH.qS b6 rfl (by decide) (hw9.q b6 (by decide) rfl) rfl
  refine r_iload_n F dX5_join_2 rfl ?_
  refine r_bipush (v := 31) F dX5_join_3 (by decide) ?_
  rw [show (31 : Int32) = nI 31 from rfl]
  refine r_icmp_ge (tgt := 35) F dX5_join_5 (by decide) (fun c5 => ?_) (fun c5 => ?_)
  · have hk : k = 31 := by rw [nI_leI (by omega) (by omega)] at c5; omega
    subst hk
    have hS0 : nmS v W9 (bd v 1204 16 0) := ⟨fun nm hnm => (hz9 nm hnm).1, fun nm hnm => (hz9 nm hnm).2.1, fun nm hnm => (hz9 nm hnm).2.2⟩
    refine r_iconst (v := 0) F dX5_join_35 (by decide) ?_
    refine r_istore_n F dX5_join_36 (by decide) ?_
    refine z_loop (fun n S9 lv => ∃ i W9, i + n = pS v 1204 6 ∧ zH t0 X S0 ad W9 S9 ∧ wr W9 ∧ (∀ d, d ≠ 16 → d ≠ 18 → d ≠ 20 → W9 d = W d) ∧ nmS v W9 (bd v 1204 16 i) ∧ lv = [(2, .int (nI i)), (0, .ref (ad 6)), (1, .ref (ad 36))]) (pS v 1204 6) ?_ ⟨0, W9, by omega, hH, hw9, hW9, hS0, rfl⟩
    clear hH hw9 hW9 hz9 ih hS0
    rintro n S lv ⟨i, W9, hn9, hH, hw9, hW9, hS9, rfl⟩ ih
    have h36 : ∀ d, 30 ≤ d → d < 40 → W9 d = W d := fun d d1 d2 => hW9 d (by omega) (by omega) (by omega)
    have hL9 : vl W9 36 (pS v 1204 6) (fun i => 900 + 2 * eN v 1204 16 i) := hL.same (h36 36 (by decide) (by decide)) (h36 37 (by decide) (by decide))
    have L0 : zA S (ad 36) 0 := hL9.al hH rfl rfl
    have L1 : zi S 2 (ad 36) = nI (pS v 1204 6) := hL9.z hH rfl rfl
    have L2 : zq S 1 (ad 36) = some (vlq t0 ad W9 36) := hL9.E hH rfl rfl
    refine r_iload_n F dX5_join_37 rfl ?_
    refine r_aload_n F dX5_join_38 rfl ?_
    refine c_Fi (ci := 0) F G (k_ListSize L0) (va_cwF 0 F.2.2.2.2 (zgF km_X5_23 ke_Jx4a65c_Jxbd725_size ki_Jx4a65c_size_8abf5 kn_Jx4a65c ko_Jx4a65c_size_8abf5) rfl rfl rfl (G.2.2.2.2.1 (⟨"java/util/List", "size", "()I"⟩, yJx4a65c_size_8abf5) (List.mem_of_getElem? (i := 0) rfl)) hdF_size ⟨Nat.le_of_ble_eq_true rfl, Nat.le_of_ble_eq_true rfl⟩) rfl (by decide) L0 rfl rfl (Nat.le_of_ble_eq_true rfl) dX5_join_39 ⟨Nat.le_of_ble_eq_true rfl, Nat.le_of_ble_eq_true rfl⟩ (fun r39 S39 h39 => ?_)
    obtain ⟨h39a, h39b⟩ := h39
    have h39c := h39b.symm
    subst h39c
    rw [L1] at h39a
    subst h39a
    refine r_icmp_ge (tgt := 67) F dX5_join_44 (by decide) (fun c44 => ?_) (fun c44 => ?_)
    · have hiN : i = pS v 1204 6 := by rw [nI_leI (by omega) (by omega)] at c44; omega
      subst hiN
      have hbt := bd_top (v := v) (t := 1204) (M := 16) (by decide) hc
      have hS96 : nmS v W9 96 := hS9.gap hbt.1 hbt.2
      have hQ0 : sq v W W9 0 := ⟨fun y hy ht => by rw [if_neg (Nat.not_lt_zero _)]; exact hW9 _ (show 900 + 2 * y ≠ 16 by omega) (show 900 + 2 * y ≠ 18 by omega) (show 900 + 2 * y ≠ 20 by omega), fun d d1 d2 d3 _ => hW9 d d1 d2 d3⟩
      refine r_iconst (v := 0) F dX5_join_67 (by decide) ?_
      refine r_istore_n F dX5_join_68 (by decide) ?_
      refine z_loop (fun n S9 lv => ∃ i W9, i + n = pS v 1204 6 ∧ zH t0 X S0 ad W9 S9 ∧ wr W9 ∧ nmS v W9 96 ∧ sq v W W9 i ∧ lv = [(2, .int (nI i)), (0, .ref (ad 6)), (1, .ref (ad 36))]) (pS v 1204 6) ?_ ⟨0, W9, by omega, hH, hw9, hS96, hQ0, rfl⟩
      clear hH hw9 hS9 hW9 ih hQ0 hS96
      rintro n S lv ⟨i, W9, hn9, hH, hw9, hS9, hQ9, rfl⟩ ih
      have h36 : ∀ d, 30 ≤ d → d < 40 → W9 d = W d := fun d d1 d2 => hQ9.2 d (by omega) (by omega) (by omega) (fun y _ _ => show d ≠ 900 + 2 * y by omega)
      have hL9 : vl W9 36 (pS v 1204 6) (fun i => 900 + 2 * eN v 1204 16 i) := hL.same (h36 36 (by decide) (by decide)) (h36 37 (by decide) (by decide))
      have L0 : zA S (ad 36) 0 := hL9.al hH rfl rfl
      have L1 : zi S 2 (ad 36) = nI (pS v 1204 6) := hL9.z hH rfl rfl
      have L2 : zq S 1 (ad 36) = some (vlq t0 ad W9 36) := hL9.E hH rfl rfl
      refine r_iload_n F dX5_join_69 rfl ?_
      refine r_aload_n F dX5_join_70 rfl ?_
      refine c_Fi (ci := 0) F G (k_ListSize L0) (va_cwF 0 F.2.2.2.2 (zgF km_X5_23 ke_Jx4a65c_Jxbd725_size ki_Jx4a65c_size_8abf5 kn_Jx4a65c ko_Jx4a65c_size_8abf5) rfl rfl rfl (G.2.2.2.2.1 (⟨"java/util/List", "size", "()I"⟩, yJx4a65c_size_8abf5) (List.mem_of_getElem? (i := 0) rfl)) hdF_size ⟨Nat.le_of_ble_eq_true rfl, Nat.le_of_ble_eq_true rfl⟩) rfl (by decide) L0 rfl rfl (Nat.le_of_ble_eq_true rfl) dX5_join_71 ⟨Nat.le_of_ble_eq_true rfl, Nat.le_of_ble_eq_true rfl⟩ (fun r71 S71 h71 => ?_)
      obtain ⟨h71a, h71b⟩ := h71
      have h71c := h71b.symm
      subst h71c
      rw [L1] at h71a
      subst h71a
      refine r_icmp_ge (tgt := 120) F dX5_join_76 (by decide) (fun c76 => ?_) (fun c76 => ?_)
      · have hiN : i = pS v 1204 6 := by rw [nI_leI (by omega) (by omega)] at c76; omega
        subst hiN
        exact e_vret F hr hlk ⟨W9, hH, hw9, hS9, hQ9⟩ (by decide) (by decide) dX5_join_120
      · have hi : i < pS v 1204 6 := by rw [nI_leI (by omega) (by omega)] at c76; omega
        obtain ⟨hy, ht, hp⟩ := eN_t (v := v) (t := 1204) (M := 16) (by decide) hc hi
        have hbl := bd_le (v := v) (t := 1204) (M := 16) (by decide) hc hi
        have gg := hL9.get hH rfl hi
        have hYi : rpY v W9 (eN v 1204 16 i) := hQ9.Y (hYs _ hy ht) hy ht
        have gA : zA S (ad (cY (eN v 1204 16 i))) 9 := hH.al hYi.1 rfl (kd_y _ hy)
        have k9 : kd (cY (eN v 1204 16 i)) < 13 := by rw [kd_y _ hy]; decide
        have J0 : zi S 903 (ad (cY (eN v 1204 16 i))) = v.1 1216 (eN v 1204 16 i) := (hH.i hYi.1 rfl k9).trans hYi.2.2.2.2.1
        have hnm := rg_1214 hv hy
        have J1 : zi S 901 (ad (cY (eN v 1204 16 i))) = nI (cn v 1214 (eN v 1204 16 i)) := (hH.i hYi.1 rfl k9).trans (hYi.2.2.1.trans hnm.1)
        have hnm2 := hnm.2
        have b6 : oa W9 6 := oa_eq (hQ9.2 6 (by decide) (by decide) (by decide) (fun y _ _ => show 6 ≠ 900 + 2 * y by omega)) a6
        have A0 : zA S (ad 6) 6 := hH.al b6 rfl rfl
        refine r_aload_n F dX5_join_79 rfl ?_
        refine r_iload_n F dX5_join_80 rfl ?_
        refine c_Fq (ci := 0) F G (k_get L0 L2 gg.1 L1 hi gg.2.1 gg.2.2.1) (va_cwF 1 F.2.2.2.2 (zgF km_X5_29 ke_Jx4a65c_Jxbd725_get ki_Jx4a65c_get_915e3 kn_Jx4a65c ko_Jx4a65c_get_915e3) rfl rfl rfl (G.2.2.2.2.1 (⟨"java/util/List", "get", "(I)Ljava/lang/Object;"⟩, yJx4a65c_get_915e3) (List.mem_of_getElem? (i := 2) rfl)) hdF_get ⟨Nat.le_of_ble_eq_true rfl, Nat.le_of_ble_eq_true rfl⟩) rfl (by decide) L0 rfl rfl (Nat.le_of_ble_eq_true rfl) dX5_join_81 ⟨Nat.le_of_ble_eq_true rfl, Nat.le_of_ble_eq_true rfl⟩ (fun r81 S81 h81 => ?_)
        obtain ⟨h81a, h81b⟩ := h81
        have h81c := h81b.symm
        subst h81c
        rw [gg.2.2.2] at h81a
        subst h81a
        refine r_cast (a := ad (cY (eN v 1204 16 i))) (ci := 9) F G gA (by decide) rfl (List.mem_of_getElem? (i := 4) rfl) (zin kc_X5_9) dX5_join_86 ?_
        refine r_astore_n (x := ad (cY (eN v 1204 16 i))) F dX5_join_89 (by decide) ?_
        refine r_aload_n F dX5_join_90 rfl ?_
        refine r_aload_n F dX5_join_91 rfl ?_
        refine r_getiS (ci := 9) (k := 3) (id := 903) (C := RX8) (T := TX8) (N := 8) F G rfl (by decide) (by decide) rfl (zinL inG9) (zin kf_X5_37) (fun _ h9 => h9) dX5_join_92 gA J0 ?_
        refine r_iconst (v := 2) F dX5_join_95 (by decide) ?_
        refine r_icmp_ne (tgt := 103) F dX5_join_96 (by decide) (fun c96 => ?_) (fun c96 => ?_)
        · refine r_aload_n F dX5_join_103 rfl ?_
          refine r_aload_n F dX5_join_104 rfl ?_
          refine r_getiS (ci := 9) (k := 1) (id := 901) (C := RX8) (T := TX8) (N := 8) F G rfl (by decide) (by decide) rfl (zinL inG9) (zin kf_X5_41) (fun _ h9 => h9) dX5_join_105 gA J1 ?_
          refine c_Vq (ci := 6) F G (c_definer hH hw9 b6 rfl (by omega)) (cwV 1 F.2.2.2.2 (zgV km_X5_44 ki_X5_definer ke_X5_X5_definer kn_X5 ko_X5_definer) rfl rfl rfl ⟨rfl, hd_yX5_definer⟩ ⟨Nat.le_of_ble_eq_true rfl, Nat.le_of_ble_eq_true rfl⟩) rfl (by decide) A0 rfl rfl (Nat.le_of_ble_eq_true rfl) dX5_join_108 ⟨Nat.le_of_ble_eq_true rfl, Nat.le_of_ble_eq_true rfl⟩ (fun r108 S108 h108 => ?_)
          obtain ⟨h108a, h108b⟩ := h108
          have h108c := h108b.symm
          subst h108c
          subst h108a
          refine r_putq (v := ((orq W9 18 (cn v 1214 (eN v 1204 16 i))).or (orq W9 20 (cn v 1214 (eN v 1204 16 i)))).map ad) (ci := 9) (k := 7) (id := 907) (C := RX8) (T := TX8) (N := 8) (ty := (.object "ObjectLinker$Symbol")) (ty0 := tyX8) F G rfl (by decide) (by decide) rfl (zinL inG9) (zin kf_X5_48) (fun _ h9 => h9) tyX8_ok nmX8 rfl pd9_7 rfl (by cases (Option.map ad _) <;> rfl) dX5_join_111 gA ?_
          have t18 : orq W9 18 (cn v 1214 (eN v 1204 16 i)) = (fnd (ySt v (nI (cn v 1214 (eN v 1204 16 i)))) 96).map cY := hS9.2.1 (cn v 1214 (eN v 1204 16 i)) (by omega)
          have t20 : orq W9 20 (cn v 1214 (eN v 1204 16 i)) = (fnd (yWk v (nI (cn v 1214 (eN v 1204 16 i)))) 96).map cY := hS9.2.2 (cn v 1214 (eN v 1204 16 i)) (by omega)
          have b18 : oa W9 18 := hw9.a b6 (id := 601) (by decide) rfl
          have b20 : oa W9 20 := hw9.a b6 (id := 602) (by decide) rfl
          have hal9 : ∀ d, (((fnd (ySt v (v.1 1214 (eN v 1204 16 i))) 96).or (fnd (yWk v (v.1 1214 (eN v 1204 16 i))) 96)).map cY) = some d → oa W9 d ∧ d % 2 = 0 := fun d hd => by
            rw [hnm.1] at hd
            cases hs : fnd (ySt v (nI (cn v 1214 (eN v 1204 16 i)))) 96 with
            | some z =>
              rw [hs] at hd
              exact (hH.cl b18).2 (cn v 1214 (eN v 1204 16 i)) d (by show orq W9 18 _ = some d; rw [t18, hs]; exact hd)
            | none =>
              rw [hs] at hd
              exact (hH.cl b20).2 (cn v 1214 (eN v 1204 16 i)) d (by show orq W9 20 _ = some d; rw [t20]; exact hd)
          have hsrc : src v (eN v 1204 16 i) = ((fnd (ySt v (v.1 1214 (eN v 1204 16 i))) 96).or (fnd (yWk v (v.1 1214 (eN v 1204 16 i))) 96)) := if_neg c96
          have hev : ∀ d, ((((fnd (ySt v (v.1 1214 (eN v 1204 16 i))) 96).or (fnd (yWk v (v.1 1214 (eN v 1204 16 i))) 96))).map cY : Option Nat) = some d → d = 0 ∨ (oa W9 d ∧ d % 2 = 0) := fun d hd => Or.inr (hal9 d hd)
          have hH7 := hH.pq (id := 907) hYi.1 rfl (kd_y _ hy) (by decide) ((((fnd (ySt v (v.1 1214 (eN v 1204 16 i))) 96).or (fnd (yWk v (v.1 1214 (eN v 1204 16 i))) 96))).map cY) (x2 := ((orq W9 18 (cn v 1214 (eN v 1204 16 i))).or (orq W9 20 (cn v 1214 (eN v 1204 16 i)))).map ad) (by rw [t18, t20, hnm.1]; cases fnd (ySt v (nI (cn v 1214 (eN v 1204 16 i)))) 96 <;> cases fnd (yWk v (nI (cn v 1214 (eN v 1204 16 i)))) 96 <;> rfl) hev
          refine zgen (P := zH t0 X S0 ad (oQ W9 (cY (eN v 1204 16 i)) 907 ((((fnd (ySt v (v.1 1214 (eN v 1204 16 i))) 96).or (fnd (yWk v (v.1 1214 (eN v 1204 16 i))) 96))).map cY))) hH7 (fun S hH => ?_)
          refine r_iinc F dX5_join_114 rfl (by decide) ?_
          refine r_goto (tgt := 69) F dX5_join_117 (by decide) ?_
          refine zsub (lv' := [(2, .int (nI (i + 1))), (0, .ref (ad 6)), (1, .ref (ad 36))]) (by rw [show nI (i + 1) = nI i + Int32.ofInt 1 from (nI_add i 1).symm]; simp [zs1, Value.category, show ((1 : Fin 4) : Nat) = 1 from rfl, show ((2 : Fin 4) : Nat) = 2 from rfl, show ((3 : Fin 4) : Nat) = 3 from rfl]) ?_
          have hc9 : ∀ d, d ≠ cY (eN v 1204 16 i) → oQ W9 (cY (eN v 1204 16 i)) 907 ((((fnd (ySt v (v.1 1214 (eN v 1204 16 i))) 96).or (fnd (yWk v (v.1 1214 (eN v 1204 16 i))) 96))).map cY) d = W9 d := fun d hd => va_up_ne _ _ hd
          have hcs : oQ W9 (cY (eN v 1204 16 i)) 907 ((((fnd (ySt v (v.1 1214 (eN v 1204 16 i))) 96).or (fnd (yWk v (v.1 1214 (eN v 1204 16 i))) 96))).map cY) (cY (eN v 1204 16 i)) = eQ (W9 (cY (eN v 1204 16 i))) 907 ((((fnd (ySt v (v.1 1214 (eN v 1204 16 i))) 96).or (fnd (yWk v (v.1 1214 (eN v 1204 16 i))) 96))).map cY) := va_up_self _ _ _
          have hrow : ∀ d, d = 16 ∨ d = 18 ∨ d = 20 → orq (oQ W9 (cY (eN v 1204 16 i)) 907 ((((fnd (ySt v (v.1 1214 (eN v 1204 16 i))) 96).or (fnd (yWk v (v.1 1214 (eN v 1204 16 i))) 96))).map cY)) d = orq W9 d := fun d hd => by
            show (oQ W9 (cY (eN v 1204 16 i)) 907 ((((fnd (ySt v (v.1 1214 (eN v 1204 16 i))) 96).or (fnd (yWk v (v.1 1214 (eN v 1204 16 i))) 96))).map cY) d).2.2.2.2.2.2.2 = _
            rw [hc9 d (show d ≠ 900 + 2 * _ by omega)]
          exact ih (n - 1) _ _ (by omega) ⟨i + 1, oQ W9 (cY (eN v 1204 16 i)) 907 ((((fnd (ySt v (v.1 1214 (eN v 1204 16 i))) 96).or (fnd (yWk v (v.1 1214 (eN v 1204 16 i))) 96))).map cY), by omega, hH, hw9.Q hYi.1 (by decide), ⟨by rw [hrow 16 (by decide)]; exact hS9.1, by rw [hrow 18 (by decide)]; exact hS9.2.1, by rw [hrow 20 (by decide)]; exact hS9.2.2⟩, ⟨fun y hy2 ht2 => by
            have h1 := hQ9.1 y hy2 ht2
            by_cases e9 : y = (eN v 1204 16 i)
            · subst e9
              rw [hcs, h1, if_neg (by omega), if_pos (by omega), hsrc]
            · rw [hc9 _ (fun h9 => e9 (by have h8 : 900 + 2 * y = 900 + 2 * (eN v 1204 16 i) := h9; omega)), h1]
              have hne : pN v 1204 16 y ≠ i := fun h9 => e9 (by rw [← h9]; exact (eN_at (by decide) hy2 ht2).symm)
              by_cases h8 : pN v 1204 16 y < i
              · rw [if_pos h8, if_pos (by omega)]
              · rw [if_neg h8, if_neg (by omega)], fun d d1 d2 d3 hd => (hc9 d (hd _ hy ht)).trans (hQ9.2 d d1 d2 d3 hd)⟩, rfl⟩
        · refine r_aload_n F dX5_join_99 rfl ?_
          refine r_goto (tgt := 111) F dX5_join_100 (by decide) ?_
          refine r_putq (v := some (ad (cY (eN v 1204 16 i)))) (ci := 9) (k := 7) (id := 907) (C := RX8) (T := TX8) (N := 8) (ty := (.object "ObjectLinker$Symbol")) (ty0 := tyX8) F G rfl (by decide) (by decide) rfl (zinL inG9) (zin kf_X5_48) (fun _ h9 => h9) tyX8_ok nmX8 rfl pd9_7 rfl rfl dX5_join_111 gA ?_
          have hal9 : ∀ d, ((some (eN v 1204 16 i) : Option Nat).map cY) = some d → oa W9 d ∧ d % 2 = 0 := fun d hd => by cases hd; exact ⟨hYi.1, show (900 + 2 * _) % 2 = 0 by omega⟩
          have hsrc : src v (eN v 1204 16 i) = some (eN v 1204 16 i) := if_pos c96
          have hev : ∀ d, ((some (eN v 1204 16 i)).map cY : Option Nat) = some d → d = 0 ∨ (oa W9 d ∧ d % 2 = 0) := fun d hd => Or.inr (hal9 d hd)
          have hH7 := hH.pq (id := 907) hYi.1 rfl (kd_y _ hy) (by decide) ((some (eN v 1204 16 i)).map cY) (x2 := some (ad (cY (eN v 1204 16 i)))) rfl hev
          refine zgen (P := zH t0 X S0 ad (oQ W9 (cY (eN v 1204 16 i)) 907 ((some (eN v 1204 16 i)).map cY))) hH7 (fun S hH => ?_)
          refine r_iinc F dX5_join_114 rfl (by decide) ?_
          refine r_goto (tgt := 69) F dX5_join_117 (by decide) ?_
          refine zsub (lv' := [(2, .int (nI (i + 1))), (0, .ref (ad 6)), (1, .ref (ad 36))]) (by rw [show nI (i + 1) = nI i + Int32.ofInt 1 from (nI_add i 1).symm]; simp [zs1, Value.category, show ((1 : Fin 4) : Nat) = 1 from rfl, show ((2 : Fin 4) : Nat) = 2 from rfl, show ((3 : Fin 4) : Nat) = 3 from rfl]) ?_
          have hc9 : ∀ d, d ≠ cY (eN v 1204 16 i) → oQ W9 (cY (eN v 1204 16 i)) 907 ((some (eN v 1204 16 i)).map cY) d = W9 d := fun d hd => va_up_ne _ _ hd
          have hcs : oQ W9 (cY (eN v 1204 16 i)) 907 ((some (eN v 1204 16 i)).map cY) (cY (eN v 1204 16 i)) = eQ (W9 (cY (eN v 1204 16 i))) 907 ((some (eN v 1204 16 i)).map cY) := va_up_self _ _ _
          have hrow : ∀ d, d = 16 ∨ d = 18 ∨ d = 20 → orq (oQ W9 (cY (eN v 1204 16 i)) 907 ((some (eN v 1204 16 i)).map cY)) d = orq W9 d := fun d hd => by
            show (oQ W9 (cY (eN v 1204 16 i)) 907 ((some (eN v 1204 16 i)).map cY) d).2.2.2.2.2.2.2 = _
            rw [hc9 d (show d ≠ 900 + 2 * _ by omega)]
          exact ih (n - 1) _ _ (by omega) ⟨i + 1, oQ W9 (cY (eN v 1204 16 i)) 907 ((some (eN v 1204 16 i)).map cY), by omega, hH, hw9.Q hYi.1 (by decide), ⟨by rw [hrow 16 (by decide)]; exact hS9.1, by rw [hrow 18 (by decide)]; exact hS9.2.1, by rw [hrow 20 (by decide)]; exact hS9.2.2⟩, ⟨fun y hy2 ht2 => by
            have h1 := hQ9.1 y hy2 ht2
            by_cases e9 : y = (eN v 1204 16 i)
            · subst e9
              rw [hcs, h1, if_neg (by omega), if_pos (by omega), hsrc]
            · rw [hc9 _ (fun h9 => e9 (by have h8 : 900 + 2 * y = 900 + 2 * (eN v 1204 16 i) := h9; omega)), h1]
              have hne : pN v 1204 16 y ≠ i := fun h9 => e9 (by rw [← h9]; exact (eN_at (by decide) hy2 ht2).symm)
              by_cases h8 : pN v 1204 16 y < i
              · rw [if_pos h8, if_pos (by omega)]
              · rw [if_neg h8, if_neg (by omega)], fun d d1 d2 d3 hd => (hc9 d (hd _ hy ht)).trans (hQ9.2 d d1 d2 d3 hd)⟩, rfl⟩
    · have hi : i < pS v 1204 6 := by rw [nI_leI (by omega) (by omega)] at c44; omega
      obtain ⟨hy, ht, hp⟩ := eN_t (v := v) (t := 1204) (M := 16) (by decide) hc hi
      have hbl := bd_le (v := v) (t := 1204) (M := 16) (by decide) hc hi
      have gg := hL9.get hH rfl hi
      have hYi : rpY v W9 (eN v 1204 16 i) := (hYs _ hy ht).same (fun _ _ => rfl) (hW9 _ (show 900 + 2 * _ ≠ 16 by omega) (show 900 + 2 * _ ≠ 18 by omega) (show 900 + 2 * _ ≠ 20 by omega))
      have gA : zA S (ad (cY (eN v 1204 16 i))) 9 := hH.al hYi.1 rfl (kd_y _ hy)
      have b6 : oa W9 6 := oa_eq (hW9 6 (by decide) (by decide) (by decide)) a6
      have A0 : zA S (ad 6) 6 := hH.al b6 rfl rfl
      refine r_aload_n F dX5_join_47 rfl ?_
      refine r_aload_n F dX5_join_48 rfl ?_
      refine r_iload_n F dX5_join_49 rfl ?_
      refine c_Fq (ci := 0) F G (k_get L0 L2 gg.1 L1 hi gg.2.1 gg.2.2.1) (va_cwF 1 F.2.2.2.2 (zgF km_X5_29 ke_Jx4a65c_Jxbd725_get ki_Jx4a65c_get_915e3 kn_Jx4a65c ko_Jx4a65c_get_915e3) rfl rfl rfl (G.2.2.2.2.1 (⟨"java/util/List", "get", "(I)Ljava/lang/Object;"⟩, yJx4a65c_get_915e3) (List.mem_of_getElem? (i := 2) rfl)) hdF_get ⟨Nat.le_of_ble_eq_true rfl, Nat.le_of_ble_eq_true rfl⟩) rfl (by decide) L0 rfl rfl (Nat.le_of_ble_eq_true rfl) dX5_join_50 ⟨Nat.le_of_ble_eq_true rfl, Nat.le_of_ble_eq_true rfl⟩ (fun r50 S50 h50 => ?_)
      obtain ⟨h50a, h50b⟩ := h50
      have h50c := h50b.symm
      subst h50c
      rw [gg.2.2.2] at h50a
      subst h50a
      refine r_cast (a := ad (cY (eN v 1204 16 i))) (ci := 9) F G gA (by decide) rfl (List.mem_of_getElem? (i := 4) rfl) (zin kc_X5_9) dX5_join_55 ?_
      refine c_Vv (ci := 6) F G (c_note hH hw9 b6 rfl rfl hYi hv hy ht (hS9.gap hbl.1 hbl.2)) (cwV 1 F.2.2.2.2 (zgV km_X5_33 ki_X5_note ke_X5_X5_note kn_X5 ko_X5_note) rfl rfl rfl ⟨rfl, hd_yX5_note⟩ ⟨Nat.le_of_ble_eq_true rfl, Nat.le_of_ble_eq_true rfl⟩) rfl (by decide) A0 rfl rfl (Nat.le_of_ble_eq_true rfl) dX5_join_58 ⟨Nat.le_of_ble_eq_true rfl, Nat.le_of_ble_eq_true rfl⟩ (fun S58 h58 => ?_)
      obtain ⟨W8, hH8, hw8, hS8, hW8⟩ := h58
      refine r_iinc F dX5_join_61 rfl (by decide) ?_
      refine r_goto (tgt := 37) F dX5_join_64 (by decide) ?_
      have hW88 : ∀ d, d ≠ 16 → d ≠ 18 → d ≠ 20 → W8 d = W d := fun d d1 d2 d3 => (hW8 d d1 d2 d3).trans (hW9 d d1 d2 d3)
      exact ih (n - 1) _ _ (by omega) ⟨i + 1, W8, by omega, hH8, hw8, hW88, by rw [bd_s]; exact hS8, by rw [show nI i + Int32.ofInt 1 = nI (i + 1) from nI_add i 1]; rfl⟩
  · have hk : k < 31 := by rw [nI_leI (by omega) (by omega)] at c5; omega
    refine r_aload_n F dX5_join_8 rfl ?_
    refine r_getS (ci := 6) (k := 0) (id := 600) (C := RX5) (T := TX5) (N := 3) F G rfl (by decide) (by decide) rfl (zinL inG6) (zin kf_X5_11) (fun _ h9 => h9) dX5_join_9 A0 Q0 ?_
    refine r_iload_n F dX5_join_12 rfl ?_
    refine r_null F dX5_join_13 ?_
    refine v_astNS F G hH b16 rfl rfl (by omega) (by omega) dX5_join_14 (fun S hH => ?_)
    have hw1 : wr (oRq W9 16 (va_up (orq W9 16) k none)) := hw9.Rq b16
    have d6_1 : oa (oRq W9 16 (va_up (orq W9 16) k none)) 6 := (oaRq b16).mpr b6
    have A1 : zA S (ad 6) 6 := hH.al d6_1 rfl rfl
    have Q1 : zq S 601 (ad 6) = some (ad 18) := hH.qS d6_1 rfl (by decide) (hw1.q d6_1 (by decide) rfl) rfl
    have e18 : oa (oRq W9 16 (va_up (orq W9 16) k none)) 18 := (oaRq b16).mpr b18
    have e20 : oa (oRq W9 16 (va_up (orq W9 16) k none)) 20 := (oaRq b16).mpr b20
    have x18 : onn (oRq W9 16 (va_up (orq W9 16) k none)) 18 = 31 := hw1.n d6_1 (id := 601) (by decide) rfl (by decide)
    refine r_aload_n F dX5_join_15 rfl ?_
    refine r_getS (ci := 6) (k := 1) (id := 601) (C := RX5) (T := TX5) (N := 3) F G rfl (by decide) (by decide) rfl (zinL inG6) (zin kf_X5_17) (fun _ h9 => h9) dX5_join_16 A1 Q1 ?_
    refine r_iload_n F dX5_join_19 rfl ?_
    refine r_null F dX5_join_20 ?_
    refine v_astNS F G hH e18 rfl rfl (by omega) (by omega) dX5_join_21 (fun S hH => ?_)
    have hw2 : wr (oRq (oRq W9 16 (va_up (orq W9 16) k none)) 18 (va_up (orq (oRq W9 16 (va_up (orq W9 16) k none)) 18) k none)) := hw1.Rq e18
    have d6_2 : oa (oRq (oRq W9 16 (va_up (orq W9 16) k none)) 18 (va_up (orq (oRq W9 16 (va_up (orq W9 16) k none)) 18) k none)) 6 := (oaRq e18).mpr d6_1
    have A2 : zA S (ad 6) 6 := hH.al d6_2 rfl rfl
    have Q2 : zq S 602 (ad 6) = some (ad 20) := hH.qS d6_2 rfl (by decide) (hw2.q d6_2 (by decide) rfl) rfl
    have g20 : oa (oRq (oRq W9 16 (va_up (orq W9 16) k none)) 18 (va_up (orq (oRq W9 16 (va_up (orq W9 16) k none)) 18) k none)) 20 := (oaRq e18).mpr e20
    have x20 : onn (oRq (oRq W9 16 (va_up (orq W9 16) k none)) 18 (va_up (orq (oRq W9 16 (va_up (orq W9 16) k none)) 18) k none)) 20 = 31 := hw2.n d6_2 (id := 602) (by decide) rfl (by decide)
    refine r_aload_n F dX5_join_22 rfl ?_
    refine r_getS (ci := 6) (k := 2) (id := 602) (C := RX5) (T := TX5) (N := 3) F G rfl (by decide) (by decide) rfl (zinL inG6) (zin kf_X5_20) (fun _ h9 => h9) dX5_join_23 A2 Q2 ?_
    refine r_iload_n F dX5_join_26 rfl ?_
    refine r_null F dX5_join_27 ?_
    refine v_astNS F G hH g20 rfl rfl (by omega) (by omega) dX5_join_28 (fun S hH => ?_)
    have hw3 : wr (oRq (oRq (oRq W9 16 (va_up (orq W9 16) k none)) 18 (va_up (orq (oRq W9 16 (va_up (orq W9 16) k none)) 18) k none)) 20 (va_up (orq (oRq (oRq W9 16 (va_up (orq W9 16) k none)) 18 (va_up (orq (oRq W9 16 (va_up (orq W9 16) k none)) 18) k none)) 20) k none)) := hw2.Rq g20
    have c16 : (oRq (oRq (oRq W9 16 (va_up (orq W9 16) k none)) 18 (va_up (orq (oRq W9 16 (va_up (orq W9 16) k none)) 18) k none)) 20 (va_up (orq (oRq (oRq W9 16 (va_up (orq W9 16) k none)) 18 (va_up (orq (oRq W9 16 (va_up (orq W9 16) k none)) 18) k none)) 20) k none)) 16 = eRq (W9 16) (va_up (orq W9 16) k none) := (va_up_ne _ _ (by decide)).trans ((va_up_ne _ _ (by decide)).trans (va_up_self _ _ _))
    have c18 : (oRq (oRq (oRq W9 16 (va_up (orq W9 16) k none)) 18 (va_up (orq (oRq W9 16 (va_up (orq W9 16) k none)) 18) k none)) 20 (va_up (orq (oRq (oRq W9 16 (va_up (orq W9 16) k none)) 18 (va_up (orq (oRq W9 16 (va_up (orq W9 16) k none)) 18) k none)) 20) k none)) 18 = eRq (W9 18) (va_up (orq W9 18) k none) := (va_up_ne _ _ (by decide)).trans ((va_up_self _ _ _).trans (by
      show eRq ((oRq W9 16 (va_up (orq W9 16) k none)) 18) (va_up ((oRq W9 16 (va_up (orq W9 16) k none)) 18).2.2.2.2.2.2.2 k none) = _
      rw [show (oRq W9 16 (va_up (orq W9 16) k none)) 18 = W9 18 from va_up_ne _ _ (by decide)]))
    have c20 : (oRq (oRq (oRq W9 16 (va_up (orq W9 16) k none)) 18 (va_up (orq (oRq W9 16 (va_up (orq W9 16) k none)) 18) k none)) 20 (va_up (orq (oRq (oRq W9 16 (va_up (orq W9 16) k none)) 18 (va_up (orq (oRq W9 16 (va_up (orq W9 16) k none)) 18) k none)) 20) k none)) 20 = eRq (W9 20) (va_up (orq W9 20) k none) := (va_up_self _ _ _).trans (by
      show eRq ((oRq (oRq W9 16 (va_up (orq W9 16) k none)) 18 (va_up (orq (oRq W9 16 (va_up (orq W9 16) k none)) 18) k none)) 20) (va_up ((oRq (oRq W9 16 (va_up (orq W9 16) k none)) 18 (va_up (orq (oRq W9 16 (va_up (orq W9 16) k none)) 18) k none)) 20).2.2.2.2.2.2.2 k none) = _
      rw [show (oRq (oRq W9 16 (va_up (orq W9 16) k none)) 18 (va_up (orq (oRq W9 16 (va_up (orq W9 16) k none)) 18) k none)) 20 = W9 20 from (va_up_ne _ _ (by decide)).trans (va_up_ne _ _ (by decide))])
    have hW3 : ∀ d, d ≠ 16 → d ≠ 18 → d ≠ 20 → (oRq (oRq (oRq W9 16 (va_up (orq W9 16) k none)) 18 (va_up (orq (oRq W9 16 (va_up (orq W9 16) k none)) 18) k none)) 20 (va_up (orq (oRq (oRq W9 16 (va_up (orq W9 16) k none)) 18 (va_up (orq (oRq W9 16 (va_up (orq W9 16) k none)) 18) k none)) 20) k none)) d = W d := fun d d1 d2 d3 => (va_up_ne _ _ d3).trans ((va_up_ne _ _ d2).trans ((va_up_ne _ _ d1).trans (hW9 d d1 d2 d3)))
    have hz3 : ∀ nm, nm < k + 1 → orq (oRq (oRq (oRq W9 16 (va_up (orq W9 16) k none)) 18 (va_up (orq (oRq W9 16 (va_up (orq W9 16) k none)) 18) k none)) 20 (va_up (orq (oRq (oRq W9 16 (va_up (orq W9 16) k none)) 18 (va_up (orq (oRq W9 16 (va_up (orq W9 16) k none)) 18) k none)) 20) k none)) 16 nm = none ∧ orq (oRq (oRq (oRq W9 16 (va_up (orq W9 16) k none)) 18 (va_up (orq (oRq W9 16 (va_up (orq W9 16) k none)) 18) k none)) 20 (va_up (orq (oRq (oRq W9 16 (va_up (orq W9 16) k none)) 18 (va_up (orq (oRq W9 16 (va_up (orq W9 16) k none)) 18) k none)) 20) k none)) 18 nm = none ∧ orq (oRq (oRq (oRq W9 16 (va_up (orq W9 16) k none)) 18 (va_up (orq (oRq W9 16 (va_up (orq W9 16) k none)) 18) k none)) 20 (va_up (orq (oRq (oRq W9 16 (va_up (orq W9 16) k none)) 18 (va_up (orq (oRq W9 16 (va_up (orq W9 16) k none)) 18) k none)) 20) k none)) 20 nm = none := fun nm hnm => by
      have h9 : ∀ f : Nat → Option Nat, (nm < k → f nm = none) → va_up f k none nm = none := fun f hf => by
        by_cases e9 : nm = k
        · subst e9; exact va_up_self _ _ _
        · rw [va_up_ne _ _ e9]; exact hf (by omega)
      refine ⟨?_, ?_, ?_⟩
      · show ((oRq (oRq (oRq W9 16 (va_up (orq W9 16) k none)) 18 (va_up (orq (oRq W9 16 (va_up (orq W9 16) k none)) 18) k none)) 20 (va_up (orq (oRq (oRq W9 16 (va_up (orq W9 16) k none)) 18 (va_up (orq (oRq W9 16 (va_up (orq W9 16) k none)) 18) k none)) 20) k none)) 16).2.2.2.2.2.2.2 nm = none
        rw [c16]; exact h9 _ (fun q => (hz9 nm q).1)
      · show ((oRq (oRq (oRq W9 16 (va_up (orq W9 16) k none)) 18 (va_up (orq (oRq W9 16 (va_up (orq W9 16) k none)) 18) k none)) 20 (va_up (orq (oRq (oRq W9 16 (va_up (orq W9 16) k none)) 18 (va_up (orq (oRq W9 16 (va_up (orq W9 16) k none)) 18) k none)) 20) k none)) 18).2.2.2.2.2.2.2 nm = none
        rw [c18]; exact h9 _ (fun q => (hz9 nm q).2.1)
      · show ((oRq (oRq (oRq W9 16 (va_up (orq W9 16) k none)) 18 (va_up (orq (oRq W9 16 (va_up (orq W9 16) k none)) 18) k none)) 20 (va_up (orq (oRq (oRq W9 16 (va_up (orq W9 16) k none)) 18 (va_up (orq (oRq W9 16 (va_up (orq W9 16) k none)) 18) k none)) 20) k none)) 20).2.2.2.2.2.2.2 nm = none
        rw [c20]; exact h9 _ (fun q => (hz9 nm q).2.2)
    refine r_iinc F dX5_join_29 rfl (by decide) ?_
    refine r_goto (tgt := 2) F dX5_join_32 (by decide) ?_
    exact ih (n - 1) _ _ (by omega) ⟨k + 1, (oRq (oRq (oRq W9 16 (va_up (orq W9 16) k none)) 18 (va_up (orq (oRq W9 16 (va_up (orq W9 16) k none)) 18) k none)) 20 (va_up (orq (oRq (oRq W9 16 (va_up (orq W9 16) k none)) 18 (va_up (orq (oRq W9 16 (va_up (orq W9 16) k none)) 18) k none)) 20) k none)), by omega, hH, hw3, hW3, hz3, by rw [show nI k + Int32.ofInt 1 = nI (k + 1) from nI_add k 1]; rfl⟩
