theorem vp_fits {x : Int32} (h : vp_nar .byte x = x) : fits .byte (.int x) = true := by
  have h1 := fits_narrow_byte x
  have h2 : narrow .byte (.int x) = .int (vp_nar .byte x) := rfl
  rw [h2, h] at h1
  exact h1
theorem mG_gap {v : zV} {a : Nat} : ∀ d, (∀ x, a ≤ x → x < a + d → ¬ x % 4 < cn v 1203 (x / 4)) → mG v (a + d) = mG v a
  | 0, _ => rfl
  | d + 1, h => by
    have h1 : mG v (a + d + 1) = mG v (a + d) := if_neg (h (a + d) (by omega) (by omega))
    rw [← Nat.add_assoc, h1]
    exact mG_gap d (fun x q1 q2 => h x q1 (by omega))
theorem mG_g2 {v : zV} {a b : Nat} (h : a ≤ b) (hn : ∀ x, a ≤ x → x < b → ¬ x % 4 < cn v 1203 (x / 4)) : mG v b = mG v a := by
  have := mG_gap (v := v) (a := a) (b - a) (fun x q1 q2 => hn x q1 (by omega))
  rw [show a + (b - a) = b by omega] at this
  exact this
set_option maxRecDepth 100000 in
set_option maxHeartbeats 4000000 in
theorem c_fillB {l : Launch} {N0 t0 : Nat} {D : va_G} {cy : Nat → ClassId} {S : zS} {X : Nat → Prop} {S0 : zS} {ad : Nat → Nat} {W : zO} (hH : zH t0 X S0 ad W S) {d a : Nat} {x : Int32} (hd : oa W d) (ea : ad d = a) (hk : kd d = 13) (hN : onn W d < 2 ^ 31) : zMv l yJ7_fill_031fb (zws yJ7_fill_031fb cJ7_fill_031fb 4 none) { frames := 0, cells := 0, slots := 0, locals := 0 } N0 t0 D cy S [.ref a, .int x] (fun S' => ∃ g9, zH t0 X S0 ad (oRi W d g9) S' ∧ ∀ k, k < onn W d → g9 k = vp_nar .byte x) 0 0 := by
  refine zMv.of (cc := cJ7_fill_031fb) (maxL := 4) (ret := none) (by decide) rfl (Nat.le_of_ble_eq_true rfl) ?_
  intro p e s m args below meth c F G hr hlk hnm
  refine r_iconst (v := 0) F dJ7_fill_031fb_0 (by decide) ?_
  refine r_istore_n F dJ7_fill_031fb_1 (by decide) ?_
  refine r_aload_n F dJ7_fill_031fb_2 rfl ?_
  refine v_alen (n := 0) (j := 0) F G hH hd ea hk rfl rfl dJ7_fill_031fb_3 ?_
  refine r_istore_n F dJ7_fill_031fb_4 (by decide) ?_
  refine zsub (lv' := [(2, .int (nI 0)), (3, .int (nI (onn W d))), (0, .ref a), (1, .int x)]) (by simp [zs1, zs2, lv_args, Value.category, show ((1 : Fin 4) : Nat) = 1 from rfl, show ((2 : Fin 4) : Nat) = 2 from rfl, show ((3 : Fin 4) : Nat) = 3 from rfl, show nI 0 = (0 : Int32) from rfl]) ?_
  have e00 : oRi W d (ori W d) = W := by
    funext c
    by_cases e : c = d
    · subst e
      exact va_up_self _ _ _
    · exact va_up_ne _ _ e
  rw [← e00] at hH
  refine z_loop (fun n9 S9 lv => ∃ (j : Nat) (g9 : Nat → Int32), j + n9 = onn W d ∧ zH t0 X S0 ad (oRi W d g9) S9 ∧ (∀ k, k < j → g9 k = vp_nar .byte x) ∧ lv = [(2, .int (nI j)), (3, .int (nI (onn W d))), (0, .ref a), (1, .int x)]) (onn W d) ?_ ⟨0, ori W d, Nat.zero_add _, hH, fun k hk9 => absurd hk9 (Nat.not_lt_zero k), rfl⟩
  clear hH
  rintro n9 S lv ⟨j, g9, hjn, hH, hg9, rfl⟩ ih
  refine r_iload_n F dJ7_fill_031fb_5 rfl ?_
  refine r_iload_n F dJ7_fill_031fb_6 rfl ?_
  refine r_icmp_ge (tgt := 20) F dJ7_fill_031fb_7 (by decide) (fun c7 => ?_) (fun c7 => ?_)
  · have hj : j = onn W d := by have c9 := c7; rw [nI_leI (by omega) (by omega)] at c9; omega
    exact e_vret F hr hlk ⟨g9, hH, fun k hk9 => hg9 k (by omega)⟩ (by decide) (by decide) dJ7_fill_031fb_20
  · have hj : j < onn W d := by have c9 := c7; rw [nI_leI (by omega) (by omega)] at c9; omega
    have hd1 : oa (oRi W d g9) d := (oaRi hd).mpr hd
    have hN1 : onn (oRi W d g9) d = onn W d := by
      show (oRi W d g9 d).2.2.2.2.1 = _
      rw [show oRi W d g9 d = eRi (W d) g9 from va_up_self _ _ _]
    refine r_aload_n F dJ7_fill_031fb_10 rfl ?_
    refine r_iload_n F dJ7_fill_031fb_11 rfl ?_
    refine r_iload_n F dJ7_fill_031fb_12 rfl ?_
    refine v_bast F G hH hd1 ea hk (by rw [hN1]; exact hj) (by rw [hN1]; exact hN) dJ7_fill_031fb_13 (fun S hH => ?_)
    have e1 : oRi (oRi W d g9) d (upd (ori (oRi W d g9) d) j (vp_nar .byte x)) = oRi W d (upd g9 j (vp_nar .byte x)) := by
      have e0 : oRi W d g9 d = eRi (W d) g9 := va_up_self W d (eRi (W d) g9)
      funext c
      by_cases e : c = d
      · subst e
        rw [show oRi (oRi W c g9) c (upd (ori (oRi W c g9) c) j (vp_nar .byte x)) c = eRi (oRi W c g9 c) (upd (ori (oRi W c g9) c) j (vp_nar .byte x)) from va_up_self _ _ _, show oRi W c (upd g9 j (vp_nar .byte x)) c = eRi (W c) (upd g9 j (vp_nar .byte x)) from va_up_self _ _ _]
        unfold ori
        rw [e0]
      · rw [show oRi (oRi W d g9) d (upd (ori (oRi W d g9) d) j (vp_nar .byte x)) c = oRi W d g9 c from va_up_ne _ _ e, show oRi W d g9 c = W c from va_up_ne _ _ e, show oRi W d (upd g9 j (vp_nar .byte x)) c = W c from va_up_ne _ _ e]
    rw [e1] at hH
    refine r_iinc F dJ7_fill_031fb_14 rfl (by decide) ?_
    refine r_goto (tgt := 5) F dJ7_fill_031fb_17 (by decide) ?_
    refine zsub (lv' := [(2, .int (nI (j + 1))), (3, .int (nI (onn W d))), (0, .ref a), (1, .int x)]) (by rw [show nI (j + 1) = nI j + Int32.ofInt 1 from (nI_add j 1).symm]; simp [zs1, zs2, lv_args, Value.category, show ((1 : Fin 4) : Nat) = 1 from rfl, show ((2 : Fin 4) : Nat) = 2 from rfl, show ((3 : Fin 4) : Nat) = 3 from rfl, show nI 0 = (0 : Int32) from rfl]) ?_
    refine ih (n9 - 1) _ _ (by omega) ⟨j + 1, _, by omega, hH, fun k hk9 => ?_, rfl⟩
    by_cases e : k = j
    · rw [e]; exact upd_s
    · exact (upd_n e).trans (hg9 k (by omega))
set_option maxRecDepth 100000 in
set_option maxHeartbeats 4000000 in
theorem c_mprep {l : Launch} {N0 t0 : Nat} {D : va_G} {cy : Nat → ClassId} {S : zS} {X : Nat → Prop} {S0 : zS} {ad : Nat → Nat} {W : zO} {M : mKt} (hM : nZ t0 X S0 ad W M S) {v : zV} {Ss : List Nat} (hW : cW v W Ss) (hv : vRg v) (a10 : oa W 10) (h34 : vl W 34 (pS v 1203 6) (fun i => 800 + 4 * eN v 1203 4 i)) (hBb : vB v) (h1024 : aS v 24 ≤ 1024) : zMv l yX3_prepare (zws yX3_prepare cX3_prepare 4 none) { frames := 3, cells := 0, slots := 0, locals := 65 } N0 t0 D cy S [.ref (ad 14), .ref (ad 10)] (fun S' => ∃ M', nZ t0 X S0 ad W M' S' ∧ M'.1 406 = nI 0 ∧ M'.1 407 = nI 0 ∧ M'.1 408 = -1 ∧ M'.2.1 = 0 ∧ M'.1 410 = nI 0 ∧ M'.1 411 = nI 0 ∧ M'.2.2.1 = some 38 ∧ ∀ k, k < 1024 → mBy M' k = mG v 24 k) 0 0 := by
  refine zMv.of (cc := cX3_prepare) (maxL := 4) (ret := none) (by decide) rfl (Nat.le_of_ble_eq_true rfl) ?_
  intro p e s m args below meth c F G hr hlk hnm
  refine r_aload_n F dX3_prepare_0 rfl ?_
  refine r_aload_n F dX3_prepare_1 rfl ?_
  refine r_getS (ci := 3) (k := 3) (id := 303) (C := RX2) (T := TX2) (N := 8) F G rfl (by decide) (by decide) rfl (zinL inG3) (zin kf_X3_36) (fun _ h9 => h9) dX3_prepare_2 (hM.r a10 rfl) (hM.qr (by decide) a10 rfl (by decide)) ?_
  refine r_putq (v := some (ad 38)) (ci := 4) (k := 5) (id := 405) (C := RX3) (T := TX3) (N := 12) (ty := (.object "java/util/List")) (ty0 := tyX3) F G rfl (by decide) (by decide) rfl (zinL inG4) (zin kf_X3_32) (fun _ h9 => h9) tyX3_ok nmX3 rfl pd4_5 rfl rfl dX3_prepare_5 hM.A ?_
  have a38 : oa W 38 := hW.2.2.1.1.1
  have hM9 : nZ t0 X S0 ad W (M.1, M.2.1, some 38, M.2.2.2) (zPq S 405 (ad 14) (some (ad 38))) := ⟨hM.1, hM.2.1, by have h9 := hM.2.2.pq (id := 405) hM.b rfl rfl (by decide) (some 38) rfl (fun d hd => by cases hd; exact Or.inr ⟨mW_a.mpr a38, rfl⟩); rw [mW_ps] at h9; exact h9⟩
  refine zgen hM9 (fun S hM => ?_)
  clear hM9
  generalize hM1e : (M.1, M.2.1, some 38, M.2.2.2) = M1 at hM
  have hsl0 : M1.2.2.1 = some 38 := by rw [← hM1e]
  refine r_aload_n F dX3_prepare_8 rfl ?_
  refine gm_bytes F G hM dX3_prepare_9 ?_
  refine r_iconst (v := 0) F dX3_prepare_12 (by decide) ?_
  have b58 : oa (mW W M1) 58 := hM.w.a hM.b (id := 404) (by decide) rfl
  have n58 : onn (mW W M1) 58 = 1024 := hM.w.n hM.b (id := 404) (by decide) rfl (by decide)
  refine c_Sv F G (c_fillB hM.2.2 (d := 58) b58 rfl rfl (by rw [n58]; decide)) (va_cwS 2 F.2.2.2.2 (zgS km_X3_39 ks_J7_fill_031fb kn_J7 ko_J7_fill_031fb) rfl rfl rfl hd_yJ7_fill_031fb ⟨Nat.le_of_ble_eq_true rfl, Nat.le_of_ble_eq_true rfl⟩) rfl rfl (Nat.le_of_ble_eq_true rfl) dX3_prepare_13 ⟨Nat.le_of_ble_eq_true rfl, Nat.le_of_ble_eq_true rfl⟩ (fun S13 h13 => ?_)
  obtain ⟨g13, h13a, h13b⟩ := h13
  have hM9 : nZ t0 X S0 ad W (M1.1, M1.2.1, M1.2.2.1, M1.2.2.2.1, M1.2.2.2.2.1, M1.2.2.2.2.2.1, M1.2.2.2.2.2.2.1, g13) S13 := ⟨hM.1, hM.2.1, by rw [mW_p8] at h13a; exact h13a⟩
  rw [hsl0] at hM9
  have hM := hM9
  have hz13 : ∀ t, t < 1024 → g13 t = mG v 0 t := fun t ht => (h13b t (by rw [n58]; exact ht)).trans rfl
  refine r_iconst (v := 0) F dX3_prepare_16 (by decide) ?_
  refine r_istore_n F dX3_prepare_17 (by decide) ?_
  refine zsub (lv' := [(2, .int (nI 0)), (0, .ref (ad 14)), (1, .ref (ad 10))]) (by simp [zs1, zs2, lv_args, Value.category, show ((1 : Fin 4) : Nat) = 1 from rfl, show ((2 : Fin 4) : Nat) = 2 from rfl, show ((3 : Fin 4) : Nat) = 3 from rfl, show nI 0 = (0 : Int32) from rfl]) ?_
  have hps := pS_b (v := v) (t := 1203) (M := 4) (fun o ho => (rg_1203 hv ho).2) 6 (Nat.le_refl _)
  refine z_loop (fun n9 S9 lv => ∃ (i B : Nat) (M1 : mKt), i + n9 = pS v 1203 6 ∧ nZ t0 X S0 ad W M1 S9 ∧ B ≤ 24 ∧ M1.2.2.1 = some 38 ∧ (∀ z, z < 24 → z % 4 < cn v 1203 (z / 4) → (z < B ↔ pN v 1203 4 z < i)) ∧ (∀ t, t < 1024 → mBy M1 t = mG v B t) ∧ lv = [(2, .int (nI i)), (0, .ref (ad 14)), (1, .ref (ad 10))]) (pS v 1203 6) ?_ ⟨0, 0, _, Nat.zero_add _, hM, Nat.zero_le _, rfl, fun z h1 h2 => ⟨fun h9 => absurd h9 (Nat.not_lt_zero z), fun h9 => absurd h9 (Nat.not_lt_zero _)⟩, hz13, rfl⟩
  clear hM hz13
  rintro n9 S lv ⟨i, B, M1, hin, hM, hB24, hsl, hiff, hmem, rfl⟩ ih
  have hL34 : vl (mW W M1) 34 (pS v 1203 6) (fun i => 800 + 4 * eN v 1203 4 i) := h34.same (mW_n (by decide)) (mW_n (by decide))
  refine r_iload_n F dX3_prepare_18 rfl ?_
  refine r_aload_n F dX3_prepare_19 rfl ?_
  refine r_getS (ci := 3) (k := 1) (id := 301) (C := RX2) (T := TX2) (N := 8) F G rfl (by decide) (by decide) rfl (zinL inG3) (zin kf_X3_45) (fun _ h9 => h9) dX3_prepare_20 (hM.r a10 rfl) (hM.qr (by decide) a10 rfl (by decide)) ?_
  refine c_Fi (ci := 0) F G (k_ListSize (hL34.al hM.2.2 rfl rfl)) (va_cwF 0 F.2.2.2.2 (zgF km_X3_48 ke_Jx4a65c_Jxbd725_size ki_Jx4a65c_size_8abf5 kn_Jx4a65c ko_Jx4a65c_size_8abf5) rfl rfl rfl (G.2.2.2.2.1 (⟨"java/util/List", "size", "()I"⟩, yJx4a65c_size_8abf5) (List.mem_of_getElem? (i := 0) rfl)) hdF_size ⟨Nat.le_of_ble_eq_true rfl, Nat.le_of_ble_eq_true rfl⟩) rfl (by decide) (hL34.al hM.2.2 rfl rfl) rfl rfl (Nat.le_of_ble_eq_true rfl) dX3_prepare_23 ⟨Nat.le_of_ble_eq_true rfl, Nat.le_of_ble_eq_true rfl⟩ (fun r23 S23 h23 => ?_)
  obtain ⟨h23a, h23b⟩ := h23
  have h23c := h23b.symm
  subst h23c
  rw [hL34.z hM.2.2 rfl rfl] at h23a
  subst h23a
  refine r_icmp_ge (tgt := 72) F dX3_prepare_28 (by decide) (fun c28 => ?_) (fun c28 => ?_)
  · have hall : ∀ z, z < 24 → z % 4 < cn v 1203 (z / 4) → z < B := fun z h1 h2 => (hiff z h1 h2).mpr (by have h8 := pN_top (v := v) (t := 1203) (M := 4) (by decide) h1 h2; have c9 := c28; rw [nI_leI (by omega) (by omega)] at c9; omega)
    have hm24 : mG v 24 = mG v B := mG_g2 hB24 (fun x h1 h2 h3 => absurd (hall x h2 h3) (by omega))
    clear ih
    refine r_aload_n F dX3_prepare_72 rfl ?_
    refine r_iconst (v := 0) F dX3_prepare_73 (by decide) ?_
    refine pm_height F G hM dX3_prepare_74 (fun S hM => ?_)
    refine r_aload_n F dX3_prepare_77 rfl ?_
    refine r_iconst (v := 0) F dX3_prepare_78 (by decide) ?_
    refine pm_depth F G hM dX3_prepare_79 (fun S hM => ?_)
    refine r_aload_n F dX3_prepare_82 rfl ?_
    refine r_iconst (v := -1) F dX3_prepare_83 (by decide) ?_
    refine pm_end F G hM dX3_prepare_84 (fun S hM => ?_)
    refine r_aload_n F dX3_prepare_87 rfl ?_
    refine r_lconst (v := 0) F dX3_prepare_88 (by decide) ?_
    refine pm_value F G hM dX3_prepare_89 (fun S hM => ?_)
    refine r_aload_n F dX3_prepare_92 rfl ?_
    refine r_iconst (v := 0) F dX3_prepare_93 (by decide) ?_
    refine pm_steps F G hM dX3_prepare_94 (fun S hM => ?_)
    refine r_aload_n F dX3_prepare_97 rfl ?_
    refine r_iconst (v := 0) F dX3_prepare_98 (by decide) ?_
    refine pm_deepest F G hM dX3_prepare_99 (fun S hM => ?_)
    have n1 : ∀ (f : Nat → Int32) (a b : Nat) (x : Int32), a ≠ b → va_up f b x a = f a := fun f a b x h9 => va_up_ne _ _ h9
    refine e_vret F hr hlk ⟨_, hM, ?_, ?_, ?_, rfl, ?_, ?_, hsl, fun t ht9 => (hmem t ht9).trans (by rw [hm24])⟩ (by decide) (by decide) dX3_prepare_102
    · show va_up (va_up (va_up (va_up (va_up M1.1 406 0) 407 0) 408 (-1)) 410 0) 411 0 406 = 0
      rw [n1 _ _ _ _ (by decide), n1 _ _ _ _ (by decide), n1 _ _ _ _ (by decide), n1 _ _ _ _ (by decide), va_up_self]
    · show va_up (va_up (va_up (va_up (va_up M1.1 406 0) 407 0) 408 (-1)) 410 0) 411 0 407 = 0
      rw [n1 _ _ _ _ (by decide), n1 _ _ _ _ (by decide), n1 _ _ _ _ (by decide), va_up_self]
    · show va_up (va_up (va_up (va_up (va_up M1.1 406 0) 407 0) 408 (-1)) 410 0) 411 0 408 = -1
      rw [n1 _ _ _ _ (by decide), n1 _ _ _ _ (by decide), va_up_self]
    · show va_up (va_up (va_up (va_up (va_up M1.1 406 0) 407 0) 408 (-1)) 410 0) 411 0 410 = 0
      rw [n1 _ _ _ _ (by decide), va_up_self]
    · show va_up (va_up (va_up (va_up (va_up M1.1 406 0) 407 0) 408 (-1)) 410 0) 411 0 411 = 0
      rw [va_up_self]
  · have hi : i < pS v 1203 6 := by have c9 := c28; rw [nI_leI (by omega) (by omega)] at c9; omega
    obtain ⟨hg, ht, hp⟩ := eN_t (v := v) (t := 1203) (M := 4) (by decide) (fun o ho => (rg_1203 hv ho).2) hi
    have hg : (eN v 1203 4 i) < 24 := hg
    have gg := hL34.get hM.2.2 rfl hi
    have hG := hW.1.2.2.2.1 (eN v 1203 4 i) hg ht
    have hkg := kd_g (eN v 1203 4 i) hg
    have hGa : oa (mW W M1) (800 + 4 * (eN v 1203 4 i)) := mW_a.mpr hG.1
    have gA : zA S (ad (800 + 4 * (eN v 1203 4 i))) 8 := hM.r hG.1 hkg.1
    have hgl := aG_le hg ht h1024
    have hBz : B ≤ (eN v 1203 4 i) := by
      rcases Nat.lt_or_ge (eN v 1203 4 i) B with h9 | h9
      · have h8 := (hiff (eN v 1203 4 i) hg ht).mp h9
        omega
      · exact h9
    have hgap : mG v (eN v 1203 4 i) = mG v B := mG_g2 hBz (fun x h1 h2 h3 => by
      have h4 := pN_lt (M := 4) (by decide) h2 h3
      have h5 := (hiff x (by omega) h3).mpr (by omega)
      omega)
    have Y1 : zq S 800 (ad (800 + 4 * (eN v 1203 4 i))) = some (ad (800 + 4 * (eN v 1203 4 i) + 2)) := hM.qr (by decide) hG.1 hkg.1 (by decide)
    have b2 : oa W (800 + 4 * (eN v 1203 4 i) + 2) := hW.1.1.a hG.1 (id := 800) (by decide) hkg.1
    have J2 : zi S 802 (ad (800 + 4 * (eN v 1203 4 i))) = nI (aG v (eN v 1203 4 i)) := (hM.ri hG.1 (by omega) (by rw [hkg.1]; decide)).trans (hW.2.2.2.1 (eN v 1203 4 i) hg ht)
    have eW2 : mW W M1 (800 + 4 * (eN v 1203 4 i) + 2) = W (800 + 4 * (eN v 1203 4 i) + 2) := mW_n ⟨by omega, by omega, by omega, by omega, by omega, by omega⟩
    have b2m : oa (mW W M1) (800 + 4 * (eN v 1203 4 i) + 2) := mW_a.mpr b2
    have n2 : onn (mW W M1) (800 + 4 * (eN v 1203 4 i) + 2) = cn v 1211 (eN v 1203 4 i) := mW_len.trans hG.2.2.1
    have z2 : zn S (ad (800 + 4 * (eN v 1203 4 i) + 2)) = cn v 1211 (eN v 1203 4 i) := (hM.2.2.n b2m rfl (by rw [hkg.2]; decide)).trans n2
    have i2 : ∀ k, k < cn v 1211 (eN v 1203 4 i) → zri S (ad (800 + 4 * (eN v 1203 4 i) + 2)) k = v.1 1213 (64 * (eN v 1203 4 i) + k) := fun k hk => (congrFun (hM.2.2.ri b2m rfl (by rw [hkg.2]; decide)) k).trans ((show (mW W M1 (800 + 4 * (eN v 1203 4 i) + 2)).2.2.2.2.2.1 k = _ by rw [eW2]).trans (hG.2.2.2 k hk))
    have s64 := (rg_1211 hv (k := (eN v 1203 4 i)) (by omega)).2
    refine r_aload_n F dX3_prepare_31 rfl ?_
    refine r_getS (ci := 3) (k := 1) (id := 301) (C := RX2) (T := TX2) (N := 8) F G rfl (by decide) (by decide) rfl (zinL inG3) (zin kf_X3_45) (fun _ h9 => h9) dX3_prepare_32 (hM.r a10 rfl) (hM.qr (by decide) a10 rfl (by decide)) ?_
    refine r_iload_n F dX3_prepare_35 rfl ?_
    refine c_Fq (ci := 0) F G (k_get (hL34.al hM.2.2 rfl rfl) (hL34.E hM.2.2 rfl rfl) gg.1 (hL34.z hM.2.2 rfl rfl) hi gg.2.1 gg.2.2.1) (va_cwF 1 F.2.2.2.2 (zgF km_X3_54 ke_Jx4a65c_Jxbd725_get ki_Jx4a65c_get_915e3 kn_Jx4a65c ko_Jx4a65c_get_915e3) rfl rfl rfl (G.2.2.2.2.1 (⟨"java/util/List", "get", "(I)Ljava/lang/Object;"⟩, yJx4a65c_get_915e3) (List.mem_of_getElem? (i := 2) rfl)) hdF_get ⟨Nat.le_of_ble_eq_true rfl, Nat.le_of_ble_eq_true rfl⟩) rfl (by decide) (hL34.al hM.2.2 rfl rfl) rfl rfl (Nat.le_of_ble_eq_true rfl) dX3_prepare_36 ⟨Nat.le_of_ble_eq_true rfl, Nat.le_of_ble_eq_true rfl⟩ (fun r36 S36 h36 => ?_)
    obtain ⟨h36a, h36b⟩ := h36
    have h36c := h36b.symm
    subst h36c
    rw [gg.2.2.2] at h36a
    subst h36a
    refine r_cast (a := ad (800 + 4 * (eN v 1203 4 i))) (ci := 8) F G gA (by decide) rfl (List.mem_of_getElem? (i := 3) rfl) (zin kc_X3_58) dX3_prepare_41 ?_
    refine r_astore_n (x := ad (800 + 4 * (eN v 1203 4 i))) F dX3_prepare_44 (by decide) ?_
    refine r_aload_n F dX3_prepare_45 rfl ?_
    refine r_getS (ci := 8) (k := 0) (id := 800) (C := RX7) (T := TX7) (N := 3) F G rfl (by decide) (by decide) rfl (zinL inG8) (zin kf_X3_60) (fun _ h9 => h9) dX3_prepare_46 gA Y1 ?_
    refine r_iconst (v := 0) F dX3_prepare_49 (by decide) ?_
    refine r_aload_n F dX3_prepare_50 rfl ?_
    refine gm_bytes F G hM dX3_prepare_51 ?_
    refine r_aload_n F dX3_prepare_54 rfl ?_
    refine r_getiS (ci := 8) (k := 2) (id := 802) (C := RX7) (T := TX7) (N := 3) F G rfl (by decide) (by decide) rfl (zinL inG8) (zin kf_X3_61) (fun _ h9 => h9) dX3_prepare_55 gA J2 ?_
    refine r_aload_n F dX3_prepare_58 rfl ?_
    refine r_getS (ci := 8) (k := 0) (id := 800) (C := RX7) (T := TX7) (N := 3) F G rfl (by decide) (by decide) rfl (zinL inG8) (zin kf_X3_60) (fun _ h9 => h9) dX3_prepare_59 gA Y1 ?_
    refine v_alen (n := 0) (j := 0) F G hM.2.2 b2m rfl hkg.2 rfl rfl dX3_prepare_62 ?_
    rw [n2]
    have b58 : oa (mW W M1) 58 := hM.w.a hM.b (id := 404) (by decide) rfl
    have n58 : onn (mW W M1) 58 = 1024 := hM.w.n hM.b (id := 404) (by decide) rfl (by decide)
    have z58 : zn S (ad 58) = 1024 := (hM.2.2.n b58 rfl (by decide)).trans n58
    refine r_copyb F G (zin km_X3_65) (zin kj_J10_arraycopy) (zin ks_J10_arraycopy) (zin kn_J10) (hM.r b2 hkg.2) (hM.2.2.al b58 rfl rfl) (by decide) (nI_pos (by omega)) (nI_pos (by omega)) (by rw [z2, nI_clamp (by omega)]; exact Nat.le_of_eq (Nat.zero_add _)) (by rw [z58, nI_clamp (by omega), nI_clamp (by omega)]; exact hgl) (fun k hk => ?_) (Nat.le_of_ble_eq_true rfl) (Nat.le_of_ble_eq_true rfl) dX3_prepare_63 ?_
    · rw [nI_clamp (by omega)] at hk
      rw [show (0 : Int32).toNatClampNeg + k = k from Nat.zero_add k, i2 k hk]
      exact vp_fits (hBb _ (by omega))
    rw [show (0 : Int32).toNatClampNeg = 0 from rfl, nI_clamp (show aG v (eN v 1203 4 i) < 2 ^ 31 by omega), nI_clamp (show cn v 1211 (eN v 1203 4 i) < 2 ^ 31 by omega)]
    have hM9 : nZ t0 X S0 ad W (M1.1, M1.2.1, M1.2.2.1, M1.2.2.2.1, M1.2.2.2.2.1, M1.2.2.2.2.2.1, M1.2.2.2.2.2.2.1, va_cpy (zri S (ad (800 + 4 * (eN v 1203 4 i) + 2))) (zri S (ad 58)) 0 (aG v (eN v 1203 4 i)) (cn v 1211 (eN v 1203 4 i))) (zRi S (ad 58) (va_cpy (zri S (ad (800 + 4 * (eN v 1203 4 i) + 2))) (zri S (ad 58)) 0 (aG v (eN v 1203 4 i)) (cn v 1211 (eN v 1203 4 i)))) := ⟨hM.1, hM.2.1, by have h9 := hM.2.2.sri b58 rfl rfl (by decide) (va_cpy (zri S (ad (800 + 4 * (eN v 1203 4 i) + 2))) (zri S (ad 58)) 0 (aG v (eN v 1203 4 i)) (cn v 1211 (eN v 1203 4 i))); rw [mW_p8] at h9; exact h9⟩
    refine zgen hM9 (fun S9 hM9 => ?_)
    refine r_iinc F dX3_prepare_66 rfl (by decide) ?_
    refine r_goto (tgt := 18) F dX3_prepare_69 (by decide) ?_
    refine zsub (lv' := [(2, .int (nI (i + 1))), (0, .ref (ad 14)), (1, .ref (ad 10))]) (by rw [show nI (i + 1) = nI i + Int32.ofInt 1 from (nI_add i 1).symm]; simp [zs1, zs2, lv_args, Value.category, show ((1 : Fin 4) : Nat) = 1 from rfl, show ((2 : Fin 4) : Nat) = 2 from rfl, show ((3 : Fin 4) : Nat) = 3 from rfl, show nI 0 = (0 : Int32) from rfl]) ?_
    refine ih (n9 - 1) _ _ (by omega) ⟨i + 1, (eN v 1203 4 i) + 1, _, by omega, hM9, by omega, hsl, fun z hz1 hz2 => ?_, fun t ht9 => ?_, rfl⟩
    · constructor
      · intro h9
        rcases Nat.lt_or_ge z (eN v 1203 4 i) with h8 | h8
        · have := pN_lt (M := 4) (by decide) h8 hz2
          omega
        · rw [show z = (eN v 1203 4 i) by omega, hp]
          omega
      · intro h9
        rcases Nat.lt_or_ge (eN v 1203 4 i) z with h8 | h8
        · have := pN_lt (M := 4) (by decide) h8 ht
          omega
        · omega
    · show (if aG v (eN v 1203 4 i) ≤ t ∧ t < aG v (eN v 1203 4 i) + cn v 1211 (eN v 1203 4 i) then zri S (ad (800 + 4 * (eN v 1203 4 i) + 2)) (0 + (t - aG v (eN v 1203 4 i))) else zri S (ad 58) t) = mG v ((eN v 1203 4 i) + 1) t
      rw [show mG v ((eN v 1203 4 i) + 1) = (fun k => if aG v (eN v 1203 4 i) ≤ k ∧ k < aG v (eN v 1203 4 i) + cn v 1211 (eN v 1203 4 i) then v.1 1213 (64 * (eN v 1203 4 i) + (k - aG v (eN v 1203 4 i))) else mG v (eN v 1203 4 i) k) from if_pos ht]
      show _ = if aG v (eN v 1203 4 i) ≤ t ∧ t < aG v (eN v 1203 4 i) + cn v 1211 (eN v 1203 4 i) then v.1 1213 (64 * (eN v 1203 4 i) + (t - aG v (eN v 1203 4 i))) else mG v (eN v 1203 4 i) t
      by_cases e : aG v (eN v 1203 4 i) ≤ t ∧ t < aG v (eN v 1203 4 i) + cn v 1211 (eN v 1203 4 i)
      · rw [if_pos e, if_pos e, Nat.zero_add]
        exact i2 _ (by omega)
      · rw [if_neg e, if_neg e, hgap]
        exact (congrFun (hM.2.2.ri b58 rfl (by decide)) t).trans (hmem t ht9)
