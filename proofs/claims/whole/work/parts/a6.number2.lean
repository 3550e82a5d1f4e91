theorem tyF_gap {v : zV} {a b : Nat} (h : a ≤ b) (hn : ∀ x, a ≤ x → x < b → ¬ x % 8 < cn v 1202 (x / 8)) : tyF v b = tyF v a := by
  induction b with
  | zero => rw [Nat.le_zero.mp h]
  | succ b ih =>
    rcases Nat.lt_or_ge a (b + 1) with h1 | h1
    · show (if b % 8 < cn v 1202 (b / 8) then addT (tyF v b) (sh v b) else tyF v b) = _
      rw [if_neg (hn b (by omega) (by omega))]
      exact ih (by omega) (fun x h2 h3 => hn x h2 (by omega))
    · rw [show a = b + 1 by omega]
theorem wdF_gap {v : zV} {a b : Nat} (h : a ≤ b) (hn : ∀ x, a ≤ x → x < b → ¬ x % 8 < cn v 1202 (x / 8)) : wdF v b = wdF v a := by
  induction b with
  | zero => rw [Nat.le_zero.mp h]
  | succ b ih =>
    rcases Nat.lt_or_ge a (b + 1) with h1 | h1
    · show (if b % 8 < cn v 1202 (b / 8) then wdK v b (wdF v b) (cn v 1208 b) else wdF v b) = _
      rw [if_neg (hn b (by omega) (by omega))]
      exact ih (by omega) (fun x h2 h3 => hn x h2 (by omega))
    · rw [show a = b + 1 by omega]
theorem CC_w {v : zV} {f k : Nat} {p : List Nat × List Nat} : CC p.2.length ≤ CC (wdS v f k p).2.length ∧ CS p.2.length ≤ CS (wdS v f k p).2.length := by
  show CC p.2.length ≤ CC (if cn v 1209 (60 * f + k) = 34 then adO p.2 (fO v (16 * (f / 8) + cn v 1210 (60 * f + k))) else p.2).length ∧ CS p.2.length ≤ CS (if cn v 1209 (60 * f + k) = 34 then adO p.2 (fO v (16 * (f / 8) + cn v 1210 (60 * f + k))) else p.2).length
  split
  · cases fO v (16 * (f / 8) + cn v 1210 (60 * f + k)) with
    | none => exact ⟨Nat.le_refl _, Nat.le_refl _⟩
    | some g => exact CC_add
  · exact ⟨Nat.le_refl _, Nat.le_refl _⟩
theorem nuA.Sr {v : zV} {W W' : zO} (h : nuA W W') (hS : SrcOK v W) : SrcOK v W' := fun y hy ht => by
  show (W' (cY y)).2.2.1 907 = _
  rw [(h (cY y) (by unfold cY; omega) (by unfold cY; omega)).2.1]
  exact hS y hy ht
set_option maxRecDepth 100000 in
set_option maxHeartbeats 4000000 in
theorem c_number {l : Launch} {N0 t0 : Nat} {D : va_G} {cy : Nat → ClassId} {S : zS} {X : Nat → Prop} {S0 : zS} {ad : Nat → Nat} {W : zO} (hH : zH t0 X S0 ad W S) {v : zV} (hB : Bld v W) (hv : vRg v) (hA : vA v) (hD : vD v) (hO : cn v 1201 0 ≤ 6) (hSr : SrcOK v W) (hK : kEq v) (hg : allG v) (a10 : oa W 10) {n38 : Nat} {f38 : Nat → Nat} (h38n : n38 ≤ 48) (h38 : vl W 38 n38 f38) (hL : vl W 32 (pS v 1202 6) (fun i => 200 + 12 * eN v 1202 8 i)) : zMv l yX2_number (zws yX2_number cX2_number 4 none) { frames := 9, cells := 7, slots := 311, locals := 212 } N0 t0 D cy S [.ref (ad 10)] (fun S' => ∃ (ad' : Nat → Nat) (W' : zO), zH t0 X S0 ad' W' S' ∧ (∀ d, d ≠ 39 → ad' d = ad d) ∧ nuA W W' ∧ nuT W' (wdF v 48).1 ∧ nuS v W' (wdF v 48).2 ∧ nuN v W') 7 311 := by
  refine zMv.of (cc := cX2_number) (maxL := 4) (ret := none) (by decide) rfl (Nat.le_of_ble_eq_true rfl) ?_
  intro p e s m args below meth c F G hr hlk hnm
  have hc : ∀ o, o < 6 → cn v 1202 o ≤ 8 := fun o ho => (rg_1202 hv ho).2
  have hNb := pS_b (v := v) (t := 1202) (M := 8) hc 6 (Nat.le_refl _)
  have A0 : zA S (ad 10) 3 := hH.al a10 rfl rfl
  have Q0 : zq S 303 (ad 10) = some (ad 38) := hH.qS a10 rfl (by decide) (hB.1.q a10 (by decide) rfl) rfl
  have K0 : zA S (ad 38) 0 := h38.al hH rfl rfl
  refine r_aload_n F dX2_number_0 rfl ?_
  refine r_getS (ci := 3) (k := 3) (id := 303) (C := RX2) (T := TX2) (N := 8) F G rfl (by decide) (by decide) rfl (zinL inG3) (zin kf_X2_24) (fun _ h9 => h9) dX2_number_1 A0 Q0 ?_
  refine c_Fv (ci := 0) F G (k_clear K0 (h38.E hH rfl rfl) (h38.z hH rfl rfl) (by omega) (fun h9 => ⟨(h38.get hH rfl h9).1, (h38.get hH rfl h9).2.1, (h38.get hH rfl h9).2.2.1⟩)) (va_cwF 0 F.2.2.2.2 (zgF km_X2_34 ke_Jx4a65c_Jxbd725_clear ki_Jx4a65c_clear_da8c8 kn_Jx4a65c ko_Jx4a65c_clear_da8c8) rfl rfl rfl (G.2.2.2.2.1 (⟨"java/util/List", "clear", "()V"⟩, yJx4a65c_clear_da8c8) (List.mem_of_getElem? (i := 4) rfl)) hdF_clear ⟨Nat.le_of_ble_eq_true rfl, Nat.le_of_ble_eq_true rfl⟩) rfl (by decide) K0 rfl rfl (Nat.le_of_ble_eq_true rfl) dX2_number_4 ⟨Nat.zero_le _, Nat.zero_le _⟩ (fun S4 h4 => ?_)
  obtain ⟨w4, h4⟩ := h4
  obtain ⟨W1, hH1, hl1, hs1⟩ := h38.clear hH rfl rfl rfl h4
  clear hH A0 Q0 K0
  have nA1 : nuA W W1 := nuA.s hs1
  have a101 : oa W1 10 := (nA1.al (by decide) (by decide)).mpr a10
  have A0 : zA S4 (ad 10) 3 := hH1.al a101 rfl rfl
  refine r_aload_n F dX2_number_9 rfl ?_
  refine r_iconst (v := 0) F dX2_number_10 (by decide) ?_
  refine r_puti (ci := 3) (k := 6) (id := 306) (C := RX2) (T := TX2) (N := 8) (ty := .int) (ty0 := tyX2) F G rfl (by decide) (by decide) rfl (zinL inG3) (zin kf_X2_93) (fun _ h9 => h9) tyX2_ok nmX2 rfl pd3_6 rfl rfl dX2_number_11 A0 ?_
  refine zgen (P := zH t0 X S0 ad (oI W1 10 306 0)) (hH1.pi a101 rfl rfl (by decide) _) (fun S hH => ?_)
  clear hH1 A0
  have nA2 : nuA W (oI W1 10 306 0) := nA1.tr (nuA.i (Or.inl rfl) (Or.inl rfl))
  have hl2 : vl (oI W1 10 306 0) 38 0 f38 := hl1.same (va_up_ne _ _ (by decide)) (va_up_ne _ _ (by decide))
  have e306 : oi (oI W1 10 306 0) 10 306 = 0 := oI_s
  generalize oI W1 10 306 0 = W2 at hH nA2 hl2 e306
  have hw2 := nA2.wr hB.1 hl2.1
  have a102 : oa W2 10 := (nA2.al (by decide) (by decide)).mpr a10
  have A0 : zA S (ad 10) 3 := hH.al a102 rfl rfl
  have Q0 : zq S 305 (ad 10) = some (ad 42) := hH.qS a102 rfl (by decide) (hw2.q a102 (by decide) rfl) rfl
  have b42 : oa W2 42 := hw2.a a102 (id := 305) (by decide) rfl
  have n42 : onn W2 42 = 10 := hw2.n a102 (id := 305) (by decide) rfl (by decide)
  refine r_aload_n F dX2_number_14 rfl ?_
  refine r_getS (ci := 3) (k := 5) (id := 305) (C := RX2) (T := TX2) (N := 8) F G rfl (by decide) (by decide) rfl (zinL inG3) (zin kf_X2_31) (fun _ h9 => h9) dX2_number_15 A0 Q0 ?_
  refine r_iconst (v := -1) F dX2_number_18 (by decide) ?_
  refine c_Sv F G (c_fillI hH b42 rfl rfl (by rw [n42]; decide)) (va_cwS 2 F.2.2.2.2 (zgS km_X2_96 ks_J7_fill_53178 kn_J7 ko_J7_fill_53178) rfl rfl rfl hd_yJ7_fill_53178 ⟨Nat.le_of_ble_eq_true rfl, Nat.le_of_ble_eq_true rfl⟩) rfl rfl (Nat.le_of_ble_eq_true rfl) dX2_number_19 ⟨Nat.zero_le _, Nat.zero_le _⟩ (fun S19 hH19 => ?_)
  clear A0 Q0 hH
  have nA3 := nA2.tr (nuA.r (W := W2) (c := 42) (f := fun i => if i < onn W2 42 then (-1 : Int32) else ori W2 42 i) (Or.inr rfl))
  have hT3 : nuT (oRi W2 42 (fun i => if i < onn W2 42 then (-1 : Int32) else ori W2 42 i)) [] := by
    refine ⟨?_, fun x hx => ?_, fun k hk => absurd hk (Nat.not_lt_zero k)⟩
    · show (oRi W2 42 _ 10).2.1 306 = _
      rw [show oRi W2 42 (fun i => if i < onn W2 42 then (-1 : Int32) else ori W2 42 i) 10 = W2 10 from va_up_ne _ _ (by decide)]
      exact e306
    · rw [ori_s, n42, if_pos hx]
      rfl
  have hl3 : vl (oRi W2 42 (fun i => if i < onn W2 42 then (-1 : Int32) else ori W2 42 i)) 38 0 f38 := hl2.same (va_up_ne _ _ (by decide)) (va_up_ne _ _ (by decide))
  generalize oRi W2 42 (fun i => if i < onn W2 42 then (-1 : Int32) else ori W2 42 i) = W3 at hH19 nA3 hT3 hl3
  clear nA1 nA2 hl1 hl2 hw2 a101 a102 b42 n42 e306 hs1
  refine r_iconst (v := 0) F dX2_number_22 (by decide) ?_
  refine r_istore_n F dX2_number_23 (by decide) ?_
  refine zsub (lv' := [(1, .int (nI 0)), (0, .ref (ad 10))]) (by simp [zs1, lv_args, Value.category, show ((1 : Fin 4) : Nat) = 1 from rfl, show ((2 : Fin 4) : Nat) = 2 from rfl, show ((3 : Fin 4) : Nat) = 3 from rfl, show nI 0 = (0 : Int32) from rfl]) ?_
  refine z_loop (fun n S9 lv => ∃ (i : Nat) (W1 : zO), i + n = (pS v 1202 6) ∧ zH t0 X S0 ad W1 S9 ∧ nuA W W1 ∧ vl W1 38 0 f38 ∧ nuT W1 (tyF v (bd v 1202 8 i)) ∧ (∀ f, f < 48 → f % 8 < cn v 1202 (f / 8) → f < (bd v 1202 8 i) → oi W1 (200 + 12 * f) 711 = nI (pN v 1202 8 f) ∧ oi W1 (200 + 12 * f) 712 = 0) ∧ lv = [(1, .int (nI i)), (0, .ref (ad 10))]) (pS v 1202 6) ?_ ⟨0, W3, by omega, hH19, nA3, hl3, hT3, fun f _ _ h => absurd h (Nat.not_lt_zero _), rfl⟩
  clear hH19 nA3 hT3 hl3
  rintro n S lv ⟨i, W1, hin, hH, nA1, hl38, hT1, hd1, rfl⟩ ih
  have hw1 := nA1.wr hB.1 hl38.1
  have a101 : oa W1 10 := (nA1.al (by decide) (by decide)).mpr a10
  have hB1 := nA1.B hB hl38.1 hO
  have hL1 : vl W1 32 (pS v 1202 6) (fun i => 200 + 12 * eN v 1202 8 i) := hL.same ((nA1 32 (by decide) (by decide)).2.2.2.2.2 (by decide) (by decide) (by decide) (fun g hg => by omega)) ((nA1 33 (by decide) (by decide)).2.2.2.2.2 (by decide) (by decide) (by decide) (fun g hg => by omega))
  have A0 : zA S (ad 10) 3 := hH.al a101 rfl rfl
  have Q0 : zq S 300 (ad 10) = some (ad 32) := hH.qS a101 rfl (by decide) (hw1.q a101 (by decide) rfl) rfl
  have L0 : zA S (ad 32) 0 := hL1.al hH rfl rfl
  have L1 : zi S 2 (ad 32) = nI (pS v 1202 6) := hL1.z hH rfl rfl
  have L2 : zq S 1 (ad 32) = some (vlq t0 ad W1 32) := hL1.E hH rfl rfl
  refine r_iload_n F dX2_number_24 rfl ?_
  refine r_aload_n F dX2_number_25 rfl ?_
  refine r_getS (ci := 3) (k := 0) (id := 300) (C := RX2) (T := TX2) (N := 8) F G rfl (by decide) (by decide) rfl (zinL inG3) (zin kf_X2_12) (fun _ h9 => h9) dX2_number_26 A0 Q0 ?_
  refine c_Fi (ci := 0) F G (k_ListSize L0) (va_cwF 0 F.2.2.2.2 (zgF km_X2_39 ke_Jx4a65c_Jxbd725_size ki_Jx4a65c_size_8abf5 kn_Jx4a65c ko_Jx4a65c_size_8abf5) rfl rfl rfl (G.2.2.2.2.1 (⟨"java/util/List", "size", "()I"⟩, yJx4a65c_size_8abf5) (List.mem_of_getElem? (i := 0) rfl)) hdF_size ⟨Nat.le_of_ble_eq_true rfl, Nat.le_of_ble_eq_true rfl⟩) rfl (by decide) L0 rfl rfl (Nat.le_of_ble_eq_true rfl) dX2_number_29 ⟨Nat.zero_le _, Nat.zero_le _⟩ (fun r29 S29 h29 => ?_)
  obtain ⟨h29a, h29b⟩ := h29
  have h29c := h29b.symm
  subst h29c
  rw [L1] at h29a
  subst h29a
  refine r_icmp_ge (tgt := 75) F dX2_number_34 (by decide) (fun c34 => ?_) (fun c34 => ?_)
  · have hbt := bd_top (v := v) (t := 1202) (M := 8) (by decide) hc
    have hiN : i = (pS v 1202 6) := by have c9 := c34; rw [nI_leI (by omega) (by omega)] at c9; omega
    subst hiN
    have hall : ∀ f, f < 48 → f % 8 < cn v 1202 (f / 8) → f < bd v 1202 8 (pS v 1202 6) := fun f h1 h2 => by
      rcases Nat.lt_or_ge f (bd v 1202 8 (pS v 1202 6)) with h8 | h8
      · exact h8
      · exact absurd h2 (hbt.2 f h8 h1)
    clear ih A0 Q0 L0 L1 L2 hw1 a101 hB1 hL1
    refine r_iconst (v := 0) F dX2_number_75 (by decide) ?_
    refine r_istore_n F dX2_number_76 (by decide) ?_
    refine zsub (lv' := [(1, .int (nI 0)), (0, .ref (ad 10))]) (by simp [zs1, lv_args, Value.category, show ((1 : Fin 4) : Nat) = 1 from rfl, show ((2 : Fin 4) : Nat) = 2 from rfl, show ((3 : Fin 4) : Nat) = 3 from rfl, show nI 0 = (0 : Int32) from rfl]) ?_
    refine z_loop2 (fun n cl sl S9 lv => ∃ (i : Nat) (ad1 : Nat → Nat) (W1 : zO), i + n = (pS v 1202 6) ∧ zH t0 X S0 ad1 W1 S9 ∧ (∀ d, d ≠ 39 → ad1 d = ad d) ∧ nuA W W1 ∧ nuT W1 (wdF v (bd v 1202 8 i)).1 ∧ nuS v W1 (wdF v (bd v 1202 8 i)).2 ∧ nuN v W1 ∧ cl ≤ CC (wdF v (bd v 1202 8 i)).2.length ∧ sl ≤ CS (wdF v (bd v 1202 8 i)).2.length ∧ lv = [(1, .int (nI i)), (0, .ref (ad 10))]) (pS v 1202 6) ?_ ⟨0, ad, W1, by omega, hH, fun _ _ => rfl, nA1, by
      show nuT W1 (tyF v 48)
      rw [tyF_gap hbt.1 hbt.2]
      exact hT1, ⟨hl38.cg (fun i hi => absurd hi (Nat.not_lt_zero i)), fun f h1 h2 => (hd1 f h1 h2 (hall f h1 h2)).2⟩, fun f h1 h2 => (hd1 f h1 h2 (hall f h1 h2)).1, Nat.zero_le _, Nat.zero_le _, rfl⟩
    clear hH nA1 hT1 hd1 hl38 hin
    rintro n cl sl S lv ⟨i, ad1, W1, hin, hH, ka, nA1, hT1, hU1, hN1, hcl, hsl, rfl⟩ ih
    have hl38 := hU1.1
    have hw1 := nA1.wr hB.1 hl38.1
    have a101 : oa W1 10 := (nA1.al (by decide) (by decide)).mpr a10
    have hB1 := nA1.B hB hl38.1 hO
    have hL1 : vl W1 32 (pS v 1202 6) (fun i => 200 + 12 * eN v 1202 8 i) := hL.same ((nA1 32 (by decide) (by decide)).2.2.2.2.2 (by decide) (by decide) (by decide) (fun g hg => by omega)) ((nA1 33 (by decide) (by decide)).2.2.2.2.2 (by decide) (by decide) (by decide) (fun g hg => by omega))
    have A0 : zA S (ad 10) 3 := hH.al a101 (ka 10 (by decide)) rfl
    have Q0 : zq S 300 (ad 10) = some (ad 32) := hH.qS a101 (ka 10 (by decide)) (by decide) (hw1.q a101 (by decide) rfl) (ka 32 (by decide))
    have L0 : zA S (ad 32) 0 := hL1.al hH rfl (ka 32 (by decide))
    have L1 : zi S 2 (ad 32) = nI (pS v 1202 6) := hL1.z hH rfl (ka 32 (by decide))
    have L2 : zq S 1 (ad 32) = some (vlq t0 ad1 W1 32) := hL1.E hH rfl (ka 32 (by decide))
    have hdb : (bd v 1202 8 i) ≤ 48 := by
      rcases Nat.lt_or_ge i (pS v 1202 6) with h9 | h9
      · have h8 := (bd_le (v := v) (t := 1202) (M := 8) (by decide) hc h9).1
        have h7 := (eN_t (v := v) (t := 1202) (M := 8) (by decide) hc h9).1
        omega
      · rw [show i = (pS v 1202 6) by omega]; exact hbt.1
    have hDD := wdF_D hv hD hg (bd v 1202 8 i) hdb
    have hl48 := nD_len _ _ hDD.2
    have hCb := CC_b (wdF v (bd v 1202 8 i)).2.length (by omega)
    refine r_iload_n F dX2_number_77 rfl ?_
    refine r_aload_n F dX2_number_78 rfl ?_
    refine r_getS (ci := 3) (k := 0) (id := 300) (C := RX2) (T := TX2) (N := 8) F G rfl (by decide) (by decide) rfl (zinL inG3) (zin kf_X2_12) (fun _ h9 => h9) dX2_number_79 A0 Q0 ?_
    refine c_Fi (ci := 0) F G (k_ListSize L0) (va_cwF 0 F.2.2.2.2 (zgF km_X2_39 ke_Jx4a65c_Jxbd725_size ki_Jx4a65c_size_8abf5 kn_Jx4a65c ko_Jx4a65c_size_8abf5) rfl rfl rfl (G.2.2.2.2.1 (⟨"java/util/List", "size", "()I"⟩, yJx4a65c_size_8abf5) (List.mem_of_getElem? (i := 0) rfl)) hdF_size ⟨Nat.le_of_ble_eq_true rfl, Nat.le_of_ble_eq_true rfl⟩) rfl (by decide) L0 rfl rfl (Nat.le_of_ble_eq_true rfl) dX2_number_82 ⟨by show cl + 0 ≤ 7; omega, by show sl + 0 ≤ 311; omega⟩ (fun r82 S82 h82 => ?_)
    obtain ⟨h82a, h82b⟩ := h82
    have h82c := h82b.symm
    subst h82c
    rw [L1] at h82a
    subst h82a
    refine r_icmp_ge (tgt := 132) F dX2_number_87 (by decide) (fun c87 => ?_) (fun c87 => ?_)
    · have hiN : i = (pS v 1202 6) := by have c9 := c87; rw [nI_leI (by omega) (by omega)] at c9; omega
      subst hiN
      have ew : wdF v 48 = wdF v (bd v 1202 8 (pS v 1202 6)) := wdF_gap hbt.1 hbt.2
      exact e_vret F hr hlk ⟨ad1, W1, hH, ka, nA1, by rw [ew]; exact hT1, by rw [ew]; exact hU1, hN1⟩ (by show cl + 0 ≤ 7; omega) (by show sl + 0 ≤ 311; omega) dX2_number_132
    · have hi : i < (pS v 1202 6) := by have c9 := c87; rw [nI_leI (by omega) (by omega)] at c9; omega
      obtain ⟨hf, ht, hp⟩ := eN_t (v := v) (t := 1202) (M := 8) (by decide) hc hi
      obtain ⟨hbl, hgap⟩ := bd_le (v := v) (t := 1202) (M := 8) (by decide) hc hi
      have hwg : wdF v (eN v 1202 8 i) = wdF v (bd v 1202 8 i) := wdF_gap hbl hgap
      rw [← hwg] at hT1 hU1 hcl hsl hDD hl48 hCb
      have gg := hL1.get hH rfl hi
      have hR := hB1.2.2.1 (eN v 1202 8 i) hf ht
      have hkd := kd_r (eN v 1202 8 i) hf
      have eaf := ka (200 + 12 * (eN v 1202 8 i)) (by omega)
      have gA : zA S (ad (200 + 12 * (eN v 1202 8 i))) 7 := hH.al hR.1 eaf hkd.1
      rw [eaf] at gg
      refine r_aload_n F dX2_number_90 rfl ?_
      refine r_getS (ci := 3) (k := 0) (id := 300) (C := RX2) (T := TX2) (N := 8) F G rfl (by decide) (by decide) rfl (zinL inG3) (zin kf_X2_12) (fun _ h9 => h9) dX2_number_91 A0 Q0 ?_
      refine r_iload_n F dX2_number_94 rfl ?_
      refine c_Fq (ci := 0) F G (k_get L0 L2 gg.1 L1 hi gg.2.1 gg.2.2.1) (va_cwF 1 F.2.2.2.2 (zgF km_X2_43 ke_Jx4a65c_Jxbd725_get ki_Jx4a65c_get_915e3 kn_Jx4a65c ko_Jx4a65c_get_915e3) rfl rfl rfl (G.2.2.2.2.1 (⟨"java/util/List", "get", "(I)Ljava/lang/Object;"⟩, yJx4a65c_get_915e3) (List.mem_of_getElem? (i := 2) rfl)) hdF_get ⟨Nat.le_of_ble_eq_true rfl, Nat.le_of_ble_eq_true rfl⟩) rfl (by decide) L0 rfl rfl (Nat.le_of_ble_eq_true rfl) dX2_number_95 ⟨by show cl + 0 + 0 ≤ 7; omega, by show sl + 0 + 0 ≤ 311; omega⟩ (fun r95 S95 h95 => ?_)
      obtain ⟨h95a, h95b⟩ := h95
      have h95c := h95b.symm
      subst h95c
      rw [gg.2.2.2] at h95a
      subst h95a
      refine r_cast (a := ad (200 + 12 * (eN v 1202 8 i))) (ci := 7) F G gA (by decide) rfl (List.mem_of_getElem? (i := 2) rfl) (zin kc_X2_50) dX2_number_100 ?_
      refine r_astore_n (x := ad (200 + 12 * (eN v 1202 8 i))) F dX2_number_103 (by decide) ?_
      refine r_iconst (v := 0) F dX2_number_104 (by decide) ?_
      refine r_istore_n F dX2_number_105 (by decide) ?_
      refine zsub (lv' := [(3, .int (nI 0)), (2, .ref (ad (200 + 12 * (eN v 1202 8 i)))), (1, .int (nI i)), (0, .ref (ad 10))]) (by simp [zs1, lv_args, Value.category, show ((1 : Fin 4) : Nat) = 1 from rfl, show ((2 : Fin 4) : Nat) = 2 from rfl, show ((3 : Fin 4) : Nat) = 3 from rfl, show nI 0 = (0 : Int32) from rfl]) ?_
      refine z_loop2 (fun n2 cl sl S9 lv => ∃ (k : Nat) (ad1 : Nat → Nat) (W1 : zO), k + n2 = cn v 1208 (eN v 1202 8 i) ∧ zH t0 X S0 ad1 W1 S9 ∧ (∀ d, d ≠ 39 → ad1 d = ad d) ∧ nuA W W1 ∧ nuT W1 (wdK v (eN v 1202 8 i) (wdF v (eN v 1202 8 i)) k).1 ∧ nuS v W1 (wdK v (eN v 1202 8 i) (wdF v (eN v 1202 8 i)) k).2 ∧ nuN v W1 ∧ cl ≤ CC (wdK v (eN v 1202 8 i) (wdF v (eN v 1202 8 i)) k).2.length ∧ sl ≤ CS (wdK v (eN v 1202 8 i) (wdF v (eN v 1202 8 i)) k).2.length ∧ lv = [(3, .int (nI k)), (2, .ref (ad (200 + 12 * (eN v 1202 8 i)))), (1, .int (nI i)), (0, .ref (ad 10))]) (cn v 1208 (eN v 1202 8 i)) ?_ ⟨0, ad1, W1, by omega, hH, ka, nA1, hT1, hU1, hN1, by show cl + 0 + 0 ≤ CC (wdF v (eN v 1202 8 i)).2.length; omega, by show sl + 0 + 0 ≤ CS (wdF v (eN v 1202 8 i)).2.length; omega, rfl⟩
      clear hH nA1 hT1 hU1 hN1 hl38 A0 Q0 L0 L1 L2 hw1 a101 hB1 hL1 gg hR gA hcl hsl hDD hl48 hCb eaf ka
      rintro n2 cl sl S lv ⟨k, ad1, W1, hkn, hH, ka, nA1, hT1, hU1, hN1, hcl, hsl, rfl⟩ ih2
      have hB1 := nA1.B hB hU1.1.1 hO
      have a101 : oa W1 10 := (nA1.al (by decide) (by decide)).mpr a10
      have hR := hB1.2.2.1 (eN v 1202 8 i) hf ht
      have eaf := ka (200 + 12 * (eN v 1202 8 i)) (by omega)
      have gA : zA S (ad (200 + 12 * (eN v 1202 8 i))) 7 := hH.al hR.1 eaf hkd.1
      have A0 : zA S (ad 10) 3 := hH.al a101 (ka 10 (by decide)) rfl
      have h60 := rg_1208 hv hf
      have h602 := h60.2
      have I1 : zi S 710 (ad (200 + 12 * (eN v 1202 8 i))) = nI (cn v 1208 (eN v 1202 8 i)) := (hH.i hR.1 eaf (by rw [hkd.1]; decide)).trans (hR.2.2.2.2.2.2.1.trans h60.1)
      have hgf : ∀ k, k < cn v 1208 (eN v 1202 8 i) → gW v (eN v 1202 8 i) (cn v 1209 (60 * (eN v 1202 8 i) + k)) (v.1 1210 (60 * (eN v 1202 8 i) + k)) := fun k hk => hg.g hf ht hk
      have hDD := wdK_D hv hD hf hgf (wdF_D hv hD hg (eN v 1202 8 i) (by omega)) k (by omega)
      refine r_iload_n F dX2_number_106 rfl ?_
      refine r_aload_n F dX2_number_107 rfl ?_
      refine r_getiS (ci := 7) (k := 10) (id := 710) (C := RX6) (T := TX6) (N := 13) F G rfl (by decide) (by decide) rfl (zinL inG7) (zin kf_X2_62) (fun _ h9 => h9) dX2_number_108 gA I1 ?_
      refine r_icmp_ge (tgt := 126) F dX2_number_111 (by decide) (fun c111 => ?_) (fun c111 => ?_)
      · have hke : k = cn v 1208 (eN v 1202 8 i) := by have c9 := c111; rw [nI_leI (by omega) (by omega)] at c9; omega
        subst hke
        refine r_iinc F dX2_number_126 rfl (by decide) ?_
        refine r_goto (tgt := 77) F dX2_number_129 (by decide) ?_
        refine zsub (lv' := [(1, .int (nI (i + 1))), (0, .ref (ad 10))]) (by rw [show nI (i + 1) = nI i + Int32.ofInt 1 from (nI_add i 1).symm]; simp [zs1, lv_args, Value.category, show ((1 : Fin 4) : Nat) = 1 from rfl, show ((2 : Fin 4) : Nat) = 2 from rfl, show ((3 : Fin 4) : Nat) = 3 from rfl, show nI 0 = (0 : Int32) from rfl]) ?_
        have ew : wdF v (bd v 1202 8 (i + 1)) = (wdK v (eN v 1202 8 i) (wdF v (eN v 1202 8 i)) (cn v 1208 (eN v 1202 8 i))) := by rw [bd_s]; exact if_pos ht
        exact ih (n - 1) _ _ _ _ (by omega) ⟨i + 1, ad1, W1, by omega, hH, ka, nA1, by rw [ew]; exact hT1, by rw [ew]; exact hU1, hN1, by rw [ew]; exact hcl, by rw [ew]; exact hsl, rfl⟩
      · have hkk : k < cn v 1208 (eN v 1202 8 i) := by have c9 := c111; rw [nI_leI (by omega) (by omega)] at c9; omega
        have hDD2 := wdK_D hv hD hf hgf (wdF_D hv hD hg (eN v 1202 8 i) (by omega)) (k + 1) (by omega)
        have hl48 := nD_len _ _ hDD2.2
        have hCb := CC_b (wdK v (eN v 1202 8 i) (wdF v (eN v 1202 8 i)) (k + 1)).2.length (by omega)
        have hcm := CC_w (v := v) (f := (eN v 1202 8 i)) (k := k) (p := (wdK v (eN v 1202 8 i) (wdF v (eN v 1202 8 i)) k))
        rw [show wdS v (eN v 1202 8 i) k (wdK v (eN v 1202 8 i) (wdF v (eN v 1202 8 i)) k) = (wdK v (eN v 1202 8 i) (wdF v (eN v 1202 8 i)) (k + 1)) from rfl] at hcm
        rw [← ka 10 (by decide), ← eaf]
        refine r_aload_n F dX2_number_114 rfl ?_
        refine r_aload_n F dX2_number_115 rfl ?_
        refine r_iload_n F dX2_number_116 rfl ?_
        refine c_Vv (ci := 3) F G (c_noteWord hH hB1 hv hA hD (nA1.Sr hSr) hK hf ht hkk (hgf k hkk) hT1 hU1 hDD.1 hDD.2 a101) (cwV 2 F.2.2.2.2 (zgV km_X2_115 ki_X2_noteWord ke_X2_X2_noteWord kn_X2 ko_X2_noteWord) rfl rfl rfl ⟨rfl, hd_yX2_noteWord⟩ ⟨Nat.le_of_ble_eq_true rfl, Nat.le_of_ble_eq_true rfl⟩) rfl (by decide) (by rw [ka 10 (by decide)]; exact A0) rfl rfl (Nat.le_of_ble_eq_true rfl) dX2_number_117 ⟨by show cl + (CC (wdK v (eN v 1202 8 i) (wdF v (eN v 1202 8 i)) (k + 1)).2.length - CC (wdK v (eN v 1202 8 i) (wdF v (eN v 1202 8 i)) k).2.length) ≤ 7; omega, by show sl + (CS (wdK v (eN v 1202 8 i) (wdF v (eN v 1202 8 i)) (k + 1)).2.length - CS (wdK v (eN v 1202 8 i) (wdF v (eN v 1202 8 i)) k).2.length) ≤ 311; omega⟩ (fun S117 h117 => ?_)
        obtain ⟨ad2, W2, hH2, k2, nA2, hT2, hU2, h711⟩ := h117
        rw [ka 10 (by decide), eaf]
        refine r_iinc F dX2_number_120 rfl (by decide) ?_
        refine r_goto (tgt := 106) F dX2_number_123 (by decide) ?_
        refine zsub (lv' := [(3, .int (nI (k + 1))), (2, .ref (ad (200 + 12 * (eN v 1202 8 i)))), (1, .int (nI i)), (0, .ref (ad 10))]) (by rw [show nI (k + 1) = nI k + Int32.ofInt 1 from (nI_add k 1).symm]; simp [zs1, lv_args, Value.category, show ((1 : Fin 4) : Nat) = 1 from rfl, show ((2 : Fin 4) : Nat) = 2 from rfl, show ((3 : Fin 4) : Nat) = 3 from rfl, show nI 0 = (0 : Int32) from rfl]) ?_
        exact ih2 (n2 - 1) _ _ _ _ (by omega) ⟨k + 1, ad2, W2, by omega, hH2, fun d hd => (k2 d hd).trans (ka d hd), nA1.tr nA2, hT2, hU2, fun f h1 h2 => (h711 f).trans (hN1 f h1 h2), by show cl + (CC (wdK v (eN v 1202 8 i) (wdF v (eN v 1202 8 i)) (k + 1)).2.length - CC (wdK v (eN v 1202 8 i) (wdF v (eN v 1202 8 i)) k).2.length) ≤ CC (wdK v (eN v 1202 8 i) (wdF v (eN v 1202 8 i)) (k + 1)).2.length; omega, by show sl + (CS (wdK v (eN v 1202 8 i) (wdF v (eN v 1202 8 i)) (k + 1)).2.length - CS (wdK v (eN v 1202 8 i) (wdF v (eN v 1202 8 i)) k).2.length) ≤ CS (wdK v (eN v 1202 8 i) (wdF v (eN v 1202 8 i)) (k + 1)).2.length; omega, rfl⟩
  · have hi : i < (pS v 1202 6) := by have c9 := c34; rw [nI_leI (by omega) (by omega)] at c9; omega
    obtain ⟨hf, ht, hp⟩ := eN_t (v := v) (t := 1202) (M := 8) (by decide) hc hi
    obtain ⟨hbl, hgap⟩ := bd_le (v := v) (t := 1202) (M := 8) (by decide) hc hi
    have gg := hL1.get hH rfl hi
    have hR := hB1.2.2.1 (eN v 1202 8 i) hf ht
    have hkd := kd_r (eN v 1202 8 i) hf
    have gA : zA S (ad (200 + 12 * (eN v 1202 8 i))) 7 := hH.al hR.1 rfl hkd.1
    refine r_aload_n F dX2_number_37 rfl ?_
    refine r_getS (ci := 3) (k := 0) (id := 300) (C := RX2) (T := TX2) (N := 8) F G rfl (by decide) (by decide) rfl (zinL inG3) (zin kf_X2_12) (fun _ h9 => h9) dX2_number_38 A0 Q0 ?_
    refine r_iload_n F dX2_number_41 rfl ?_
    refine c_Fq (ci := 0) F G (k_get L0 L2 gg.1 L1 hi gg.2.1 gg.2.2.1) (va_cwF 1 F.2.2.2.2 (zgF km_X2_43 ke_Jx4a65c_Jxbd725_get ki_Jx4a65c_get_915e3 kn_Jx4a65c ko_Jx4a65c_get_915e3) rfl rfl rfl (G.2.2.2.2.1 (⟨"java/util/List", "get", "(I)Ljava/lang/Object;"⟩, yJx4a65c_get_915e3) (List.mem_of_getElem? (i := 2) rfl)) hdF_get ⟨Nat.le_of_ble_eq_true rfl, Nat.le_of_ble_eq_true rfl⟩) rfl (by decide) L0 rfl rfl (Nat.le_of_ble_eq_true rfl) dX2_number_42 ⟨Nat.zero_le _, Nat.zero_le _⟩ (fun r42 S42 h42 => ?_)
    obtain ⟨h42a, h42b⟩ := h42
    have h42c := h42b.symm
    subst h42c
    rw [gg.2.2.2] at h42a
    subst h42a
    refine r_cast (a := ad (200 + 12 * (eN v 1202 8 i))) (ci := 7) F G gA (by decide) rfl (List.mem_of_getElem? (i := 2) rfl) (zin kc_X2_50) dX2_number_47 ?_
    refine r_astore_n (x := ad (200 + 12 * (eN v 1202 8 i))) F dX2_number_50 (by decide) ?_
    refine r_aload_n F dX2_number_51 rfl ?_
    refine r_iload_n F dX2_number_52 rfl ?_
    refine r_puti (ci := 7) (k := 11) (id := 711) (C := RX6) (T := TX6) (N := 13) (ty := .int) (ty0 := tyX6) F G rfl (by decide) (by decide) rfl (zinL inG7) (zin kf_X2_102) (fun _ h9 => h9) tyX6_ok nmX6 rfl pd7_11 rfl rfl dX2_number_53 gA ?_
    refine zgen (P := zH t0 X S0 ad (oI W1 (200 + 12 * (eN v 1202 8 i)) 711 (nI i))) (hH.pi hR.1 rfl rfl (by rw [hkd.1]; decide) _) (fun S hH => ?_)
    clear A0 Q0 L0 L1 L2 gg gA
    have nA4 := nA1.tr (nuA.i (W := W1) (c := 200 + 12 * (eN v 1202 8 i)) (id := 711) (x := nI i) (Or.inr ⟨_, hf, rfl⟩) (Or.inr (Or.inl rfl)))
    have s4 : ∀ d, d ≠ 200 + 12 * (eN v 1202 8 i) → oI W1 (200 + 12 * (eN v 1202 8 i)) 711 (nI i) d = W1 d := fun d hd => va_up_ne _ _ hd
    have e4 : oI W1 (200 + 12 * (eN v 1202 8 i)) 711 (nI i) (200 + 12 * (eN v 1202 8 i)) = eI (W1 (200 + 12 * (eN v 1202 8 i))) 711 (nI i) := va_up_self _ _ _
    generalize oI W1 (200 + 12 * (eN v 1202 8 i)) 711 (nI i) = W4 at hH nA4 s4 e4
    have o4 : oa W4 (200 + 12 * (eN v 1202 8 i)) := by show (W4 _).1; rw [e4]; exact hR.1
    have gA : zA S (ad (200 + 12 * (eN v 1202 8 i))) 7 := hH.al o4 rfl hkd.1
    refine r_aload_n F dX2_number_56 rfl ?_
    refine r_iconst (v := 0) F dX2_number_57 (by decide) ?_
    refine r_puti (ci := 7) (k := 12) (id := 712) (C := RX6) (T := TX6) (N := 13) (ty := .int) (ty0 := tyX6) F G rfl (by decide) (by decide) rfl (zinL inG7) (zin kf_X2_105) (fun _ h9 => h9) tyX6_ok nmX6 rfl pd7_12 rfl rfl dX2_number_58 gA ?_
    refine zgen (P := zH t0 X S0 ad (oI W4 (200 + 12 * (eN v 1202 8 i)) 712 0)) (hH.pi o4 rfl rfl (by rw [hkd.1]; decide) _) (fun S hH => ?_)
    clear gA
    have nA5 := nA4.tr (nuA.i (W := W4) (c := 200 + 12 * (eN v 1202 8 i)) (id := 712) (x := 0) (Or.inr ⟨_, hf, rfl⟩) (Or.inr (Or.inr rfl)))
    have s5 : ∀ d, d ≠ 200 + 12 * (eN v 1202 8 i) → oI W4 (200 + 12 * (eN v 1202 8 i)) 712 0 d = W1 d := fun d hd => (va_up_ne _ _ hd).trans (s4 d hd)
    have e5 : oI W4 (200 + 12 * (eN v 1202 8 i)) 712 0 (200 + 12 * (eN v 1202 8 i)) = eI (eI (W1 (200 + 12 * (eN v 1202 8 i))) 711 (nI i)) 712 0 := (va_up_self _ _ _).trans (by rw [e4])
    generalize oI W4 (200 + 12 * (eN v 1202 8 i)) 712 0 = W5 at hH nA5 s5 e5
    have hl5 : vl W5 38 0 f38 := hl38.same (s5 _ (by omega)) (s5 _ (by omega))
    have hB5 := nA5.B hB hl5.1 hO
    have a105 : oa W5 10 := (nA5.al (by decide) (by decide)).mpr a10
    have gA : zA S (ad (200 + 12 * (eN v 1202 8 i))) 7 := hH.al (hB5.2.2.1 (eN v 1202 8 i) hf ht).1 rfl hkd.1
    have A0 : zA S (ad 10) 3 := hH.al a105 rfl rfl
    have hT5 : nuT W5 (tyF v (bd v 1202 8 i)) := hT1.same (s5 _ (by omega)) (s5 _ (by omega)) (s5 _ (by omega))
    have hsh := sh_le hv hf
    refine r_aload_n F dX2_number_61 rfl ?_
    refine r_aload_n F dX2_number_62 rfl ?_
    refine c_Vi (ci := 7) F G (c_Rsig hH hB5 hv hf ht rfl) (cwV 0 F.2.2.2.2 (zgV km_X2_108 ki_X6_signature ke_X6_X6_signature kn_X6 ko_X6_signature) rfl rfl rfl ⟨rfl, hd_yX6_signature⟩ ⟨Nat.le_of_ble_eq_true rfl, Nat.le_of_ble_eq_true rfl⟩) rfl (by decide) gA rfl rfl (Nat.le_of_ble_eq_true rfl) dX2_number_63 ⟨Nat.zero_le _, Nat.zero_le _⟩ (fun r63 S63 h63 => ?_)
    obtain ⟨er63, es63⟩ := h63
    have hs63 := es63.symm
    subst hs63
    subst er63
    refine c_Vv (ci := 3) F G (c_noteType hH hT5 (tyF_D hv (bd v 1202 8 i) (by omega)) (x := sh v (eN v 1202 8 i)) (by omega) hB5.1 a105) (cwV 1 F.2.2.2.2 (zgV km_X2_111 ki_X2_noteType ke_X2_X2_noteType kn_X2 ko_X2_noteType) rfl rfl rfl ⟨rfl, hd_yX2_noteType⟩ ⟨Nat.le_of_ble_eq_true rfl, Nat.le_of_ble_eq_true rfl⟩) rfl (by decide) A0 rfl rfl (Nat.le_of_ble_eq_true rfl) dX2_number_66 ⟨Nat.zero_le _, Nat.zero_le _⟩ (fun S66 h66 => ?_)
    obtain ⟨W6, hH6, nA6, hT6, hs6⟩ := h66
    refine r_iinc F dX2_number_69 rfl (by decide) ?_
    refine r_goto (tgt := 24) F dX2_number_72 (by decide) ?_
    refine zsub (lv' := [(1, .int (nI (i + 1))), (0, .ref (ad 10))]) (by rw [show nI (i + 1) = nI i + Int32.ofInt 1 from (nI_add i 1).symm]; simp [zs1, lv_args, Value.category, show ((1 : Fin 4) : Nat) = 1 from rfl, show ((2 : Fin 4) : Nat) = 2 from rfl, show ((3 : Fin 4) : Nat) = 3 from rfl, show nI 0 = (0 : Int32) from rfl]) ?_
    refine ih (n - 1) _ _ (by omega) ⟨i + 1, W6, by omega, hH6, nA5.tr nA6, hl5.same (hs6 _ (by decide) (by decide) (by decide)) (hs6 _ (by decide) (by decide) (by decide)), ?_, fun f h1 h2 h3 => ?_, rfl⟩
    · rw [bd_s, show tyF v ((eN v 1202 8 i) + 1) = addT (tyF v (eN v 1202 8 i)) (sh v (eN v 1202 8 i)) from if_pos ht, tyF_gap hbl hgap]
      exact hT6
    · rw [bd_s] at h3
      have e6 : W6 (200 + 12 * f) = W5 (200 + 12 * f) := hs6 _ (by omega) (by omega) (by omega)
      show (W6 (200 + 12 * f)).2.1 711 = _ ∧ (W6 (200 + 12 * f)).2.1 712 = _
      rw [e6]
      by_cases e9 : f = (eN v 1202 8 i)
      · rw [e9, e5, hp]
        refine ⟨?_, va_up_self (va_up (W1 (200 + 12 * (eN v 1202 8 i))).2.1 711 (nI i)) 712 0⟩
        show va_up (va_up (W1 (200 + 12 * (eN v 1202 8 i))).2.1 711 (nI i)) 712 0 711 = _
        rw [va_up_ne _ _ (by decide), va_up_self]
      · rw [s5 _ (by omega)]
        refine hd1 f h1 h2 ?_
        rcases Nat.lt_or_ge f (bd v 1202 8 i) with h8 | h8
        · exact h8
        · exact absurd h2 (hgap f h8 (by omega))
