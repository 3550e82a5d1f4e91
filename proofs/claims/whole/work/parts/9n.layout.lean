theorem oI_s {W : zO} {c id : Nat} {x : Int32} : oi (oI W c id x) c id = x := (congrArg (fun e : zE => e.2.1 id) (va_up_self W c (eI (W c) id x))).trans (va_up_self _ _ _)
theorem rs_and0 : ∀ k, k < 5 → ∀ x, x < 2048 → (nI x + nI (2 ^ k) - 1) &&& (-(nI (2 ^ k))) = nI (rs x k) := by decide +kernel
theorem rs_and {x k : Nat} (hk : k < 5) (hx : x < 2048) : (nI x + (1 : Int32) <<< (nI k &&& 31) - 1) &&& (-((1 : Int32) <<< (nI k &&& 31))) = nI (rs x k) := by
  rw [(rs_b k hk).1]
  exact rs_and0 k hk x hx
/-- what laying out may change: the image's end, the segments' addresses -/
def sgA (W W' : zO) : Prop := ∀ c, (W' c).1 = (W c).1 ∧ (W' c).2.2 = (W c).2.2 ∧ (∀ id, id ≠ 307 → id ≠ 802 → (W' c).2.1 id = (W c).2.1 id) ∧ (c ≠ 10 → (∀ g, g < 24 → c ≠ 800 + 4 * g) → W' c = W c)
theorem sgA.rf {W : zO} : sgA W W := fun _ => ⟨rfl, rfl, fun _ _ _ => rfl, fun _ _ => rfl⟩
theorem sgA.oa {W W' : zO} (h : sgA W W') {c : Nat} : oa W' c ↔ oa W c := by
  show (W' c).1 ↔ _
  rw [(h c).1]
theorem sgA.wr {W W' : zO} (h : sgA W W') (hw : wr W) : wr W' := fun id hid c hc hk => by
  obtain ⟨h1, h2, h3, h4⟩ := hw id hid c (h.oa.mp hc) hk
  exact ⟨by show (W' c).2.2.1 id = _; rw [(h c).2.1]; exact h1, h.oa.mpr h2, fun h9 => by show (W' (wd id c)).2.2.2.2.1 = _; rw [(h _).2.1]; exact h3 h9, h4⟩
theorem sgA.e {W W' : zO} (h : sgA W W') {x : Int32} : sgA W (oI W' 10 307 x) := fun c => by
  by_cases e : c = 10
  · subst e
    have e1 : oI W' 10 307 x 10 = eI (W' 10) 307 x := va_up_self _ _ _
    rw [e1]
    exact ⟨(h 10).1, (h 10).2.1, fun id h1 h2 => (va_up_ne _ _ h1).trans ((h 10).2.2.1 id h1 h2), fun h1 => absurd rfl h1⟩
  · have e1 : oI W' 10 307 x c = W' c := va_up_ne _ _ e
    rw [e1]
    exact h c
theorem sgA.s {W W' : zO} (h : sgA W W') {g : Nat} (hg : g < 24) {x : Int32} : sgA W (oI W' (800 + 4 * g) 802 x) := fun c => by
  by_cases e : c = 800 + 4 * g
  · subst e
    have e1 : oI W' (800 + 4 * g) 802 x (800 + 4 * g) = eI (W' (800 + 4 * g)) 802 x := va_up_self _ _ _
    rw [e1]
    exact ⟨(h _).1, (h _).2.1, fun id h1 h2 => (va_up_ne _ _ h2).trans ((h _).2.2.1 id h1 h2), fun _ h1 => absurd rfl (h1 g hg)⟩
  · have e1 : oI W' (800 + 4 * g) 802 x c = W' c := va_up_ne _ _ e
    rw [e1]
    exact h c
theorem sgA.G {v : zV} {W W' : zO} (h : sgA W W') {g : Nat} (hg : g < 24) (hG : rpG v W g) : rpG v W' g := by
  obtain ⟨h1, h2, h3, h4⟩ := hG
  have e : W' (800 + 4 * g + 2) = W (800 + 4 * g + 2) := (h _).2.2.2 (by omega) (fun g2 _ => by omega)
  refine ⟨h.oa.mpr h1, ((h _).2.2.1 801 (by decide) (by decide)).trans h2, ?_, fun k hk => ?_⟩
  · show (W' (800 + 4 * g + 2)).2.2.2.2.1 = _
    rw [e]; exact h3
  · show (W' (800 + 4 * g + 2)).2.2.2.2.2.1 k = _
    rw [e]; exact h4 k hk
theorem sgA.B {v : zV} {W W' : zO} (h : sgA W W') (hB : Bld v W) (hO : cn v 1201 0 ≤ 6) : Bld v W' := by
  have hs : ∀ c, c < 800 ∨ 900 ≤ c → c ≠ 10 → W' c = W c := fun c hc h1 => (h c).2.2.2 h1 (fun g hg => by omega)
  refine ⟨h.wr hB.1, fun o ho => (hB.2.1 o ho).same (fun _ _ => rfl) (fun k hk => hs _ (by omega) (by omega)), fun f hf ht => (hB.2.2.1 f hf ht).same (fun _ _ => rfl) (fun _ _ => ⟨rfl, rfl⟩) (fun k hk => hs _ (by omega) (by omega)), fun g hg ht => h.G hg (hB.2.2.2.1 g hg ht), fun y hy ht => (hB.2.2.2.2 y hy ht).same (fun _ _ => rfl) (hs _ (by omega) (by omega))⟩
theorem aS_gap {v : zV} {a b : Nat} (h : a ≤ b) (hn : ∀ x, a ≤ x → x < b → ¬ x % 4 < cn v 1203 (x / 4)) : aS v b = aS v a := by
  induction b with
  | zero => rw [Nat.le_zero.mp h]
  | succ b ih =>
    rcases Nat.lt_or_ge a (b + 1) with h1 | h1
    · show (if b % 4 < cn v 1203 (b / 4) then rs (aS v b) (cn v 1212 b) + cn v 1211 b else aS v b) = _
      rw [if_neg (hn b (by omega) (by omega))]
      exact ih (by omega) (fun x h2 h3 => hn x h2 (by omega))
    · rw [show a = b + 1 by omega]
set_option maxRecDepth 100000 in
set_option maxHeartbeats 4000000 in
theorem c_layOut {l : Launch} {N0 t0 : Nat} {D : va_G} {cy : Nat → ClassId} {S : zS} {X : Nat → Prop} {S0 : zS} {ad : Nat → Nat} {W : zO} (hH : zH t0 X S0 ad W S) {v : zV} (hB : Bld v W) (hv : vRg v) (hO : cn v 1201 0 ≤ 6) (a10 : oa W 10) (hL : vl W 34 (pS v 1203 6) (fun i => 800 + 4 * eN v 1203 4 i)) : zMv l yX2_layOut (zws yX2_layOut cX2_layOut 3 none) { frames := 3, cells := 0, slots := 0, locals := 65 } N0 t0 D cy S [.ref (ad 10)] (fun S' => ∃ W' : zO, zH t0 X S0 ad W' S' ∧ sgA W W' ∧ oi W' 10 307 = nI (aS v 24) ∧ ∀ g, g < 24 → g % 4 < cn v 1203 (g / 4) → oi W' (800 + 4 * g) 802 = nI (rs (aS v g) (cn v 1212 g))) 0 0 := by
  refine zMv.of (cc := cX2_layOut) (maxL := 3) (ret := none) (by decide) rfl (Nat.le_of_ble_eq_true rfl) ?_
  intro p e s m args below meth c F G hr hlk hnm
  have hc : ∀ o, o < 6 → cn v 1203 o ≤ 4 := fun o ho => (rg_1203 hv ho).2
  have hNb := pS_b (v := v) (t := 1203) (M := 4) hc 6 (Nat.le_refl _)
  have A0 : zA S (ad 10) 3 := hH.al a10 rfl rfl
  refine r_aload_n F dX2_layOut_0 rfl ?_
  refine r_bipush (v := 16) F dX2_layOut_1 (by decide) ?_
  refine r_puti (ci := 3) (k := 7) (id := 307) (C := RX2) (T := TX2) (N := 8) (ty := .int) (ty0 := tyX2) F G rfl (by decide) (by decide) rfl (zinL inG3) (zin kf_X2_80) (fun _ h9 => h9) tyX2_ok nmX2 rfl pd3_7 rfl rfl dX2_layOut_3 A0 ?_
  refine zgen (P := zH t0 X S0 ad (oI W 10 307 (nI 16))) (hH.pi a10 rfl rfl (by decide) _) (fun S hH => ?_)
  refine r_iconst (v := 0) F dX2_layOut_6 (by decide) ?_
  refine r_istore_n F dX2_layOut_7 (by decide) ?_
  refine z_loop (fun n S9 lv => ∃ (i B : Nat) (W1 : zO), i + n = pS v 1203 6 ∧ zH t0 X S0 ad W1 S9 ∧ sgA W W1 ∧ B ≤ 24 ∧ oi W1 10 307 = nI (aS v B) ∧ (∀ z, z < 24 → z % 4 < cn v 1203 (z / 4) → (z < B ↔ pN v 1203 4 z < i)) ∧ (∀ g, g < 24 → g % 4 < cn v 1203 (g / 4) → g < B → oi W1 (800 + 4 * g) 802 = nI (rs (aS v g) (cn v 1212 g))) ∧ lv = [(1, .int (nI i)), (0, .ref (ad 10))]) (pS v 1203 6) ?_ ⟨0, 0, _, by omega, hH, sgA.rf.e, by omega, (oI_s (W := W) (x := nI 16)), fun z _ _ => ⟨fun h => absurd h (Nat.not_lt_zero _), fun h => absurd h (Nat.not_lt_zero _)⟩, fun g _ _ h => absurd h (Nat.not_lt_zero _), rfl⟩
  clear hH A0
  rintro n S lv ⟨i, B, W1, hn9, hH, hsA, hB24, hend, hiff, hadr, rfl⟩ ih
  have hw1 := hsA.wr hB.1
  have a101 := hsA.oa.mpr a10
  have hB1 := hsA.B hB hO
  have Q0 : zq S 301 (ad 10) = some (ad 34) := hH.qS a101 rfl (by decide) (hw1.q a101 (by decide) rfl) rfl
  have hL1 : vl W1 34 (pS v 1203 6) (fun i => 800 + 4 * eN v 1203 4 i) := hL.same ((hsA 34).2.2.2 (by decide) (fun g hg => by omega)) ((hsA 35).2.2.2 (by decide) (fun g hg => by omega))
  have L0 : zA S (ad 34) 0 := hL1.al hH rfl rfl
  have L1 : zi S 2 (ad 34) = nI (pS v 1203 6) := hL1.z hH rfl rfl
  have L2 : zq S 1 (ad 34) = some (vlq t0 ad W1 34) := hL1.E hH rfl rfl
  have A0 : zA S (ad 10) 3 := hH.al a101 rfl rfl
  have E0 : zi S 307 (ad 10) = oi W1 10 307 := hH.i a101 rfl (by decide)
  rw [hend] at E0
  refine r_iload_n F dX2_layOut_8 rfl ?_
  refine r_aload_n F dX2_layOut_9 rfl ?_
  refine r_getS (ci := 3) (k := 1) (id := 301) (C := RX2) (T := TX2) (N := 8) F G rfl (by decide) (by decide) rfl (zinL inG3) (zin kf_X2_18) (fun _ h9 => h9) dX2_layOut_10 A0 Q0 ?_
  refine c_Fi (ci := 0) F G (k_ListSize L0) (va_cwF 0 F.2.2.2.2 (zgF km_X2_39 ke_Jx4a65c_Jxbd725_size ki_Jx4a65c_size_8abf5 kn_Jx4a65c ko_Jx4a65c_size_8abf5) rfl rfl rfl (G.2.2.2.2.1 (⟨"java/util/List", "size", "()I"⟩, yJx4a65c_size_8abf5) (List.mem_of_getElem? (i := 0) rfl)) hdF_size ⟨Nat.le_of_ble_eq_true rfl, Nat.le_of_ble_eq_true rfl⟩) rfl (by decide) L0 rfl rfl (Nat.le_of_ble_eq_true rfl) dX2_layOut_13 ⟨Nat.le_of_ble_eq_true rfl, Nat.le_of_ble_eq_true rfl⟩ (fun r13 S13 h13 => ?_)
  obtain ⟨h13a, h13b⟩ := h13
  have h13c := h13b.symm
  subst h13c
  rw [L1] at h13a
  subst h13a
  refine r_icmp_ge (tgt := 76) F dX2_layOut_18 (by decide) (fun c18 => ?_) (fun c18 => ?_)
  · have hall : ∀ z, z < 24 → z % 4 < cn v 1203 (z / 4) → z < B := fun z h1 h2 => (hiff z h1 h2).mpr (by have h8 := pN_top (v := v) (t := 1203) (M := 4) (by decide) h1 h2; rw [nI_leI (by omega) (by omega)] at c18; omega)
    exact e_vret F hr hlk ⟨W1, hH, hsA, by rw [hend, aS_gap hB24 (fun x h1 h2 h3 => absurd (hall x h2 h3) (by omega))], fun g h1 h2 => hadr g h1 h2 (hall g h1 h2)⟩ (by decide) (by decide) dX2_layOut_76
  · have hi : i < pS v 1203 6 := by rw [nI_leI (by omega) (by omega)] at c18; omega
    obtain ⟨hg, ht, hp⟩ := eN_t (v := v) (t := 1203) (M := 4) (by decide) hc hi
    have gg := hL1.get hH rfl hi
    have hG := hB1.2.2.2.1 (eN v 1203 4 i) hg ht
    have hkg := kd_g (eN v 1203 4 i) hg
    have gA : zA S (ad (800 + 4 * (eN v 1203 4 i))) 8 := hH.al hG.1 rfl hkg.1
    have hal := rg_1212 hv hg
    have hsz := rg_1211 hv hg
    have hal2 := hal.2
    have hsz2 := hsz.2
    have hBz : B ≤ (eN v 1203 4 i) := by
      rcases Nat.lt_or_ge (eN v 1203 4 i) B with h9 | h9
      · have h8 := (hiff (eN v 1203 4 i) hg ht).mp h9
        omega
      · exact h9
    have hgap : aS v (eN v 1203 4 i) = aS v B := aS_gap hBz (fun x h1 h2 h3 => by
      have h4 := pN_lt (M := 4) (by decide) h2 h3
      have h5 := (hiff x (by omega) h3).mpr (by omega)
      omega)
    have hab := aS_le hv (eN v 1203 4 i) (by omega)
    have hab2 : aS v (eN v 1203 4 i) ≤ 1912 := by omega
    have hrl := rs_le (x := aS v (eN v 1203 4 i)) (k := cn v 1212 (eN v 1203 4 i)) (by omega)
    have J1 : zi S 801 (ad (800 + 4 * (eN v 1203 4 i))) = (1 : Int32) <<< (nI (cn v 1212 (eN v 1203 4 i)) &&& 31) := (hH.i hG.1 rfl (by rw [hkg.1]; decide)).trans (hG.2.1.trans (by rw [hal.1]))
    refine r_aload_n F dX2_layOut_21 rfl ?_
    refine r_getS (ci := 3) (k := 1) (id := 301) (C := RX2) (T := TX2) (N := 8) F G rfl (by decide) (by decide) rfl (zinL inG3) (zin kf_X2_18) (fun _ h9 => h9) dX2_layOut_22 A0 Q0 ?_
    refine r_iload_n F dX2_layOut_25 rfl ?_
    refine c_Fq (ci := 0) F G (k_get L0 L2 gg.1 L1 hi gg.2.1 gg.2.2.1) (va_cwF 1 F.2.2.2.2 (zgF km_X2_43 ke_Jx4a65c_Jxbd725_get ki_Jx4a65c_get_915e3 kn_Jx4a65c ko_Jx4a65c_get_915e3) rfl rfl rfl (G.2.2.2.2.1 (⟨"java/util/List", "get", "(I)Ljava/lang/Object;"⟩, yJx4a65c_get_915e3) (List.mem_of_getElem? (i := 2) rfl)) hdF_get ⟨Nat.le_of_ble_eq_true rfl, Nat.le_of_ble_eq_true rfl⟩) rfl (by decide) L0 rfl rfl (Nat.le_of_ble_eq_true rfl) dX2_layOut_26 ⟨Nat.le_of_ble_eq_true rfl, Nat.le_of_ble_eq_true rfl⟩ (fun r26 S26 h26 => ?_)
    obtain ⟨h26a, h26b⟩ := h26
    have h26c := h26b.symm
    subst h26c
    rw [gg.2.2.2] at h26a
    subst h26a
    refine r_cast (a := ad (800 + 4 * (eN v 1203 4 i))) (ci := 8) F G gA (by decide) rfl (List.mem_of_getElem? (i := 3) rfl) (zin kc_X2_57) dX2_layOut_31 ?_
    refine r_astore_n (x := ad (800 + 4 * (eN v 1203 4 i))) F dX2_layOut_34 (by decide) ?_
    refine r_aload_n F dX2_layOut_35 rfl ?_
    refine r_aload_n F dX2_layOut_36 rfl ?_
    refine r_getiS (ci := 3) (k := 7) (id := 307) (C := RX2) (T := TX2) (N := 8) F G rfl (by decide) (by decide) rfl (zinL inG3) (zin kf_X2_80) (fun _ h9 => h9) dX2_layOut_37 A0 E0 ?_
    refine r_aload_n F dX2_layOut_40 rfl ?_
    refine r_getiS (ci := 8) (k := 1) (id := 801) (C := RX7) (T := TX7) (N := 3) F G rfl (by decide) (by decide) rfl (zinL inG8) (zin kf_X2_83) (fun _ h9 => h9) dX2_layOut_41 gA J1 ?_
    refine r_iadd F dX2_layOut_44 ?_
    refine r_iconst (v := 1) F dX2_layOut_45 (by decide) ?_
    refine r_isub F dX2_layOut_46 ?_
    refine r_aload_n F dX2_layOut_47 rfl ?_
    refine r_getiS (ci := 8) (k := 1) (id := 801) (C := RX7) (T := TX7) (N := 3) F G rfl (by decide) (by decide) rfl (zinL inG8) (zin kf_X2_83) (fun _ h9 => h9) dX2_layOut_48 gA J1 ?_
    refine r_ineg F dX2_layOut_51 ?_
    refine r_iand F dX2_layOut_52 ?_
    rw [← hgap, rs_and (by omega) (by omega)]
    refine r_puti (ci := 8) (k := 2) (id := 802) (C := RX7) (T := TX7) (N := 3) (ty := .int) (ty0 := tyX7) F G rfl (by decide) (by decide) rfl (zinL inG8) (zin kf_X2_86) (fun _ h9 => h9) tyX7_ok nmX7 rfl pd8_2 rfl rfl dX2_layOut_53 gA ?_
    refine zgen (P := zH t0 X S0 ad (oI W1 (800 + 4 * (eN v 1203 4 i)) 802 (nI (rs (aS v (eN v 1203 4 i)) (cn v 1212 (eN v 1203 4 i)))))) (hH.pi hG.1 rfl rfl (by rw [hkg.1]; decide) _) (fun S hH => ?_)
    clear A0 E0 Q0 L0 L1 L2 gg gA J1
    have hsA2 := hsA.s hg (x := nI (rs (aS v (eN v 1203 4 i)) (cn v 1212 (eN v 1203 4 i))))
    have e802 : oi (oI W1 (800 + 4 * (eN v 1203 4 i)) 802 (nI (rs (aS v (eN v 1203 4 i)) (cn v 1212 (eN v 1203 4 i))))) (800 + 4 * (eN v 1203 4 i)) 802 = nI (rs (aS v (eN v 1203 4 i)) (cn v 1212 (eN v 1203 4 i))) := oI_s
    have hold : ∀ c id, ¬ (c = 800 + 4 * (eN v 1203 4 i) ∧ id = 802) → oi (oI W1 (800 + 4 * (eN v 1203 4 i)) 802 (nI (rs (aS v (eN v 1203 4 i)) (cn v 1212 (eN v 1203 4 i))))) c id = oi W1 c id := fun c id h9 => by
      by_cases e1 : c = 800 + 4 * (eN v 1203 4 i)
      · subst e1
        exact (congrArg (fun e : zE => e.2.1 id) (va_up_self W1 (800 + 4 * (eN v 1203 4 i)) _)).trans (va_up_ne _ _ (fun h8 => h9 ⟨rfl, h8⟩))
      · exact congrArg (fun e : zE => e.2.1 id) (va_up_ne W1 _ e1)
    generalize (oI W1 (800 + 4 * (eN v 1203 4 i)) 802 (nI (rs (aS v (eN v 1203 4 i)) (cn v 1212 (eN v 1203 4 i))))) = W2 at hH hsA2 e802 hold
    have hw2 := hsA2.wr hB.1
    have a102 := hsA2.oa.mpr a10
    have hG2 := (hsA2.B hB hO).2.2.2.1 (eN v 1203 4 i) hg ht
    have A0 : zA S (ad 10) 3 := hH.al a102 rfl rfl
    have gA : zA S (ad (800 + 4 * (eN v 1203 4 i))) 8 := hH.al hG2.1 rfl hkg.1
    have J2 : zi S 802 (ad (800 + 4 * (eN v 1203 4 i))) = nI (rs (aS v (eN v 1203 4 i)) (cn v 1212 (eN v 1203 4 i))) := (hH.i hG2.1 rfl (by rw [hkg.1]; decide)).trans e802
    have Y1 : zq S 800 (ad (800 + 4 * (eN v 1203 4 i))) = some (ad (800 + 4 * (eN v 1203 4 i) + 2)) := hH.qS hG2.1 rfl (by rw [hkg.1]; decide) (hw2.q hG2.1 (by decide) hkg.1) rfl
    have b2 : oa W2 (800 + 4 * (eN v 1203 4 i) + 2) := hw2.a hG2.1 (id := 800) (by decide) hkg.1
    refine r_aload_n F dX2_layOut_56 rfl ?_
    refine r_aload_n F dX2_layOut_57 rfl ?_
    refine r_getiS (ci := 8) (k := 2) (id := 802) (C := RX7) (T := TX7) (N := 3) F G rfl (by decide) (by decide) rfl (zinL inG8) (zin kf_X2_86) (fun _ h9 => h9) dX2_layOut_58 gA J2 ?_
    refine r_aload_n F dX2_layOut_61 rfl ?_
    refine r_getS (ci := 8) (k := 0) (id := 800) (C := RX7) (T := TX7) (N := 3) F G rfl (by decide) (by decide) rfl (zinL inG8) (zin kf_X2_89) (fun _ h9 => h9) dX2_layOut_62 gA Y1 ?_
    refine v_alen (n := 0) (j := 0) F G hH b2 rfl hkg.2 rfl rfl dX2_layOut_65 ?_
    rw [hG2.2.2.1]
    refine r_iadd F dX2_layOut_66 ?_
    rw [show nI (rs (aS v (eN v 1203 4 i)) (cn v 1212 (eN v 1203 4 i))) + nI (cn v 1211 (eN v 1203 4 i)) = nI (aS v ((eN v 1203 4 i) + 1)) by rw [show aS v ((eN v 1203 4 i) + 1) = rs (aS v (eN v 1203 4 i)) (cn v 1212 (eN v 1203 4 i)) + cn v 1211 (eN v 1203 4 i) from if_pos ht]; exact nI_add _ _]
    refine r_puti (ci := 3) (k := 7) (id := 307) (C := RX2) (T := TX2) (N := 8) (ty := .int) (ty0 := tyX2) F G rfl (by decide) (by decide) rfl (zinL inG3) (zin kf_X2_80) (fun _ h9 => h9) tyX2_ok nmX2 rfl pd3_7 rfl rfl dX2_layOut_67 A0 ?_
    refine zgen (P := zH t0 X S0 ad (oI W2 10 307 (nI (aS v ((eN v 1203 4 i) + 1))))) (hH.pi a102 rfl rfl (by decide) _) (fun S hH => ?_)
    refine r_iinc F dX2_layOut_70 rfl (by decide) ?_
    refine r_goto (tgt := 8) F dX2_layOut_73 (by decide) ?_
    refine zsub (lv' := [(1, .int (nI (i + 1))), (0, .ref (ad 10))]) (by rw [show nI (i + 1) = nI i + Int32.ofInt 1 from (nI_add i 1).symm]; simp [zs1, Value.category, show ((1 : Fin 4) : Nat) = 1 from rfl, show ((2 : Fin 4) : Nat) = 2 from rfl]) ?_
    refine ih (n - 1) _ _ (by omega) ⟨i + 1, (eN v 1203 4 i) + 1, _, by omega, hH, hsA2.e, by omega, oI_s, fun z hz1 hz2 => ?_, fun g hg1 hg2 hg3 => ?_, rfl⟩
    · constructor
      · intro h9
        rcases Nat.lt_or_ge z (eN v 1203 4 i) with h8 | h8
        · have := pN_lt (M := 4) (by decide) h8 hz2
          omega
        · rw [show z = (eN v 1203 4 i) by omega, hp]
          omega
      · intro h9
        rcases Nat.lt_or_ge (eN v 1203 4 i) z with h8 | h8
        · have := pN_lt (M := 4) (by decide) h8 ht
          omega
        · omega
    · have e0 : oi (oI W2 10 307 (nI (aS v ((eN v 1203 4 i) + 1)))) (800 + 4 * g) 802 = oi W2 (800 + 4 * g) 802 := congrArg (fun e : zE => e.2.1 802) (va_up_ne W2 _ (by omega))
      rw [e0]
      by_cases e1 : g = (eN v 1203 4 i)
      · rw [e1]; exact e802
      · rw [hold _ _ (fun h9 => e1 (by omega))]
        have h5 := pN_lt (M := 4) (by decide) (show g < (eN v 1203 4 i) by omega) hg2
        exact hadr g hg1 hg2 ((hiff g hg1 hg2).mpr (by omega))
