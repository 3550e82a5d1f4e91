theorem wr_y {W W1 : zO} (hw : wr W) (kw : ∀ d, d < 44 ∨ 50 ≤ d → W1 d = W d) (h1 : oa W1 44) (h2 : oa W1 46) (h3 : oa W1 48) : wr W1 := fun id hid c hc hk => by
  have hid1 : id / 100 ≠ 1 ∧ id / 100 ≠ 13 := (show ∀ id ∈ wL, id / 100 ≠ 1 ∧ id / 100 ≠ 13 by decide) id hid
  have hcr : c < 44 ∨ 50 ≤ c := by
    rcases (show (c < 44 ∨ 50 ≤ c) ∨ c = 44 ∨ c = 45 ∨ c = 46 ∨ c = 47 ∨ c = 48 ∨ c = 49 by omega) with h | h | h | h | h | h | h
    · exact h
    · subst h; exact absurd (hk.symm.trans (show kd 44 = 1 from rfl)) hid1.1
    · subst h; exact absurd (hk.symm.trans (show kd 45 = 13 from rfl)) hid1.2
    · subst h; exact absurd (hk.symm.trans (show kd 46 = 1 from rfl)) hid1.1
    · subst h; exact absurd (hk.symm.trans (show kd 47 = 13 from rfl)) hid1.2
    · subst h; exact absurd (hk.symm.trans (show kd 48 = 1 from rfl)) hid1.1
    · subst h; exact absurd (hk.symm.trans (show kd 49 = 13 from rfl)) hid1.2
  have ec := kw c hcr
  obtain ⟨g1, g2, g3, g4⟩ := hw id hid c (by show (W c).1; rw [← ec]; exact hc) hk
  have key : ∀ n, n = 45 ∨ n = 47 ∨ n = 49 → wd id c ≠ n := fun n hn h => by
    have e13 : wk id = 13 := by
      rw [← g4, h]
      rcases hn with e | e | e <;> subst e <;> rfl
    rcases (show ∀ id ∈ wL, wk id = 13 → id = 404 ∨ id = 800 by decide) id hid e13 with q | q
    · subst q
      have h9 : (58 : Nat) = n := h
      omega
    · subst q
      have h9 : c + 2 = n := h
      rcases (show c = 43 ∨ c = 45 ∨ c = 47 by omega) with e | e | e <;> subst e <;> exact absurd hk (by decide)
  have hwd : (wd id c < 44 ∨ 50 ≤ wd id c) ∨ wd id c = 44 ∨ wd id c = 46 ∨ wd id c = 48 := by
    have k1 := key 45 (by decide)
    have k2 := key 47 (by decide)
    have k3 := key 49 (by decide)
    omega
  refine ⟨?_, ?_, fun h9 => ?_, g4⟩
  · show (W1 c).2.2.1 id = _
    rw [ec]; exact g1
  · rcases hwd with h | h | h | h
    · show (W1 (wd id c)).1
      rw [kw _ h]; exact g2
    · rw [h]; exact h1
    · rw [h]; exact h2
    · rw [h]; exact h3
  · have hn1 := (show ∀ id ∈ wL, wn id ≠ 0 → wk id ≠ 1 by decide) id hid h9
    rcases hwd with h | h | h | h
    · show (W1 (wd id c)).2.2.2.2.1 = _
      rw [kw _ h]; exact g3 h9
    · rw [h] at g4; exact absurd g4.symm hn1
    · rw [h] at g4; exact absurd g4.symm hn1
    · rw [h] at g4; exact absurd g4.symm hn1
/-- what the writer reads: all is numbered and laid out -/
def ldd (v : zV) (W : zO) (Ts Ss : List Nat) : Prop := Bld v W ∧ SrcOK v W ∧ nuT W Ts ∧ nuS v W Ss ∧ nuN v W ∧ (∀ g, g < 24 → g % 4 < cn v 1203 (g / 4) → oi W (800 + 4 * g) 802 = nI (rs (aS v g) (cn v 1212 g))) ∧ vl W 32 (pS v 1202 6) (fun i => 200 + 12 * eN v 1202 8 i) ∧ vl W 34 (pS v 1203 6) (fun i => 800 + 4 * eN v 1203 4 i) ∧ oa W 10 ∧ oa W 12 ∧ cn v 1201 0 ≤ 6
theorem Bld.y {v : zV} {W W1 : zO} (h : Bld v W) (hO : cn v 1201 0 ≤ 6) (kw : ∀ d, d < 44 ∨ 50 ≤ d → W1 d = W d) (hw : wr W1) : Bld v W1 := ⟨hw, fun o ho => (h.2.1 o ho).same (fun _ _ => rfl) (fun k hk => kw _ (by omega)), fun f hf ht => (h.2.2.1 f hf ht).same (fun _ _ => rfl) (fun _ _ => ⟨rfl, rfl⟩) (fun k hk => kw _ (by omega)), fun g hg ht => (h.2.2.2.1 g hg ht).same rfl rfl (fun _ _ => rfl) (kw _ (by omega)) (kw _ (by omega)), fun y hy ht => (h.2.2.2.2 y hy ht).same (fun _ _ => rfl) (kw _ (by omega))⟩
theorem ldd.same {v : zV} {W W1 : zO} {Ts Ss : List Nat} {L1 L2 L3 : List Int32} {k1 k2 k3 : Nat} (h : ldd v W Ts Ss) (kw : ∀ d, d < 44 ∨ 50 ≤ d → W1 d = W d) (h1 : bL W1 44 L1 k1) (h2 : bL W1 46 L2 k2) (h3 : bL W1 48 L3 k3) : ldd v W1 Ts Ss := by
  obtain ⟨a1, a2, a3, a4, a5, a6, a7, a8, a9, a10, a11⟩ := h
  have hw1 := wr_y a1.1 kw h1.2.1 h2.2.1 h3.2.1
  refine ⟨a1.y a11 kw hw1, fun y hy ht => ?_, a3.same (kw _ (by decide)) (kw _ (by decide)) (kw _ (by decide)), ⟨a4.1.same (kw _ (by decide)) (kw _ (by decide)), fun f hf ht => ?_⟩, fun f hf ht => ?_, fun g hg ht => ?_, a7.same (kw _ (by decide)) (kw _ (by decide)), a8.same (kw _ (by decide)) (kw _ (by decide)), ?_, ?_, a11⟩
  · show (W1 (cY y)).2.2.1 907 = _
    rw [kw _ (by unfold cY; omega)]; exact a2 y hy ht
  · show (W1 (200 + 12 * f)).2.1 712 = _
    rw [kw _ (by omega)]; exact a4.2 f hf ht
  · show (W1 (200 + 12 * f)).2.1 711 = _
    rw [kw _ (by omega)]; exact a5 f hf ht
  · show (W1 (800 + 4 * g)).2.1 802 = _
    rw [kw _ (by omega)]; exact a6 g hg ht
  · show (W1 10).1
    rw [kw _ (by decide)]; exact a9
  · show (W1 12).1
    rw [kw _ (by decide)]; exact a10
theorem yI {v : zV} {t0 : Nat} {X : Nat → Prop} {S0 S : zS} {ad ad1 : Nat → Nat} {W1 : zO} {Ts Ss : List Nat} (h : ldd v W1 Ts Ss) (hH : zH t0 X S0 ad1 W1 S) (ka : ∀ d, d ≠ 45 → d ≠ 47 → d ≠ 49 → ad1 d = ad d) : zA S (ad 10) 3 ∧ zi S 306 (ad 10) = nI Ts.length ∧ zq S 304 (ad 10) = some (ad 40) ∧ zq S 305 (ad 10) = some (ad 42) ∧ zq S 300 (ad 10) = some (ad 32) ∧ zq S 301 (ad 10) = some (ad 34) ∧ zq S 303 (ad 10) = some (ad 38) ∧ zA S (ad 32) 0 ∧ zi S 2 (ad 32) = nI (pS v 1202 6) ∧ zA S (ad 34) 0 ∧ zi S 2 (ad 34) = nI (pS v 1203 6) ∧ zA S (ad 38) 0 ∧ zi S 2 (ad 38) = nI Ss.length := by
  obtain ⟨a1, a2, a3, a4, a5, a6, a7, a8, a9, a10, a11⟩ := h
  have k : ∀ d, d ≠ 45 ∧ d ≠ 47 ∧ d ≠ 49 → ad1 d = ad d := fun d q => ka d q.1 q.2.1 q.2.2
  have q : ∀ id, id ∈ wL → id / 100 = 3 → oq W1 10 id = some (wd id 10) := fun id h1 h2 => a1.1.q a9 h1 (show kd 10 = id / 100 from h2.symm)
  exact ⟨hH.al a9 (k 10 (by decide)) rfl, (hH.i a9 (k 10 (by decide)) (by decide)).trans a3.1, hH.qS a9 (k 10 (by decide)) (by decide) (q 304 (by decide) rfl) (k 40 (by decide)), hH.qS a9 (k 10 (by decide)) (by decide) (q 305 (by decide) rfl) (k 42 (by decide)), hH.qS a9 (k 10 (by decide)) (by decide) (q 300 (by decide) rfl) (k 32 (by decide)), hH.qS a9 (k 10 (by decide)) (by decide) (q 301 (by decide) rfl) (k 34 (by decide)), hH.qS a9 (k 10 (by decide)) (by decide) (q 303 (by decide) rfl) (k 38 (by decide)), a7.al hH rfl (k 32 (by decide)), a7.z hH rfl (k 32 (by decide)), a8.al hH rfl (k 34 (by decide)), a8.z hH rfl (k 34 (by decide)), a4.1.al hH rfl (k 38 (by decide)), a4.1.z hH rfl (k 38 (by decide))⟩
theorem ixB_mono {v : zV} {t M a : Nat} {B : Nat → List Int32} : ∀ b, a ≤ b → (ixB v t M B a).length ≤ (ixB v t M B b).length
  | 0, h => by rw [Nat.le_zero.mp h]; exact Nat.le_refl _
  | b + 1, h => by
    rcases Nat.lt_or_ge a (b + 1) with h1 | h1
    · have h2 := ixB_mono (v := v) (t := t) (M := M) (B := B) b (show a ≤ b by omega)
      show _ ≤ (ixB v t M B b ++ B (eN v t M b)).length
      rw [List.length_append]
      omega
    · rw [show a = b + 1 by omega]; exact Nat.le_refl _
theorem lsB_mono {Ts : List Nat} {a : Nat} {B : Nat → List Int32} : ∀ b, a ≤ b → (lsB Ts B a).length ≤ (lsB Ts B b).length
  | 0, h => by rw [Nat.le_zero.mp h]; exact Nat.le_refl _
  | b + 1, h => by
    rcases Nat.lt_or_ge a (b + 1) with h1 | h1
    · have h2 := lsB_mono (Ts := Ts) (B := B) b (show a ≤ b by omega)
      show _ ≤ (lsB Ts B b ++ B (Ts.getD b 0)).length
      rw [List.length_append]
      omega
    · rw [show a = b + 1 by omega]; exact Nat.le_refl _
set_option maxRecDepth 100000 in
set_option maxHeartbeats 4000000 in
theorem c_values {l : Launch} {N0 t0 : Nat} {D : va_G} {cy : Nat → ClassId} {S : zS} {X : Nat → Prop} {S0 : zS} {ad : Nat → Nat} {W : zO} (hH : zH t0 X S0 ad W S) (hw : wr W) (a12 : oa W 12) {Lm Ls Lb : List Int32} {km ks kb : Nat} (hM : bL W 44 Lm km) (hC : bL W 46 Ls ks) (hY : bL W 48 Lb kb) {n : Nat} (hn : n < 100) (hlim : Ls.length ≤ 39000) : zMv l yX4_writeValues (zws yX4_writeValues cX4_writeValues 3 none) { frames := 4, cells := ((gk ks Ls.length (uns n ++ vlB n).length) - ks), slots := 2 * (((gk ks Ls.length (uns n ++ vlB n).length) - ks)), locals := 90 } N0 t0 D cy S [.ref (ad 12), .int (nI n)] (fun S' => yZ t0 X S0 ad W (Lm) (km) (Ls ++ (uns n ++ vlB n)) ((gk ks Ls.length (uns n ++ vlB n).length)) (Lb) (kb) S') (((gk ks Ls.length (uns n ++ vlB n).length) - ks)) (2 * (((gk ks Ls.length (uns n ++ vlB n).length) - ks))) := by
  refine zMv.of (cc := cX4_writeValues) (maxL := 3) (ret := none) (by decide) rfl (Nat.le_of_ble_eq_true rfl) ?_
  intro p e s m args below meth c F G hr hlk hnm
  have hub := uns_b n
  have hvn := (vlB_ok n).2
  have ka : ∀ d, d ≠ 45 → d ≠ 47 → d ≠ 49 → ad d = ad d := fun _ _ _ _ => rfl
  have kw : ∀ d, d < 44 ∨ 50 ≤ d → W d = W d := fun _ _ => rfl
  have FF := yF hw a12 hH ka kw hM hC hY
  replace hC : bL W 46 (Ls ++ ([] : List Int32)) (gk ks Ls.length (([] : List Int32)).length) := by rw [List.append_nil]; exact hC
  have fbs : ks ≤ (gk ks Ls.length (([] : List Int32)).length) := (gk_le _ _ _)
  have ffs : (gk ks Ls.length (([] : List Int32)).length) ≤ (gk ks Ls.length (uns n ++ vlB n).length) := (gk_mono _ (by first | omega | (simp only [List.length_append, List.length_cons, List.length_nil]; omega)))
  refine zwid (c2 := (((gk ks Ls.length (([] : List Int32)).length) - ks))) (s2 := 2 * (((gk ks Ls.length (([] : List Int32)).length) - ks))) (Nat.zero_le _) (Nat.zero_le _) ?_
  refine r_aload_n F dX4_writeValues_0 rfl ?_
  refine r_getS (ci := 5) (k := 1) (id := 501) (C := RX4) (T := TX4) (N := 3) F G rfl (by decide) (by decide) rfl (zinL inG5) (zin kf_X4_18) (fun _ h9 => h9) dX4_writeValues_1 FF.1 FF.2.2.1 ?_
  refine r_iload_n F dX4_writeValues_4 rfl ?_
  have fns : (gk ks Ls.length (([] : List Int32)).length) ≤ (gk ks Ls.length (([] : List Int32) ++ uns n).length) := gk_mono _ (by first | omega | (simp only [List.length_append, List.length_cons, List.length_nil]; omega))
  have ffs : (gk ks Ls.length (([] : List Int32) ++ uns n).length) ≤ (gk ks Ls.length (uns n ++ vlB n).length) := (gk_mono _ (by first | omega | (simp only [List.length_append, List.length_cons, List.length_nil]; omega)))
  refine c_Vv (ci := 1) F G (c_nnumber hH (L := Ls) (P := ([] : List Int32)) hC (ka 46 (by decide) (by decide) (by decide)) (v := n) (by omega) (by first | omega | (simp only [List.length_append, List.length_cons, List.length_nil]; omega))) (cwV 1 F.2.2.2.2 (zgV km_X4_54 ki_X0_number ke_X0_X0_number kn_X0 ko_X0_number) rfl rfl rfl ⟨rfl, hd_yX0_number⟩ ⟨Nat.le_of_ble_eq_true rfl, Nat.le_of_ble_eq_true rfl⟩) rfl (by decide) FF.2.2.2.2.2.1 rfl rfl (Nat.le_of_ble_eq_true rfl) dX4_writeValues_5 ⟨by show (((gk ks Ls.length (([] : List Int32)).length) - ks)) + ((gk ks Ls.length (([] : List Int32) ++ uns n).length) - (gk ks Ls.length (([] : List Int32)).length)) ≤ ((gk ks Ls.length (uns n ++ vlB n).length) - ks); omega, by show 2 * (((gk ks Ls.length (([] : List Int32)).length) - ks)) + 2 * ((gk ks Ls.length (([] : List Int32) ++ uns n).length) - (gk ks Ls.length (([] : List Int32)).length)) ≤ 2 * (((gk ks Ls.length (uns n ++ vlB n).length) - ks)); omega⟩ (fun S5 h5 => ?_)
  obtain ⟨ad1, W1, hH, ka, kw, hM, hC, hY⟩ := yZ.s ka kw hM hY h5
  have FF := yF hw a12 hH ka kw hM hC hY
  have fbs : ks ≤ (gk ks Ls.length (([] : List Int32) ++ uns n).length) := (gk_le _ _ _)
  refine zwid (c2 := (((gk ks Ls.length (([] : List Int32) ++ uns n).length) - ks))) (s2 := 2 * (((gk ks Ls.length (([] : List Int32) ++ uns n).length) - ks))) (by show (((gk ks Ls.length (([] : List Int32)).length) - ks)) + ((gk ks Ls.length (([] : List Int32) ++ uns n).length) - (gk ks Ls.length (([] : List Int32)).length)) ≤ _; omega) (by show 2 * (((gk ks Ls.length (([] : List Int32)).length) - ks)) + 2 * ((gk ks Ls.length (([] : List Int32) ++ uns n).length) - (gk ks Ls.length (([] : List Int32)).length)) ≤ _; omega) ?_
  refine r_iconst (v := 0) F dX4_writeValues_8 (by decide) ?_
  refine r_istore_n F dX4_writeValues_9 (by decide) ?_
  refine zsub (lv' := [(2, .int (nI 0)), (0, .ref (ad 12)), (1, .int (nI n))]) (by simp [zs1, lv_args, Value.category, show ((1 : Fin 4) : Nat) = 1 from rfl, show ((2 : Fin 4) : Nat) = 2 from rfl, show ((3 : Fin 4) : Nat) = 3 from rfl, show nI 0 = (0 : Int32) from rfl]) ?_
  have hpe : ([] : List Int32) ++ uns n = uns n ++ vlB 0 := by rw [show vlB 0 = [] from rfl, List.append_nil, List.nil_append]
  rw [hpe] at hC fbs ffs ⊢
  clear hpe
  refine z_loop2 (fun n9 cl sl S9 lv => ∃ j : Nat, j + n9 = n ∧ yZ t0 X S0 ad W Lm km (Ls ++ (uns n ++ vlB j)) (gk ks Ls.length (uns n ++ vlB j).length) Lb kb S9 ∧ cl ≤ (((gk ks Ls.length (uns n ++ vlB j).length) - ks)) ∧ sl ≤ 2 * (((gk ks Ls.length (uns n ++ vlB j).length) - ks)) ∧ lv = [(2, .int (nI j)), (0, .ref (ad 12)), (1, .int (nI n))]) (n) ?_ ⟨0, Nat.zero_add _, ⟨_, _, hH, ka, kw, hM, hC, hY⟩, Nat.le_refl _, Nat.le_refl _, rfl⟩
  clear ka kw hM hC hY FF hH fbs ffs
  rintro n9 cl sl S lv ⟨j, hin, hz9, hcl, hsl, rfl⟩ ih
  have hvj := (vlB_ok j).2
  obtain ⟨ad1, W1, hH, ka, kw, hM, hC, hY⟩ := hz9
  have FF := yF hw a12 hH ka kw hM hC hY
  have fbs : ks ≤ (gk ks Ls.length (uns n ++ vlB j).length) := (gk_le _ _ _)
  have ffs : (gk ks Ls.length (uns n ++ vlB j).length) ≤ (gk ks Ls.length (uns n ++ vlB n).length) := (gk_mono _ (by first | omega | (simp only [List.length_append, List.length_cons, List.length_nil]; omega)))
  refine zwid (c2 := (((gk ks Ls.length (uns n ++ vlB j).length) - ks))) (s2 := 2 * (((gk ks Ls.length (uns n ++ vlB j).length) - ks))) hcl hsl ?_
  clear hcl hsl
  refine r_iload_n F dX4_writeValues_10 rfl ?_
  refine r_iload_n F dX4_writeValues_11 rfl ?_
  refine r_icmp_ge (tgt := 30) F dX4_writeValues_12 (by decide) (fun c12 => ?_) (fun c12 => ?_)
  · have hj : j = n := by have c9 := c12; rw [nI_leI (by omega) (by omega)] at c9; omega
    subst hj
    exact e_vret F hr hlk ⟨ad1, W1, hH, ka, kw, hM, hC, hY⟩ (Nat.le_refl _) (Nat.le_refl _) dX4_writeValues_30
  · have hj : j < n := by have c9 := c12; rw [nI_leI (by omega) (by omega)] at c9; omega
    refine r_aload_n F dX4_writeValues_15 rfl ?_
    refine r_getS (ci := 5) (k := 1) (id := 501) (C := RX4) (T := TX4) (N := 3) F G rfl (by decide) (by decide) rfl (zinL inG5) (zin kf_X4_18) (fun _ h9 => h9) dX4_writeValues_16 FF.1 FF.2.2.1 ?_
    refine r_bipush (v := 126) F dX4_writeValues_19 (by decide) ?_
    have fns : (gk ks Ls.length (uns n ++ vlB j).length) ≤ (gk ks Ls.length (uns n ++ vlB j ++ [bv (nI 126)]).length) := gk_mono _ (by first | omega | (simp only [List.length_append, List.length_cons, List.length_nil]; omega))
    have ffs : (gk ks Ls.length (uns n ++ vlB j ++ [bv (nI 126)]).length) ≤ (gk ks Ls.length (uns n ++ vlB n).length) := (gk_mono _ (by first | omega | (simp only [List.length_append, List.length_cons, List.length_nil]; omega)))
    refine c_Vv (ci := 1) F G (c_nput hH (L := Ls) (P := uns n ++ vlB j) hC (ka 46 (by decide) (by decide) (by decide)) (x := nI 126) (by first | omega | (simp only [List.length_append, List.length_cons, List.length_nil]; omega))) (cwV 1 F.2.2.2.2 (zgV km_X4_50 ki_X0_put ke_X0_X0_put kn_X0 ko_X0_put) rfl rfl rfl ⟨rfl, hd_yX0_put⟩ ⟨Nat.le_of_ble_eq_true rfl, Nat.le_of_ble_eq_true rfl⟩) rfl (by decide) FF.2.2.2.2.2.1 rfl rfl (Nat.le_of_ble_eq_true rfl) dX4_writeValues_21 ⟨by show (((gk ks Ls.length (uns n ++ vlB j).length) - ks)) + ((gk ks Ls.length (uns n ++ vlB j ++ [bv (nI 126)]).length) - (gk ks Ls.length (uns n ++ vlB j).length)) ≤ ((gk ks Ls.length (uns n ++ vlB n).length) - ks); omega, by show 2 * (((gk ks Ls.length (uns n ++ vlB j).length) - ks)) + 2 * ((gk ks Ls.length (uns n ++ vlB j ++ [bv (nI 126)]).length) - (gk ks Ls.length (uns n ++ vlB j).length)) ≤ 2 * (((gk ks Ls.length (uns n ++ vlB n).length) - ks)); omega⟩ (fun S21 h21 => ?_)
    obtain ⟨ad1, W1, hH, ka, kw, hM, hC, hY⟩ := yZ.s ka kw hM hY h21
    have FF := yF hw a12 hH ka kw hM hC hY
    have fbs : ks ≤ (gk ks Ls.length (uns n ++ vlB j ++ [bv (nI 126)]).length) := (gk_le _ _ _)
    refine zwid (c2 := (((gk ks Ls.length (uns n ++ vlB j ++ [bv (nI 126)]).length) - ks))) (s2 := 2 * (((gk ks Ls.length (uns n ++ vlB j ++ [bv (nI 126)]).length) - ks))) (by show (((gk ks Ls.length (uns n ++ vlB j).length) - ks)) + ((gk ks Ls.length (uns n ++ vlB j ++ [bv (nI 126)]).length) - (gk ks Ls.length (uns n ++ vlB j).length)) ≤ _; omega) (by show 2 * (((gk ks Ls.length (uns n ++ vlB j).length) - ks)) + 2 * ((gk ks Ls.length (uns n ++ vlB j ++ [bv (nI 126)]).length) - (gk ks Ls.length (uns n ++ vlB j).length)) ≤ _; omega) ?_
    have hpe : uns n ++ vlB j ++ [bv (nI 126)] = uns n ++ vlB (j + 1) := by rw [vlB_s, List.append_assoc]
    rw [hpe] at hC fbs ffs ⊢
    clear hpe
    refine r_iinc F dX4_writeValues_24 rfl (by decide) ?_
    refine r_goto (tgt := 10) F dX4_writeValues_27 (by decide) ?_
    refine zsub (lv' := [(2, .int (nI (j + 1))), (0, .ref (ad 12)), (1, .int (nI n))]) (by rw [show nI (j + 1) = nI j + Int32.ofInt 1 from (nI_add j 1).symm]; simp [zs1, lv_args, Value.category, show ((1 : Fin 4) : Nat) = 1 from rfl, show ((2 : Fin 4) : Nat) = 2 from rfl, show ((3 : Fin 4) : Nat) = 3 from rfl, show nI 0 = (0 : Int32) from rfl]) ?_
    exact ih (n9 - 1) _ _ _ _ (by omega) ⟨j + 1, by omega, ⟨_, _, hH, ka, kw, hM, hC, hY⟩, Nat.le_refl _, Nat.le_refl _, rfl⟩
