theorem nI_n0 {k : Nat} (h : k < 2 ^ 31) : ¬ nI k < 0 := fun h9 => by
  rw [Int32.lt_iff_toInt_lt, nI_toInt h] at h9
  have h8 : ((k : Nat) : Int) < 0 := h9
  omega
theorem mntR_e {v0 v : zV} (h : vL v0 v) (Ss : List Nat) (y : Nat) (x : Int32) : mntR v Ss y x = mntR v0 Ss y x := by
  unfold mntR
  have e : ∀ z, pN v 1202 8 z = pN v0 1202 8 z := fun z => h.epN (by omega) 8 z
  rw [h 1215 y (by omega), h.eaO, h.efO]
  simp only [e]
theorem lwV.v0 {v : zV} {W : zO} {km ks kb : Nat} (h : lwV v W km ks kb) : ∃ (v0 : zV) (T : Nat → Int32) (L : List Int32), vL v0 v ∧ vI v0 ∧ L.length ≤ 40000 ∧ (v.1 1219 0 = 1 → L = mdB v0 (wdF v0 48).1 (wdF v0 48).2 ∧ LK v0 W ∧ tQ v 1226 1227 (wdF v0 48).1 ∧ tQ v 1224 1225 (wdF v0 48).2 ∧ mB v T L ∧ kEq v0 ∧ sOK v0 (wdF v0 48).2 ∧ aS v0 24 ≤ 1024) := by
  rcases h.2.2.1 with h0 | h1
  · exact ⟨v, fun _ => 0, [], vL.rf, h.1, Nat.zero_le _, fun h9 => absurd (h0.symm.trans h9) (by decide)⟩
  · obtain ⟨v0, T, q1, q2, q3, q4, q5⟩ := h.2.2.2.2.2.2 h1
    have hI0 : vI v0 := vI.L q1.sy h.1
    have hn := q2.1
    have hd := wdF_D hI0.1 hI0.2.2.2.1 (vL.rf.allG (hn.1 (by decide))) 48 (Nat.le_refl _)
    have hk := sOK.of hI0.1 hI0.2.2.2.1 hn
    exact ⟨v0, T, _, q1, hI0, Nat.le_trans (mdB_ok hI0.1 hd.1 hd.2).2 (by decide), fun _ => ⟨rfl, q2, q3, q4, q5, hk.1, hk.2, hn.2.2.2.2.2.2 (by decide)⟩⟩
theorem cnt_e {v0 v : zV} {T : Nat → Int32} (hL : vL v0 v) (hA : vA v) (hv : vRg v) (h1 : tQ v 1226 1227 (wdF v0 48).1) (h2 : tQ v 1224 1225 (wdF v0 48).2) (h3 : mB v T (mdB v0 (wdF v0 48).1 (wdF v0 48).2)) (x : Int32) : cntC v0 x = cntR v x := by
  have h6 := (rg_1201 hv (k := 0) (by omega)).2
  have e1 : pS v0 1202 6 = pS v 1202 (cn v 1201 0) := ((hL.epS (by omega) 6).symm).trans (pS_top hA (Or.inl rfl) h6 (Nat.le_refl _))
  unfold cntC cntR
  rw [h3.1, h1.1, h2.1, hL.eaS, e1]
theorem lwV.r {v v2 : zV} {W : zO} {M : mKt} {km ks kb : Nat} (h : lwV v W km ks kb) (hU : rU v v2) (m1 : M.2.1 = v2.2 1229 0) (m2 : M.1 410 = v2.1 1230 0) (m3 : M.1 411 = v2.1 1231 0) (m4 : ∀ k, k < 1024 → mBy M k = v2.1 1228 k) : lwV v2 (mW W M) km ks kb := by
  obtain ⟨h1, h2, h3, ⟨Lm, h4⟩, h5, ⟨Lb, h6⟩, h7⟩ := h
  have hL : vL v v2 := hU.L vL.rf
  have e19 : v2.1 1219 0 = v.1 1219 0 := hU.1 1219 0 (by omega)
  refine ⟨vI.L hL h1, h2.run (rg_1201 h1.1 (k := 0) (by omega)).2 hU m1 m2 m3 m4, by rw [e19]; exact h3, ⟨Lm, h4.m (Or.inl rfl)⟩, h5.m (Or.inr (Or.inl rfl)), ⟨Lb, h6.m (Or.inr (Or.inr rfl))⟩, fun h9 => ?_⟩
  rw [e19] at h9
  obtain ⟨v0, T, q1, q2, q3, q4, q5⟩ := h7 h9
  exact ⟨v0, T, q1.tr hL, q2.m, ⟨(hU.1 1227 0 (by omega)).trans q3.1, fun k hk => (hU.1 1226 k (by omega)).trans (q3.2 k hk)⟩, ⟨(hU.1 1225 0 (by omega)).trans q4.1, fun k hk => (hU.1 1224 k (by omega)).trans (q4.2 k hk)⟩, (hU.1 1223 0 (by omega)).trans q5.1, fun k hk => (hU.1 1222 k (by omega)).trans (q5.2.1 k hk), fun k hk => (hU.1 1222 k (by omega)).trans (q5.2.2 k hk)⟩
/-- how far the rows grow -/
theorem gk_b {k n : Nat} (hk : k ≤ 65536) : ∀ j, n + j ≤ 32768 → gk k n j ≤ 65536
  | 0, _ => hk
  | j + 1, h => by
    show pk (gk k n j) (n + j) ≤ 65536
    have h9 := gk_b (n := n) hk j (by omega)
    unfold pk
    split
    · omega
    · exact h9
theorem gk_b0 {k j : Nat} (hk : k ≤ 65536) (h : j ≤ 32768) : gk k ([] : List Int32).length j ≤ 65536 := gk_b hk j (by rw [List.length_nil]; omega)
theorem bL.cap9 {W : zO} {c k : Nat} {L : List Int32} (h : bL W c L k) : k ≤ 65536 := by
  obtain ⟨e, he, ek⟩ := h.2.2.2.2.2.2.2.2.1
  have h9 : 2 ^ e ≤ 2 ^ 9 := Nat.pow_le_pow_right (by decide) he
  rw [ek]
  omega
theorem fnB_b {v : zV} {Ts Ss : List Nat} (hv : vRg v) {f : Nat} (hf : f < 48) : (fnB v Ts Ss f).length ≤ 489 := by
  have h := (fnW_ok (Ts := Ts) (Ss := Ss) hv hf).2
  unfold fnW at h
  rw [List.length_append] at h
  omega
theorem kbF_b {v : zV} {Ts Ss : List Nat} {kb : Nat} (hv : vRg v) (hk : kb ≤ 65536) : ∀ n, n ≤ pS v 1202 6 → kbF v Ts Ss kb n ≤ 65536
  | 0, _ => hk
  | n + 1, h => gk_b0 (kbF_b hv hk n (by omega)) (Nat.le_trans (fnB_b hv (eN_t (t := 1202) (M := 8) (by decide) (fun o ho => (rg_1202 hv ho).2) (by omega)).1) (by decide))
theorem kSd_b {v : zV} {Ts Ss : List Nat} {ks : Nat} (hv : vRg v) (h1 : nD Ts 10) (h2 : nD Ss 48) (hk : ks ≤ 65536) : kSd v Ts Ss ks ≤ 65536 := by
  have a1 := (sc1_ok h1).2
  have a3 := (sc3_ok v Ts).2
  have a4 := (sc4_ok Ss).2
  have a5 := sc5_ok.2
  have a9 := (sc9_ok v h2).2
  have aA := (scA_ok Ts Ss hv).2
  have aB9 := (scB_ok hv).2
  have ka : kSa v Ts Ss ks ≤ 65536 := gk_b0 (gk_b0 (gk_b0 (gk_b0 hk (by omega)) (by omega)) (by omega)) (by omega)
  have kb : kSb v Ts Ss ks ≤ 65536 := by
    unfold kSb
    split
    · exact gk_b0 ka (by omega)
    · exact ka
  have kc : kSc v Ts Ss ks ≤ 65536 := gk_b0 kb (by omega)
  unfold kSd
  split
  · exact gk_b0 kc (by omega)
  · exact kc
section ZLS8
variable {p : Program} {l : Launch} {e : Env} {R : Room} {s : State} {m : MethodId} {args : Array Value} {below : List Frame} {meth : Method} {c : Code} {Q : State → Prop} {N0 t0 : Nat} {D : va_G} {cy : Nat → ClassId} {cells slots : Nat} {z : Cond} {S : zS}
set_option maxRecDepth 100000 in
set_option maxHeartbeats 4000000 in
theorem lx_count (F : CallFix p m c cL_law 8 s args (z :: lw_good) RL) (G : zG N0 t0 D cy s s.heap) (hl : l.stackTraces = false) {b L : Nat} {xs : Nat → Int32} (hX : va_X b L xs s s.heap) (hbl : b < s.heap.size) (hbN : b < N0) {i : Nat} (hi : i + 8 ≤ L) (hL : L < 2 ^ 31) {x g o : Nat} {v : zV} {W : zO} {ad qa : Nat → Nat} {km ks kb : Nat} (hI : lwI t0 S x g o v W ad qa) (hV : lwV v W km ks kb) (hR : 14 ≤ R.frames ∧ 500 ≤ R.locals ∧ cells + 100 ≤ R.cells ∧ slots + 2000 ≤ R.slots) (K : ∀ (S2 : zS) (v2 : zV) (W2 : zO) (ad2 : Nat → Nat) (c2 s2 : Nat), lwI t0 S2 x g o v2 W2 ad2 qa → lwV v2 W2 km ks kb → c2 ≤ cells + 100 → s2 ≤ slots + 2000 → zW p l e R s m args below meth c Q N0 D cy 8 c2 s2 S2 [(4, .int (nI i)), (3, .ref o), (2, .ref g), (1, .ref x), (0, .ref b)] 1174 []) : zW p l e R s m args below meth c Q N0 D cy 8 cells slots S [(4, .int (nI i)), (3, .ref o), (2, .ref g), (1, .ref x), (0, .ref b)] 699 [] := by
  obtain ⟨hR1, hR2, hR3, hR4⟩ := hR
  have hvI := hV.1
  have hRep := hV.2.1
  have hv := hvI.1
  have h01 := hV.2.2.1
  have hH := hI.2.1
  have hx : zA S x 11 := hI.mx hRep.2.1
  have hk2 : ∀ {ad2 : Nat → Nat}, keepA W ad ad2 → ad2 2 = x := fun hk => (hk 2 hRep.2.1 rfl).trans hI.2.2.1
  obtain ⟨v0, T, L9, hL0, hI0, hl9, hk⟩ := hV.v0
  have n01 : ¬ (v.1 1219 0 = 0 ∧ v.1 1219 0 = 1) := fun h9 => absurd (h9.1.symm.trans h9.2) (by decide)
  have hc := c_count (l := l) (N0 := N0) (D := D) (cy := cy) (x := (xs (i + 1))) hl hH hRep hv (fun h9 => (hk h9).2.1) h01
  rw [hI.2.2.1] at hc
  have hp : ∀ r S', (pIn (xs (i + 1)) 0 4 ∧ v.1 1219 0 = 1 ∧ r = cntC v0 (xs (i + 1)) ∧ S' = S) → ∃ ad2 W2, zH t0 (X9 g o qa) S ad2 W2 S' ∧ ad2 2 = x ∧ (fun r W2 => pIn (xs (i + 1)) 0 4 ∧ v.1 1219 0 = 1 ∧ r = cntC v0 (xs (i + 1)) ∧ W2 = W) r W2 := fun r S' h9 => by
    obtain ⟨q1, q2, q3, q4⟩ := h9
    subst q4
    exact ⟨ad, W, hH, hI.2.2.1, q1, q2, q3, rfl⟩
  have hQ0 : ∀ {S1 S2 : zS} {r : Int32}, ((¬ pIn (xs (i + 1)) 0 4 ∧ r = 0 ∧ zmR S1 g qa (u1 v 1200 0 1) S2) ∨ (pIn (xs (i + 1)) 0 4 ∧ v.1 1219 0 = 0 ∧ r = 0 ∧ zmR S1 g qa (u1 v 1200 0 2) S2) ∨ (pIn (xs (i + 1)) 0 4 ∧ v.1 1219 0 = 1 ∧ r = cntR v (xs (i + 1)) ∧ zmR S1 g qa (u1 v 1200 0 0) S2)) → ∃ v2, zmR S1 g qa v2 S2 ∧ (fun r v2 => (¬ pIn (xs (i + 1)) 0 4 ∧ v2 = u1 v 1200 0 1) ∨ (pIn (xs (i + 1)) 0 4 ∧ v.1 1219 0 = 0 ∧ v2 = u1 v 1200 0 2) ∨ (pIn (xs (i + 1)) 0 4 ∧ v.1 1219 0 = 1 ∧ r = cntR v (xs (i + 1)) ∧ v2 = u1 v 1200 0 0)) r v2 := fun h9 => by
    rcases h9 with ⟨y1, y2, y3⟩ | ⟨y1, y2, y3, y4⟩ | ⟨y1, y2, y3, y4⟩
    · exact ⟨_, y3, Or.inl ⟨y1, rfl⟩⟩
    · exact ⟨_, y4, Or.inr (Or.inl ⟨y1, y2, rfl⟩)⟩
    · exact ⟨_, y4, Or.inr (Or.inr ⟨y1, y2, y3, rfl⟩)⟩
  have hag : ∀ (r : Int32) (v2 : zV), (fun r v2 => (¬ pIn (xs (i + 1)) 0 4 ∧ v2 = u1 v 1200 0 1) ∨ (pIn (xs (i + 1)) 0 4 ∧ v.1 1219 0 = 0 ∧ v2 = u1 v 1200 0 2) ∨ (pIn (xs (i + 1)) 0 4 ∧ v.1 1219 0 = 1 ∧ r = cntR v (xs (i + 1)) ∧ v2 = u1 v 1200 0 0)) r v2 → (∀ r1 W2, (fun r W2 => pIn (xs (i + 1)) 0 4 ∧ v.1 1219 0 = 1 ∧ r = cntC v0 (xs (i + 1)) ∧ W2 = W) r1 W2 → v2.1 1200 0 = 0 ∧ r1 = r ∧ lwV v2 W2 km ks kb) ∧ ((¬ pIn (xs (i + 1)) 0 4) → v2.1 1200 0 = 1 ∧ lwV v2 W km ks kb) ∧ ((pIn (xs (i + 1)) 0 4 ∧ v.1 1219 0 = 0) → v2.1 1200 0 = 2 ∧ lwV v2 W km ks kb) := fun r v2 h9 => by
    rcases h9 with ⟨y1, y2⟩ | ⟨y1, y2, y3⟩ | ⟨y1, y2, y3, y4⟩
    · subst y2
      exact ⟨fun r1 W2 h8 => absurd h8.1 y1, fun _ => ⟨u1_s, hV.k⟩, fun h8 => absurd h8.1 y1⟩
    · subst y3
      exact ⟨fun r1 W2 h8 => absurd ⟨y2, h8.2.1⟩ n01, fun h8 => absurd y1 h8, fun _ => ⟨u1_s, hV.k⟩⟩
    · subst y4
      refine ⟨fun r1 W2 h8 => ?_, fun h8 => absurd y1 h8, fun h8 => absurd ⟨h8.2, y2⟩ n01⟩
      obtain ⟨q1, q2, q3, q4⟩ := h8
      subst q4
      obtain ⟨k1, k2, k3, k4, k5, -⟩ := hk y2
      subst k1
      exact ⟨u1_s, (q3.trans (cnt_e hL0 hvI.2.1 hv k3 k4 k5 _)).trans y3.symm, hV.k⟩
  refine lc_count (f2 := 2) (lo2 := 44) (mc2 := 0) (ms2 := 0) (J := fun S2 => ∃ v2 W2 ad2, lwI t0 S2 x g o v2 W2 ad2 qa ∧ lwV v2 W2 km ks kb) (post2 := fun _ S1 r S2 => (¬ pIn (xs (i + 1)) 0 4 ∧ r = 0 ∧ zmR S1 g qa (u1 v 1200 0 1) S2) ∨ (pIn (xs (i + 1)) 0 4 ∧ v.1 1219 0 = 0 ∧ r = 0 ∧ zmR S1 g qa (u1 v 1200 0 2) S2) ∨ (pIn (xs (i + 1)) 0 4 ∧ v.1 1219 0 = 1 ∧ r = cntR v (xs (i + 1)) ∧ zmR S1 g qa (u1 v 1200 0 0) S2)) F G hX hbl hbN hi hL hx hc (fun E S' h => h.2.elim (fun h9 => Or.inl h9.2) (fun h9 => Or.inr h9.2.2)) (lw_o hI hp) (fun k S1 h => ?_) (fun k S1 r S2 h h2 => ?_) ⟨by omega, by omega, by omega, by omega, by omega, by omega⟩ (by omega) (by omega) (fun S2 hJ => by obtain ⟨v2, W2, ad2, q1, q2⟩ := hJ; exact K S2 v2 W2 ad2 _ _ q1 q2 (by omega) (by omega))
  · obtain ⟨W1, ad1, q1, -⟩ := (lw_w (P := (fun r W2 => pIn (xs (i + 1)) 0 4 ∧ v.1 1219 0 = 1 ∧ r = cntC v0 (xs (i + 1)) ∧ W2 = W)) (P1 := (¬ pIn (xs (i + 1)) 0 4)) (P2 := (pIn (xs (i + 1)) 0 4 ∧ v.1 1219 0 = 0)) hI hp (fun S' h9 => ⟨h9.1, h9.2.elim (fun h8 => h8.1) (fun h8 => absurd h8.2.2 (by decide))⟩) (fun S' h9 => ⟨h9.1, h9.2.elim (fun h8 => absurd h8.2 (by decide)) (fun h8 => ⟨h8.1, h8.2.1⟩)⟩) h)
    exact ⟨q1.mg, mm_count (zmR.rf q1.1) hv h01⟩
  · exact lw_j (Q := (fun r v2 => (¬ pIn (xs (i + 1)) 0 4 ∧ v2 = u1 v 1200 0 1) ∨ (pIn (xs (i + 1)) 0 4 ∧ v.1 1219 0 = 0 ∧ v2 = u1 v 1200 0 2) ∨ (pIn (xs (i + 1)) 0 4 ∧ v.1 1219 0 = 1 ∧ r = cntR v (xs (i + 1)) ∧ v2 = u1 v 1200 0 0))) (Z := fun v9 W9 => lwV v9 W9 km ks kb) (lw_w (P := (fun r W2 => pIn (xs (i + 1)) 0 4 ∧ v.1 1219 0 = 1 ∧ r = cntC v0 (xs (i + 1)) ∧ W2 = W)) (P1 := (¬ pIn (xs (i + 1)) 0 4)) (P2 := (pIn (xs (i + 1)) 0 4 ∧ v.1 1219 0 = 0)) hI hp (fun S' h9 => ⟨h9.1, h9.2.elim (fun h8 => h8.1) (fun h8 => absurd h8.2.2 (by decide))⟩) (fun S' h9 => ⟨h9.1, h9.2.elim (fun h8 => absurd h8.2 (by decide)) (fun h8 => ⟨h8.1, h8.2.1⟩)⟩) h) (hQ0 h2) (fun v2 h9 => hag r v2 h9)
set_option maxRecDepth 100000 in
set_option maxHeartbeats 4000000 in
theorem lx_byteAt (F : CallFix p m c cL_law 8 s args (z :: lw_good) RL) (G : zG N0 t0 D cy s s.heap) (hl : l.stackTraces = false) {b L : Nat} {xs : Nat → Int32} (hX : va_X b L xs s s.heap) (hbl : b < s.heap.size) (hbN : b < N0) {i : Nat} (hi : i + 8 ≤ L) (hL : L < 2 ^ 31) {x g o : Nat} {v : zV} {W : zO} {ad qa : Nat → Nat} {km ks kb : Nat} (hI : lwI t0 S x g o v W ad qa) (hV : lwV v W km ks kb) (hR : 14 ≤ R.frames ∧ 500 ≤ R.locals ∧ cells + 100 ≤ R.cells ∧ slots + 2000 ≤ R.slots) (K : ∀ (S2 : zS) (v2 : zV) (W2 : zO) (ad2 : Nat → Nat) (c2 s2 : Nat), lwI t0 S2 x g o v2 W2 ad2 qa → lwV v2 W2 km ks kb → c2 ≤ cells + 100 → s2 ≤ slots + 2000 → zW p l e R s m args below meth c Q N0 D cy 8 c2 s2 S2 [(4, .int (nI i)), (3, .ref o), (2, .ref g), (1, .ref x), (0, .ref b)] 1174 []) : zW p l e R s m args below meth c Q N0 D cy 8 cells slots S [(4, .int (nI i)), (3, .ref o), (2, .ref g), (1, .ref x), (0, .ref b)] 755 [] := by
  obtain ⟨hR1, hR2, hR3, hR4⟩ := hR
  have hvI := hV.1
  have hRep := hV.2.1
  have hv := hvI.1
  have h01 := hV.2.2.1
  have hH := hI.2.1
  have hx : zA S x 11 := hI.mx hRep.2.1
  have hk2 : ∀ {ad2 : Nat → Nat}, keepA W ad ad2 → ad2 2 = x := fun hk => (hk 2 hRep.2.1 rfl).trans hI.2.2.1
  obtain ⟨v0, T, L9, hL0, hI0, hl9, hk⟩ := hV.v0
  have n01 : ¬ (v.1 1219 0 = 0 ∧ v.1 1219 0 = 1) := fun h9 => absurd (h9.1.symm.trans h9.2) (by decide)
  have hc := c_byteAt (l := l) (N0 := N0) (D := D) (cy := cy) (x := (xs (i + 1))) hl hH hRep hv (fun h9 => (hk h9).2.1) h01 (fun h9 => by rw [← (hk h9).1]; exact hl9)
  rw [hI.2.2.1] at hc
  have hp : ∀ r S', (v.1 1219 0 = 1 ∧ ∃ k, k < (mdB v0 (wdF v0 48).1 (wdF v0 48).2).length ∧ (xs (i + 1)) = nI k ∧ r = (mdB v0 (wdF v0 48).1 (wdF v0 48).2).getD k 0 &&& 255 ∧ S' = S) → ∃ ad2 W2, zH t0 (X9 g o qa) S ad2 W2 S' ∧ ad2 2 = x ∧ (fun r W2 => (v.1 1219 0 = 1 ∧ ∃ k, k < (mdB v0 (wdF v0 48).1 (wdF v0 48).2).length ∧ (xs (i + 1)) = nI k ∧ r = (mdB v0 (wdF v0 48).1 (wdF v0 48).2).getD k 0 &&& 255) ∧ W2 = W) r W2 := fun r S' h9 => by
    obtain ⟨q1, k, q2, q3, q5, q4⟩ := h9
    subst q4
    exact ⟨ad, W, hH, hI.2.2.1, ⟨q1, k, q2, q3, q5⟩, rfl⟩
  have hQ0 : ∀ {S1 S2 : zS} {r : Int32}, (((xs (i + 1)) < 0 ∧ r = 0 ∧ zmR S1 g qa (u1 v 1200 0 1) S2) ∨ (¬ (xs (i + 1)) < 0 ∧ v.1 1219 0 = 0 ∧ r = 0 ∧ zmR S1 g qa (u1 v 1200 0 2) S2) ∨ (¬ (xs (i + 1)) < 0 ∧ v.1 1219 0 = 1 ∧ (∀ k, k < L9.length → ¬ (xs (i + 1)) = nI k) ∧ r = 0 ∧ zmR S1 g qa (u1 v 1200 0 1) S2) ∨ (v.1 1219 0 = 1 ∧ ∃ k, k < L9.length ∧ (xs (i + 1)) = nI k ∧ r = L9.getD k 0 &&& 255 ∧ zmR S1 g qa (u1 v 1200 0 0) S2)) → ∃ v2, zmR S1 g qa v2 S2 ∧ (fun r v2 => ((xs (i + 1)) < 0 ∧ v2 = u1 v 1200 0 1) ∨ (¬ (xs (i + 1)) < 0 ∧ v.1 1219 0 = 0 ∧ v2 = u1 v 1200 0 2) ∨ (¬ (xs (i + 1)) < 0 ∧ v.1 1219 0 = 1 ∧ (∀ k, k < L9.length → ¬ (xs (i + 1)) = nI k) ∧ v2 = u1 v 1200 0 1) ∨ (v.1 1219 0 = 1 ∧ ∃ k, k < L9.length ∧ (xs (i + 1)) = nI k ∧ r = L9.getD k 0 &&& 255 ∧ v2 = u1 v 1200 0 0)) r v2 := fun h9 => by
    rcases h9 with ⟨y1, y2, y3⟩ | ⟨y1, y2, y3, y4⟩ | ⟨y1, y2, y3, y4, y5⟩ | ⟨y1, k, y2, y3, y4, y5⟩
    · exact ⟨_, y3, Or.inl ⟨y1, rfl⟩⟩
    · exact ⟨_, y4, Or.inr (Or.inl ⟨y1, y2, rfl⟩)⟩
    · exact ⟨_, y5, Or.inr (Or.inr (Or.inl ⟨y1, y2, y3, rfl⟩))⟩
    · exact ⟨_, y5, Or.inr (Or.inr (Or.inr ⟨y1, k, y2, y3, y4, rfl⟩))⟩
  have hag : ∀ (r : Int32) (v2 : zV), (fun r v2 => ((xs (i + 1)) < 0 ∧ v2 = u1 v 1200 0 1) ∨ (¬ (xs (i + 1)) < 0 ∧ v.1 1219 0 = 0 ∧ v2 = u1 v 1200 0 2) ∨ (¬ (xs (i + 1)) < 0 ∧ v.1 1219 0 = 1 ∧ (∀ k, k < L9.length → ¬ (xs (i + 1)) = nI k) ∧ v2 = u1 v 1200 0 1) ∨ (v.1 1219 0 = 1 ∧ ∃ k, k < L9.length ∧ (xs (i + 1)) = nI k ∧ r = L9.getD k 0 &&& 255 ∧ v2 = u1 v 1200 0 0)) r v2 → (∀ r1 W2, (fun r W2 => (v.1 1219 0 = 1 ∧ ∃ k, k < (mdB v0 (wdF v0 48).1 (wdF v0 48).2).length ∧ (xs (i + 1)) = nI k ∧ r = (mdB v0 (wdF v0 48).1 (wdF v0 48).2).getD k 0 &&& 255) ∧ W2 = W) r1 W2 → v2.1 1200 0 = 0 ∧ r1 = r ∧ lwV v2 W2 km ks kb) ∧ (((xs (i + 1)) < 0 ∨ (v.1 1219 0 = 1 ∧ (∀ k, k < (mdB v0 (wdF v0 48).1 (wdF v0 48).2).length → ¬ (xs (i + 1)) = nI k))) → v2.1 1200 0 = 1 ∧ lwV v2 W km ks kb) ∧ ((¬ (xs (i + 1)) < 0 ∧ v.1 1219 0 = 0) → v2.1 1200 0 = 2 ∧ lwV v2 W km ks kb) := fun r v2 h9 => by
    rcases h9 with ⟨y1, y2⟩ | ⟨y1, y2, y3⟩ | ⟨y1, y2, y3, y4⟩ | ⟨y1, k, y2, y3, y4, y5⟩
    · subst y2
      refine ⟨fun r1 W2 h8 => ?_, fun _ => ⟨u1_s, hV.k⟩, fun h8 => absurd y1 h8.1⟩
      obtain ⟨⟨q1, k, q2, q3, q4⟩, q5⟩ := h8
      rw [q3] at y1
      have k1 := (hk q1).1
      rw [← k1] at q2
      exact absurd y1 (nI_n0 (by omega))
    · subst y3
      exact ⟨fun r1 W2 h8 => absurd ⟨y2, h8.1.1⟩ n01, fun h8 => h8.elim (fun h7 => absurd h7 y1) (fun h7 => absurd ⟨y2, h7.1⟩ n01), fun _ => ⟨u1_s, hV.k⟩⟩
    · subst y4
      refine ⟨fun r1 W2 h8 => ?_, fun _ => ⟨u1_s, hV.k⟩, fun h8 => absurd ⟨h8.2, y2⟩ n01⟩
      obtain ⟨⟨q1, k, q2, q3, q4⟩, q5⟩ := h8
      rw [← (hk q1).1] at q2
      exact absurd q3 (y3 k q2)
    · subst y5
      refine ⟨fun r1 W2 h8 => ?_, fun h8 => ?_, fun h8 => absurd ⟨h8.2, y1⟩ n01⟩
      · obtain ⟨⟨q1, k2, q2, q3, q4⟩, q5⟩ := h8
        subst q5
        rw [← (hk q1).1] at q2 q4
        have ek : k = k2 := (nI_eq (by omega) (by omega)).mp (y3.symm.trans q3)
        subst ek
        exact ⟨u1_s, q4.trans y4.symm, hV.k⟩
      · rcases h8 with h8 | h8
        · rw [y3] at h8
          exact absurd h8 (nI_n0 (by omega))
        · rw [(hk y1).1] at y2
          exact absurd y3 (h8.2 k y2)
  refine lc_byteAt (f2 := 0) (lo2 := 0) (mc2 := 0) (ms2 := 0) (J := fun S2 => ∃ v2 W2 ad2, lwI t0 S2 x g o v2 W2 ad2 qa ∧ lwV v2 W2 km ks kb) (post2 := fun _ S1 r S2 => ((xs (i + 1)) < 0 ∧ r = 0 ∧ zmR S1 g qa (u1 v 1200 0 1) S2) ∨ (¬ (xs (i + 1)) < 0 ∧ v.1 1219 0 = 0 ∧ r = 0 ∧ zmR S1 g qa (u1 v 1200 0 2) S2) ∨ (¬ (xs (i + 1)) < 0 ∧ v.1 1219 0 = 1 ∧ (∀ k, k < L9.length → ¬ (xs (i + 1)) = nI k) ∧ r = 0 ∧ zmR S1 g qa (u1 v 1200 0 1) S2) ∨ (v.1 1219 0 = 1 ∧ ∃ k, k < L9.length ∧ (xs (i + 1)) = nI k ∧ r = L9.getD k 0 &&& 255 ∧ zmR S1 g qa (u1 v 1200 0 0) S2)) F G hX hbl hbN hi hL hx hc (fun E S' h => h.2.elim (fun h9 => Or.inl h9.2) (fun h9 => Or.inr h9.2.2)) (lw_o hI hp) (fun k S1 h => ?_) (fun k S1 r S2 h h2 => ?_) ⟨by omega, by omega, by omega, by omega, by omega, by omega⟩ (by omega) (by omega) (fun S2 hJ => by obtain ⟨v2, W2, ad2, q1, q2⟩ := hJ; exact K S2 v2 W2 ad2 _ _ q1 q2 (by omega) (by omega))
  · obtain ⟨W1, ad1, q1, -⟩ := (lw_w (P := (fun r W2 => (v.1 1219 0 = 1 ∧ ∃ k, k < (mdB v0 (wdF v0 48).1 (wdF v0 48).2).length ∧ (xs (i + 1)) = nI k ∧ r = (mdB v0 (wdF v0 48).1 (wdF v0 48).2).getD k 0 &&& 255) ∧ W2 = W)) (P1 := ((xs (i + 1)) < 0 ∨ (v.1 1219 0 = 1 ∧ (∀ k, k < (mdB v0 (wdF v0 48).1 (wdF v0 48).2).length → ¬ (xs (i + 1)) = nI k)))) (P2 := (¬ (xs (i + 1)) < 0 ∧ v.1 1219 0 = 0)) hI hp (fun S' h9 => ⟨h9.1, h9.2.elim (fun h8 => h8.1) (fun h8 => absurd h8.2.2 (by decide))⟩) (fun S' h9 => ⟨h9.1, h9.2.elim (fun h8 => absurd h8.2 (by decide)) (fun h8 => ⟨h8.1, h8.2.1⟩)⟩) h)
    exact ⟨q1.mg, mm_byteAt (zmR.rf q1.1) hl9 (fun h9 => (hk h9).2.2.2.2.1) h01⟩
  · exact lw_j (Q := (fun r v2 => ((xs (i + 1)) < 0 ∧ v2 = u1 v 1200 0 1) ∨ (¬ (xs (i + 1)) < 0 ∧ v.1 1219 0 = 0 ∧ v2 = u1 v 1200 0 2) ∨ (¬ (xs (i + 1)) < 0 ∧ v.1 1219 0 = 1 ∧ (∀ k, k < L9.length → ¬ (xs (i + 1)) = nI k) ∧ v2 = u1 v 1200 0 1) ∨ (v.1 1219 0 = 1 ∧ ∃ k, k < L9.length ∧ (xs (i + 1)) = nI k ∧ r = L9.getD k 0 &&& 255 ∧ v2 = u1 v 1200 0 0))) (Z := fun v9 W9 => lwV v9 W9 km ks kb) (lw_w (P := (fun r W2 => (v.1 1219 0 = 1 ∧ ∃ k, k < (mdB v0 (wdF v0 48).1 (wdF v0 48).2).length ∧ (xs (i + 1)) = nI k ∧ r = (mdB v0 (wdF v0 48).1 (wdF v0 48).2).getD k 0 &&& 255) ∧ W2 = W)) (P1 := ((xs (i + 1)) < 0 ∨ (v.1 1219 0 = 1 ∧ (∀ k, k < (mdB v0 (wdF v0 48).1 (wdF v0 48).2).length → ¬ (xs (i + 1)) = nI k)))) (P2 := (¬ (xs (i + 1)) < 0 ∧ v.1 1219 0 = 0)) hI hp (fun S' h9 => ⟨h9.1, h9.2.elim (fun h8 => h8.1) (fun h8 => absurd h8.2.2 (by decide))⟩) (fun S' h9 => ⟨h9.1, h9.2.elim (fun h8 => absurd h8.2 (by decide)) (fun h8 => ⟨h8.1, h8.2.1⟩)⟩) h) (hQ0 h2) (fun v2 h9 => hag r v2 h9)
set_option maxRecDepth 100000 in
set_option maxHeartbeats 4000000 in
theorem lx_meant (F : CallFix p m c cL_law 8 s args (z :: lw_good) RL) (G : zG N0 t0 D cy s s.heap) (hl : l.stackTraces = false) {b L : Nat} {xs : Nat → Int32} (hX : va_X b L xs s s.heap) (hbl : b < s.heap.size) (hbN : b < N0) {i : Nat} (hi : i + 8 ≤ L) (hL : L < 2 ^ 31) {x g o : Nat} {v : zV} {W : zO} {ad qa : Nat → Nat} {km ks kb : Nat} (hI : lwI t0 S x g o v W ad qa) (hV : lwV v W km ks kb) (hR : 14 ≤ R.frames ∧ 500 ≤ R.locals ∧ cells + 100 ≤ R.cells ∧ slots + 2000 ≤ R.slots) (K : ∀ (S2 : zS) (v2 : zV) (W2 : zO) (ad2 : Nat → Nat) (c2 s2 : Nat), lwI t0 S2 x g o v2 W2 ad2 qa → lwV v2 W2 km ks kb → c2 ≤ cells + 100 → s2 ≤ slots + 2000 → zW p l e R s m args below meth c Q N0 D cy 8 c2 s2 S2 [(4, .int (nI i)), (3, .ref o), (2, .ref g), (1, .ref x), (0, .ref b)] 1174 []) : zW p l e R s m args below meth c Q N0 D cy 8 cells slots S [(4, .int (nI i)), (3, .ref o), (2, .ref g), (1, .ref x), (0, .ref b)] 811 [] := by
  obtain ⟨hR1, hR2, hR3, hR4⟩ := hR
  have hvI := hV.1
  have hRep := hV.2.1
  have hv := hvI.1
  have h01 := hV.2.2.1
  have hH := hI.2.1
  have hx : zA S x 11 := hI.mx hRep.2.1
  have hk2 : ∀ {ad2 : Nat → Nat}, keepA W ad ad2 → ad2 2 = x := fun hk => (hk 2 hRep.2.1 rfl).trans hI.2.2.1
  obtain ⟨v0, T, L9, hL0, hI0, hl9, hk⟩ := hV.v0
  have n01 : ¬ (v.1 1219 0 = 0 ∧ v.1 1219 0 = 1) := fun h9 => absurd (h9.1.symm.trans h9.2) (by decide)
  have hc := c_meant (l := l) (N0 := N0) (D := D) (cy := cy) (o := (xs (i + 1))) (yy := (xs (i + 2))) (x := (xs (i + 3))) hl hH hRep hv (fun h9 => (hk h9).2.1) h01 hL0 hI0.1 hI0.2.2.2.1
  rw [hI.2.2.1] at hc
  have hp : ∀ r S', (v.1 1219 0 = 1 ∧ pIn (xs (i + 3)) 0 1 ∧ ∃ i9 j9, i9 < cn v 1201 0 ∧ (xs (i + 1)) = nI i9 ∧ j9 < cn v 1204 i9 ∧ (xs (i + 2)) = nI j9 ∧ r = mntR v0 (wdF v0 48).2 (16 * i9 + j9) (xs (i + 3)) ∧ S' = S) → ∃ ad2 W2, zH t0 (X9 g o qa) S ad2 W2 S' ∧ ad2 2 = x ∧ (fun r W2 => v.1 1219 0 = 1 ∧ pIn (xs (i + 3)) 0 1 ∧ ∃ i9 j9, i9 < cn v 1201 0 ∧ (xs (i + 1)) = nI i9 ∧ j9 < cn v 1204 i9 ∧ (xs (i + 2)) = nI j9 ∧ r = mntR v0 (wdF v0 48).2 (16 * i9 + j9) (xs (i + 3)) ∧ W2 = W) r W2 := fun r S' h9 => by
    obtain ⟨q1, q2, i9, j9, z1, z2, z3, z4, q5, q4⟩ := h9
    subst q4
    exact ⟨ad, W, hH, hI.2.2.1, q1, q2, i9, j9, z1, z2, z3, z4, q5, rfl⟩
  have hQ0 : ∀ {S1 S2 : zS} {r : Int32}, ((¬ ((∃ i9 j9, i9 < cn v 1201 0 ∧ (xs (i + 1)) = nI i9 ∧ j9 < cn v 1204 i9 ∧ (xs (i + 2)) = nI j9) ∧ pIn (xs (i + 3)) 0 1) ∧ r = 0 ∧ zmR S1 g qa (u1 v 1200 0 1) S2) ∨ (((∃ i9 j9, i9 < cn v 1201 0 ∧ (xs (i + 1)) = nI i9 ∧ j9 < cn v 1204 i9 ∧ (xs (i + 2)) = nI j9) ∧ pIn (xs (i + 3)) 0 1) ∧ v.1 1219 0 = 0 ∧ r = 0 ∧ zmR S1 g qa (u1 v 1200 0 2) S2) ∨ (v.1 1219 0 = 1 ∧ pIn (xs (i + 3)) 0 1 ∧ ∃ i9 j9, i9 < cn v 1201 0 ∧ (xs (i + 1)) = nI i9 ∧ j9 < cn v 1204 i9 ∧ (xs (i + 2)) = nI j9 ∧ r = mntR v (wdF v0 48).2 (16 * i9 + j9) (xs (i + 3)) ∧ zmR S1 g qa (u1 v 1200 0 0) S2)) → ∃ v2, zmR S1 g qa v2 S2 ∧ (fun r v2 => (¬ ((∃ i9 j9, i9 < cn v 1201 0 ∧ (xs (i + 1)) = nI i9 ∧ j9 < cn v 1204 i9 ∧ (xs (i + 2)) = nI j9) ∧ pIn (xs (i + 3)) 0 1) ∧ v2 = u1 v 1200 0 1) ∨ (((∃ i9 j9, i9 < cn v 1201 0 ∧ (xs (i + 1)) = nI i9 ∧ j9 < cn v 1204 i9 ∧ (xs (i + 2)) = nI j9) ∧ pIn (xs (i + 3)) 0 1) ∧ v.1 1219 0 = 0 ∧ v2 = u1 v 1200 0 2) ∨ (v.1 1219 0 = 1 ∧ pIn (xs (i + 3)) 0 1 ∧ ∃ i9 j9, i9 < cn v 1201 0 ∧ (xs (i + 1)) = nI i9 ∧ j9 < cn v 1204 i9 ∧ (xs (i + 2)) = nI j9 ∧ r = mntR v (wdF v0 48).2 (16 * i9 + j9) (xs (i + 3)) ∧ v2 = u1 v 1200 0 0)) r v2 := fun h9 => by
    rcases h9 with ⟨y1, y2, y3⟩ | ⟨y1, y2, y3, y4⟩ | ⟨y1, y2, i9, j9, z1, z2, z3, z4, y4, y5⟩
    · exact ⟨_, y3, Or.inl ⟨y1, rfl⟩⟩
    · exact ⟨_, y4, Or.inr (Or.inl ⟨y1, y2, rfl⟩)⟩
    · exact ⟨_, y5, Or.inr (Or.inr ⟨y1, y2, i9, j9, z1, z2, z3, z4, y4, rfl⟩)⟩
  have hag : ∀ (r : Int32) (v2 : zV), (fun r v2 => (¬ ((∃ i9 j9, i9 < cn v 1201 0 ∧ (xs (i + 1)) = nI i9 ∧ j9 < cn v 1204 i9 ∧ (xs (i + 2)) = nI j9) ∧ pIn (xs (i + 3)) 0 1) ∧ v2 = u1 v 1200 0 1) ∨ (((∃ i9 j9, i9 < cn v 1201 0 ∧ (xs (i + 1)) = nI i9 ∧ j9 < cn v 1204 i9 ∧ (xs (i + 2)) = nI j9) ∧ pIn (xs (i + 3)) 0 1) ∧ v.1 1219 0 = 0 ∧ v2 = u1 v 1200 0 2) ∨ (v.1 1219 0 = 1 ∧ pIn (xs (i + 3)) 0 1 ∧ ∃ i9 j9, i9 < cn v 1201 0 ∧ (xs (i + 1)) = nI i9 ∧ j9 < cn v 1204 i9 ∧ (xs (i + 2)) = nI j9 ∧ r = mntR v (wdF v0 48).2 (16 * i9 + j9) (xs (i + 3)) ∧ v2 = u1 v 1200 0 0)) r v2 → (∀ r1 W2, (fun r W2 => v.1 1219 0 = 1 ∧ pIn (xs (i + 3)) 0 1 ∧ ∃ i9 j9, i9 < cn v 1201 0 ∧ (xs (i + 1)) = nI i9 ∧ j9 < cn v 1204 i9 ∧ (xs (i + 2)) = nI j9 ∧ r = mntR v0 (wdF v0 48).2 (16 * i9 + j9) (xs (i + 3)) ∧ W2 = W) r1 W2 → v2.1 1200 0 = 0 ∧ r1 = r ∧ lwV v2 W2 km ks kb) ∧ ((¬ ((∃ i9 j9, i9 < cn v 1201 0 ∧ (xs (i + 1)) = nI i9 ∧ j9 < cn v 1204 i9 ∧ (xs (i + 2)) = nI j9) ∧ pIn (xs (i + 3)) 0 1)) → v2.1 1200 0 = 1 ∧ lwV v2 W km ks kb) ∧ ((((∃ i9 j9, i9 < cn v 1201 0 ∧ (xs (i + 1)) = nI i9 ∧ j9 < cn v 1204 i9 ∧ (xs (i + 2)) = nI j9) ∧ pIn (xs (i + 3)) 0 1) ∧ v.1 1219 0 = 0) → v2.1 1200 0 = 2 ∧ lwV v2 W km ks kb) := fun r v2 h9 => by
    have hO6 := (rg_1201 hv (k := 0) (by omega)).2
    rcases h9 with ⟨y1, y2⟩ | ⟨y1, y2, y3⟩ | ⟨y1, y2, i9, j9, z1, z2, z3, z4, y4, y5⟩
    · subst y2
      refine ⟨fun r1 W2 h8 => ?_, fun _ => ⟨u1_s, hV.k⟩, fun h8 => absurd h8.1 y1⟩
      obtain ⟨q1, q2, i9, j9, z1, z2, z3, z4, q5, q4⟩ := h8
      exact absurd ⟨⟨i9, j9, z1, z2, z3, z4⟩, q2⟩ y1
    · subst y3
      exact ⟨fun r1 W2 h8 => absurd ⟨y2, h8.1⟩ n01, fun h8 => absurd y1 h8, fun _ => ⟨u1_s, hV.k⟩⟩
    · subst y5
      refine ⟨fun r1 W2 h8 => ?_, fun h8 => absurd ⟨⟨i9, j9, z1, z2, z3, z4⟩, y2⟩ h8, fun h8 => absurd ⟨h8.2, y1⟩ n01⟩
      obtain ⟨q1, q2, i8, j8, b1, b2, b3, b4, q5, q4⟩ := h8
      subst q4
      have r16 := (rg_1204 hv (k := i9) (by omega)).2
      have ei : i8 = i9 := (nI_eq (by omega) (by omega)).mp (b2.symm.trans z2)
      subst ei
      have ej : j8 = j9 := (nI_eq (by omega) (by omega)).mp (b4.symm.trans z4)
      subst ej
      exact ⟨u1_s, (q5.trans (mntR_e hL0 _ _ _).symm).trans y4.symm, hV.k⟩
  refine lc_meant (f2 := 3) (lo2 := 67) (mc2 := 0) (ms2 := 0) (J := fun S2 => ∃ v2 W2 ad2, lwI t0 S2 x g o v2 W2 ad2 qa ∧ lwV v2 W2 km ks kb) (post2 := fun _ S1 r S2 => (¬ ((∃ i9 j9, i9 < cn v 1201 0 ∧ (xs (i + 1)) = nI i9 ∧ j9 < cn v 1204 i9 ∧ (xs (i + 2)) = nI j9) ∧ pIn (xs (i + 3)) 0 1) ∧ r = 0 ∧ zmR S1 g qa (u1 v 1200 0 1) S2) ∨ (((∃ i9 j9, i9 < cn v 1201 0 ∧ (xs (i + 1)) = nI i9 ∧ j9 < cn v 1204 i9 ∧ (xs (i + 2)) = nI j9) ∧ pIn (xs (i + 3)) 0 1) ∧ v.1 1219 0 = 0 ∧ r = 0 ∧ zmR S1 g qa (u1 v 1200 0 2) S2) ∨ (v.1 1219 0 = 1 ∧ pIn (xs (i + 3)) 0 1 ∧ ∃ i9 j9, i9 < cn v 1201 0 ∧ (xs (i + 1)) = nI i9 ∧ j9 < cn v 1204 i9 ∧ (xs (i + 2)) = nI j9 ∧ r = mntR v (wdF v0 48).2 (16 * i9 + j9) (xs (i + 3)) ∧ zmR S1 g qa (u1 v 1200 0 0) S2)) F G hX hbl hbN hi hL hx hc (fun E S' h => h.2.elim (fun h9 => Or.inl h9.2) (fun h9 => Or.inr h9.2.2)) (lw_o hI hp) (fun k S1 h => ?_) (fun k S1 r S2 h h2 => ?_) ⟨by omega, by omega, by omega, by omega, by omega, by omega⟩ (by omega) (by omega) (fun S2 hJ => by obtain ⟨v2, W2, ad2, q1, q2⟩ := hJ; exact K S2 v2 W2 ad2 _ _ q1 q2 (by omega) (by omega))
  · obtain ⟨W1, ad1, q1, -⟩ := (lw_w (P := (fun r W2 => v.1 1219 0 = 1 ∧ pIn (xs (i + 3)) 0 1 ∧ ∃ i9 j9, i9 < cn v 1201 0 ∧ (xs (i + 1)) = nI i9 ∧ j9 < cn v 1204 i9 ∧ (xs (i + 2)) = nI j9 ∧ r = mntR v0 (wdF v0 48).2 (16 * i9 + j9) (xs (i + 3)) ∧ W2 = W)) (P1 := (¬ ((∃ i9 j9, i9 < cn v 1201 0 ∧ (xs (i + 1)) = nI i9 ∧ j9 < cn v 1204 i9 ∧ (xs (i + 2)) = nI j9) ∧ pIn (xs (i + 3)) 0 1))) (P2 := (((∃ i9 j9, i9 < cn v 1201 0 ∧ (xs (i + 1)) = nI i9 ∧ j9 < cn v 1204 i9 ∧ (xs (i + 2)) = nI j9) ∧ pIn (xs (i + 3)) 0 1) ∧ v.1 1219 0 = 0)) hI hp (fun S' h9 => ⟨h9.1, h9.2.elim (fun h8 => h8.1) (fun h8 => absurd h8.2.2 (by decide))⟩) (fun S' h9 => ⟨h9.1, h9.2.elim (fun h8 => absurd h8.2 (by decide)) (fun h8 => ⟨h8.1, h8.2.1⟩)⟩) h)
    exact ⟨q1.mg, mm_meant (zmR.rf q1.1) hv hvI.2.1 hvI.2.2.2.1 (fun h9 => ⟨hL0.ekEq (hk h9).2.2.2.2.2.1, (hk h9).2.2.2.1, (hk h9).2.2.2.2.2.2.1.2.2.2.1⟩) h01⟩
  · exact lw_j (Q := (fun r v2 => (¬ ((∃ i9 j9, i9 < cn v 1201 0 ∧ (xs (i + 1)) = nI i9 ∧ j9 < cn v 1204 i9 ∧ (xs (i + 2)) = nI j9) ∧ pIn (xs (i + 3)) 0 1) ∧ v2 = u1 v 1200 0 1) ∨ (((∃ i9 j9, i9 < cn v 1201 0 ∧ (xs (i + 1)) = nI i9 ∧ j9 < cn v 1204 i9 ∧ (xs (i + 2)) = nI j9) ∧ pIn (xs (i + 3)) 0 1) ∧ v.1 1219 0 = 0 ∧ v2 = u1 v 1200 0 2) ∨ (v.1 1219 0 = 1 ∧ pIn (xs (i + 3)) 0 1 ∧ ∃ i9 j9, i9 < cn v 1201 0 ∧ (xs (i + 1)) = nI i9 ∧ j9 < cn v 1204 i9 ∧ (xs (i + 2)) = nI j9 ∧ r = mntR v (wdF v0 48).2 (16 * i9 + j9) (xs (i + 3)) ∧ v2 = u1 v 1200 0 0))) (Z := fun v9 W9 => lwV v9 W9 km ks kb) (lw_w (P := (fun r W2 => v.1 1219 0 = 1 ∧ pIn (xs (i + 3)) 0 1 ∧ ∃ i9 j9, i9 < cn v 1201 0 ∧ (xs (i + 1)) = nI i9 ∧ j9 < cn v 1204 i9 ∧ (xs (i + 2)) = nI j9 ∧ r = mntR v0 (wdF v0 48).2 (16 * i9 + j9) (xs (i + 3)) ∧ W2 = W)) (P1 := (¬ ((∃ i9 j9, i9 < cn v 1201 0 ∧ (xs (i + 1)) = nI i9 ∧ j9 < cn v 1204 i9 ∧ (xs (i + 2)) = nI j9) ∧ pIn (xs (i + 3)) 0 1))) (P2 := (((∃ i9 j9, i9 < cn v 1201 0 ∧ (xs (i + 1)) = nI i9 ∧ j9 < cn v 1204 i9 ∧ (xs (i + 2)) = nI j9) ∧ pIn (xs (i + 3)) 0 1) ∧ v.1 1219 0 = 0)) hI hp (fun S' h9 => ⟨h9.1, h9.2.elim (fun h8 => h8.1) (fun h8 => absurd h8.2.2 (by decide))⟩) (fun S' h9 => ⟨h9.1, h9.2.elim (fun h8 => absurd h8.2 (by decide)) (fun h8 => ⟨h8.1, h8.2.1⟩)⟩) h) (hQ0 h2) (fun v2 h9 => hag r v2 h9)
set_option maxRecDepth 100000 in
set_option maxHeartbeats 4000000 in
theorem lx_run (F : CallFix p m c cL_law 8 s args (z :: lw_good) RL) (G : zG N0 t0 D cy s s.heap) (hl : l.stackTraces = false) {b L : Nat} {xs : Nat → Int32} (hX : va_X b L xs s s.heap) (hbl : b < s.heap.size) (hbN : b < N0) {i : Nat} (hi : i + 8 ≤ L) (hL : L < 2 ^ 31) {x g o : Nat} {v : zV} {W : zO} {ad qa : Nat → Nat} {km ks kb : Nat} (hI : lwI t0 S x g o v W ad qa) (hV : lwV v W km ks kb) (hR : 14 ≤ R.frames ∧ 500 ≤ R.locals ∧ cells + 100 ≤ R.cells ∧ slots + 2000 ≤ R.slots) (K : ∀ (S2 : zS) (v2 : zV) (W2 : zO) (ad2 : Nat → Nat) (c2 s2 : Nat), lwI t0 S2 x g o v2 W2 ad2 qa → lwV v2 W2 km ks kb → c2 ≤ cells + 100 → s2 ≤ slots + 2000 → zW p l e R s m args below meth c Q N0 D cy 8 c2 s2 S2 [(4, .int (nI i)), (3, .ref o), (2, .ref g), (1, .ref x), (0, .ref b)] 1174 []) : zW p l e R s m args below meth c Q N0 D cy 8 cells slots S [(4, .int (nI i)), (3, .ref o), (2, .ref g), (1, .ref x), (0, .ref b)] 891 [] := by
  obtain ⟨hR1, hR2, hR3, hR4⟩ := hR
  have hvI := hV.1
  have hRep := hV.2.1
  have hv := hvI.1
  have h01 := hV.2.2.1
  have hH := hI.2.1
  have hx : zA S x 11 := hI.mx hRep.2.1
  have hk2 : ∀ {ad2 : Nat → Nat}, keepA W ad ad2 → ad2 2 = x := fun hk => (hk 2 hRep.2.1 rfl).trans hI.2.2.1
  obtain ⟨v0, T, L9, hL0, hI0, hl9, hk⟩ := hV.v0
  have n01 : ¬ (v.1 1219 0 = 0 ∧ v.1 1219 0 = 1) := fun h9 => absurd (h9.1.symm.trans h9.2) (by decide)
  have a14 : oa W 14 := hRep.1.a hRep.2.1 (id := 1105) (by decide) rfl
  have hc := c_run (l := l) (N0 := N0) (D := D) (cy := cy) (o := (xs (i + 1))) (f := (xs (i + 2))) (fu := (xs (i + 7))) (x := (zjn (xs (i + 3)) (xs (i + 4)))) (y := (zjn (xs (i + 5)) (xs (i + 6)))) hl hH hRep hv (v0 := v0) (fun h9 => ⟨hL0, (hk h9).2.1, hI0.1, hI0.2.1, hI0.2.2.2.1, hI0.2.2.2.2⟩) h01 a14
  rw [hI.2.2.1] at hc
  have hp : ∀ r S', (v.1 1219 0 = 1 ∧ ∃ (i9 j9 n9 : Nat) (R9 : aR) (M9 : mKt), i9 < cn v 1201 0 ∧ (xs (i + 1)) = nI i9 ∧ j9 < cn v 1202 i9 ∧ (xs (i + 2)) = nI j9 ∧ n9 ≤ 2000 ∧ (xs (i + 7)) = nI n9 ∧ aRn v0 (wdF v0 48).2 n9 (aBe v0 (8 * i9 + j9) (zjn (xs (i + 3)) (xs (i + 4))) (zjn (xs (i + 5)) (xs (i + 6)))) R9 ∧ r = nI R9.1 ∧ zH t0 (X9 g o qa) S ad (mW W M9) S' ∧ M9.2.1 = R9.2.1 ∧ M9.1 410 = nI (n9 - R9.2.2.1) ∧ M9.1 411 = nI R9.2.2.2.1 ∧ ∀ k, k < 1024 → mBy M9 k = R9.2.2.2.2 k) → ∃ ad2 W2, zH t0 (X9 g o qa) S ad2 W2 S' ∧ ad2 2 = x ∧ (fun r W2 => v.1 1219 0 = 1 ∧ ∃ (i9 j9 n9 : Nat) (R9 : aR) (M9 : mKt), i9 < cn v 1201 0 ∧ (xs (i + 1)) = nI i9 ∧ j9 < cn v 1202 i9 ∧ (xs (i + 2)) = nI j9 ∧ n9 ≤ 2000 ∧ (xs (i + 7)) = nI n9 ∧ aRn v0 (wdF v0 48).2 n9 (aBe v0 (8 * i9 + j9) (zjn (xs (i + 3)) (xs (i + 4))) (zjn (xs (i + 5)) (xs (i + 6)))) R9 ∧ r = nI R9.1 ∧ W2 = mW W M9 ∧ M9.2.1 = R9.2.1 ∧ M9.1 410 = nI (n9 - R9.2.2.1) ∧ M9.1 411 = nI R9.2.2.2.1 ∧ ∀ k, k < 1024 → mBy M9 k = R9.2.2.2.2 k) r W2 := fun r S' h9 => by
    obtain ⟨q1, i9, j9, n9, R9, M9, z1, z2, z3, z4, z5, z6, z7, z8, q2, q3⟩ := h9
    exact ⟨ad, mW W M9, q2, hI.2.2.1, q1, i9, j9, n9, R9, M9, z1, z2, z3, z4, z5, z6, z7, z8, rfl, q3⟩
  have hQ0 : ∀ {S1 S2 : zS} {r : Int32}, ((¬ (gT v 1202 (xs (i + 1)) (xs (i + 2)) ∧ pIn (xs (i + 7)) 0 2000) ∧ r = 0 ∧ zmR S1 g qa (u1 v 1200 0 1) S2) ∨ ((gT v 1202 (xs (i + 1)) (xs (i + 2)) ∧ pIn (xs (i + 7)) 0 2000) ∧ v.1 1219 0 = 0 ∧ r = 0 ∧ zmR S1 g qa (u1 v 1200 0 2) S2) ∨ (v.1 1219 0 = 1 ∧ ∃ (i9 j9 n9 : Nat) (R9 : aR) (v2 : zV), i9 < cn v 1201 0 ∧ (xs (i + 1)) = nI i9 ∧ j9 < cn v 1202 i9 ∧ (xs (i + 2)) = nI j9 ∧ n9 ≤ 2000 ∧ (xs (i + 7)) = nI n9 ∧ aRn v0 (wdF v0 48).2 n9 (aBe v0 (8 * i9 + j9) (zjn (xs (i + 3)) (xs (i + 4))) (zjn (xs (i + 5)) (xs (i + 6)))) R9 ∧ r = nI R9.1 ∧ zmR S1 g qa v2 S2 ∧ rnR v v2 n9 R9)) → ∃ v2, zmR S1 g qa v2 S2 ∧ (fun r v2 => (¬ (gT v 1202 (xs (i + 1)) (xs (i + 2)) ∧ pIn (xs (i + 7)) 0 2000) ∧ v2 = u1 v 1200 0 1) ∨ ((gT v 1202 (xs (i + 1)) (xs (i + 2)) ∧ pIn (xs (i + 7)) 0 2000) ∧ v.1 1219 0 = 0 ∧ v2 = u1 v 1200 0 2) ∨ (v.1 1219 0 = 1 ∧ ∃ (i9 j9 n9 : Nat) (R9 : aR), i9 < cn v 1201 0 ∧ (xs (i + 1)) = nI i9 ∧ j9 < cn v 1202 i9 ∧ (xs (i + 2)) = nI j9 ∧ n9 ≤ 2000 ∧ (xs (i + 7)) = nI n9 ∧ aRn v0 (wdF v0 48).2 n9 (aBe v0 (8 * i9 + j9) (zjn (xs (i + 3)) (xs (i + 4))) (zjn (xs (i + 5)) (xs (i + 6)))) R9 ∧ r = nI R9.1 ∧ rnR v v2 n9 R9)) r v2 := fun h9 => by
    rcases h9 with ⟨y1, y2, y3⟩ | ⟨y1, y2, y3, y4⟩ | ⟨y1, i9, j9, n9, R9, v2, z1, z2, z3, z4, z5, z6, z7, z8, y4, y5⟩
    · exact ⟨_, y3, Or.inl ⟨y1, rfl⟩⟩
    · exact ⟨_, y4, Or.inr (Or.inl ⟨y1, y2, rfl⟩)⟩
    · exact ⟨v2, y4, Or.inr (Or.inr ⟨y1, i9, j9, n9, R9, z1, z2, z3, z4, z5, z6, z7, z8, y5⟩)⟩
  have hag : ∀ (r : Int32) (v2 : zV), (fun r v2 => (¬ (gT v 1202 (xs (i + 1)) (xs (i + 2)) ∧ pIn (xs (i + 7)) 0 2000) ∧ v2 = u1 v 1200 0 1) ∨ ((gT v 1202 (xs (i + 1)) (xs (i + 2)) ∧ pIn (xs (i + 7)) 0 2000) ∧ v.1 1219 0 = 0 ∧ v2 = u1 v 1200 0 2) ∨ (v.1 1219 0 = 1 ∧ ∃ (i9 j9 n9 : Nat) (R9 : aR), i9 < cn v 1201 0 ∧ (xs (i + 1)) = nI i9 ∧ j9 < cn v 1202 i9 ∧ (xs (i + 2)) = nI j9 ∧ n9 ≤ 2000 ∧ (xs (i + 7)) = nI n9 ∧ aRn v0 (wdF v0 48).2 n9 (aBe v0 (8 * i9 + j9) (zjn (xs (i + 3)) (xs (i + 4))) (zjn (xs (i + 5)) (xs (i + 6)))) R9 ∧ r = nI R9.1 ∧ rnR v v2 n9 R9)) r v2 → (∀ r1 W2, (fun r W2 => v.1 1219 0 = 1 ∧ ∃ (i9 j9 n9 : Nat) (R9 : aR) (M9 : mKt), i9 < cn v 1201 0 ∧ (xs (i + 1)) = nI i9 ∧ j9 < cn v 1202 i9 ∧ (xs (i + 2)) = nI j9 ∧ n9 ≤ 2000 ∧ (xs (i + 7)) = nI n9 ∧ aRn v0 (wdF v0 48).2 n9 (aBe v0 (8 * i9 + j9) (zjn (xs (i + 3)) (xs (i + 4))) (zjn (xs (i + 5)) (xs (i + 6)))) R9 ∧ r = nI R9.1 ∧ W2 = mW W M9 ∧ M9.2.1 = R9.2.1 ∧ M9.1 410 = nI (n9 - R9.2.2.1) ∧ M9.1 411 = nI R9.2.2.2.1 ∧ ∀ k, k < 1024 → mBy M9 k = R9.2.2.2.2 k) r1 W2 → v2.1 1200 0 = 0 ∧ r1 = r ∧ lwV v2 W2 km ks kb) ∧ ((¬ (gT v 1202 (xs (i + 1)) (xs (i + 2)) ∧ pIn (xs (i + 7)) 0 2000)) → v2.1 1200 0 = 1 ∧ lwV v2 W km ks kb) ∧ (((gT v 1202 (xs (i + 1)) (xs (i + 2)) ∧ pIn (xs (i + 7)) 0 2000) ∧ v.1 1219 0 = 0) → v2.1 1200 0 = 2 ∧ lwV v2 W km ks kb) := fun r v2 h9 => by
    have hO6 := (rg_1201 hv (k := 0) (by omega)).2
    have hG : ∀ {i9 j9 n9 : Nat}, i9 < cn v 1201 0 → (xs (i + 1)) = nI i9 → j9 < cn v 1202 i9 → (xs (i + 2)) = nI j9 → n9 ≤ 2000 → (xs (i + 7)) = nI n9 → (gT v 1202 (xs (i + 1)) (xs (i + 2)) ∧ pIn (xs (i + 7)) 0 2000) := fun {i9 j9 n9} z1 z2 z3 z4 z5 z6 => ⟨⟨i9, j9, z1, z2, z3, z4⟩, (pIn_iff (n := 2000) (by decide)).mpr ⟨n9, z5, z6⟩⟩
    rcases h9 with ⟨y1, y2⟩ | ⟨y1, y2, y3⟩ | ⟨y1, i9, j9, n9, R9, z1, z2, z3, z4, z5, z6, z7, z8, y5⟩
    · subst y2
      refine ⟨fun r1 W2 h8 => ?_, fun _ => ⟨u1_s, hV.k⟩, fun h8 => absurd h8.1 y1⟩
      obtain ⟨q1, i9, j9, n9, R9, M9, z1, z2, z3, z4, z5, z6, z7, z8, q2, q3⟩ := h8
      exact absurd (hG z1 z2 z3 z4 z5 z6) y1
    · subst y3
      exact ⟨fun r1 W2 h8 => absurd ⟨y2, h8.1⟩ n01, fun h8 => absurd y1 h8, fun _ => ⟨u1_s, hV.k⟩⟩
    · refine ⟨fun r1 W2 h8 => ?_, fun h8 => absurd (hG z1 z2 z3 z4 z5 z6) h8, fun h8 => absurd ⟨h8.2, y1⟩ n01⟩
      obtain ⟨q1, i8, j8, n8, R8, M9, b1, b2, b3, b4, b5, b6, b7, b8, q2, q3, q4, q5, q6⟩ := h8
      subst q2
      have r8 := (rg_1202 hv (k := i9) (by omega)).2
      have ei : i8 = i9 := (nI_eq (by omega) (by omega)).mp (b2.symm.trans z2)
      subst ei
      have ej : j8 = j9 := (nI_eq (by omega) (by omega)).mp (b4.symm.trans z4)
      subst ej
      have en : n8 = n9 := (nI_eq (by omega) (by omega)).mp (b6.symm.trans z6)
      subst en
      have eR := b7.un z7
      subst eR
      obtain ⟨w1, w2, w3, w4, w5⟩ := y5
      exact ⟨w1.2, b8.trans z8.symm, hV.r w1 (q3.trans w2.symm) (q4.trans w3.symm) (q5.trans w4.symm) (fun k hk => (q6 k hk).trans (w5 k hk).symm)⟩
  refine lc_run (f2 := 4) (lo2 := 111) (mc2 := 0) (ms2 := 0) (J := fun S2 => ∃ v2 W2 ad2, lwI t0 S2 x g o v2 W2 ad2 qa ∧ lwV v2 W2 km ks kb) (post2 := fun _ S1 r S2 => (¬ (gT v 1202 (xs (i + 1)) (xs (i + 2)) ∧ pIn (xs (i + 7)) 0 2000) ∧ r = 0 ∧ zmR S1 g qa (u1 v 1200 0 1) S2) ∨ ((gT v 1202 (xs (i + 1)) (xs (i + 2)) ∧ pIn (xs (i + 7)) 0 2000) ∧ v.1 1219 0 = 0 ∧ r = 0 ∧ zmR S1 g qa (u1 v 1200 0 2) S2) ∨ (v.1 1219 0 = 1 ∧ ∃ (i9 j9 n9 : Nat) (R9 : aR) (v2 : zV), i9 < cn v 1201 0 ∧ (xs (i + 1)) = nI i9 ∧ j9 < cn v 1202 i9 ∧ (xs (i + 2)) = nI j9 ∧ n9 ≤ 2000 ∧ (xs (i + 7)) = nI n9 ∧ aRn v0 (wdF v0 48).2 n9 (aBe v0 (8 * i9 + j9) (zjn (xs (i + 3)) (xs (i + 4))) (zjn (xs (i + 5)) (xs (i + 6)))) R9 ∧ r = nI R9.1 ∧ zmR S1 g qa v2 S2 ∧ rnR v v2 n9 R9)) F G hX hbl hbN hi hL hx hc (fun E S' h => h.2.elim (fun h9 => Or.inl h9.2) (fun h9 => Or.inr h9.2.2)) (lw_o hI hp) (fun k S1 h => ?_) (fun k S1 r S2 h h2 => ?_) ⟨by omega, by omega, by omega, by omega, by omega, by omega⟩ (by omega) (by omega) (fun S2 hJ => by obtain ⟨v2, W2, ad2, q1, q2⟩ := hJ; exact K S2 v2 W2 ad2 _ _ q1 q2 (by omega) (by omega))
  · obtain ⟨W1, ad1, q1, -⟩ := (lw_w (P := (fun r W2 => v.1 1219 0 = 1 ∧ ∃ (i9 j9 n9 : Nat) (R9 : aR) (M9 : mKt), i9 < cn v 1201 0 ∧ (xs (i + 1)) = nI i9 ∧ j9 < cn v 1202 i9 ∧ (xs (i + 2)) = nI j9 ∧ n9 ≤ 2000 ∧ (xs (i + 7)) = nI n9 ∧ aRn v0 (wdF v0 48).2 n9 (aBe v0 (8 * i9 + j9) (zjn (xs (i + 3)) (xs (i + 4))) (zjn (xs (i + 5)) (xs (i + 6)))) R9 ∧ r = nI R9.1 ∧ W2 = mW W M9 ∧ M9.2.1 = R9.2.1 ∧ M9.1 410 = nI (n9 - R9.2.2.1) ∧ M9.1 411 = nI R9.2.2.2.1 ∧ ∀ k, k < 1024 → mBy M9 k = R9.2.2.2.2 k)) (P1 := (¬ (gT v 1202 (xs (i + 1)) (xs (i + 2)) ∧ pIn (xs (i + 7)) 0 2000))) (P2 := ((gT v 1202 (xs (i + 1)) (xs (i + 2)) ∧ pIn (xs (i + 7)) 0 2000) ∧ v.1 1219 0 = 0)) hI hp (fun S' h9 => ⟨h9.1, h9.2.elim (fun h8 => h8.1) (fun h8 => absurd h8.2.2 (by decide))⟩) (fun S' h9 => ⟨h9.1, h9.2.elim (fun h8 => absurd h8.2 (by decide)) (fun h8 => ⟨h8.1, h8.2.1⟩)⟩) h)
    exact ⟨q1.mg, mm_run (zmR.rf q1.1) hv h01 (fun h9 => ⟨hL0, (hk h9).2.2.2.1, (hk h9).2.2.2.2.2.2.1, hI0.2.1, (hk h9).2.2.2.2.2.1, (hk h9).2.2.2.2.2.2.2, hI0.2.2.2.2⟩)⟩
  · exact lw_j (Q := (fun r v2 => (¬ (gT v 1202 (xs (i + 1)) (xs (i + 2)) ∧ pIn (xs (i + 7)) 0 2000) ∧ v2 = u1 v 1200 0 1) ∨ ((gT v 1202 (xs (i + 1)) (xs (i + 2)) ∧ pIn (xs (i + 7)) 0 2000) ∧ v.1 1219 0 = 0 ∧ v2 = u1 v 1200 0 2) ∨ (v.1 1219 0 = 1 ∧ ∃ (i9 j9 n9 : Nat) (R9 : aR), i9 < cn v 1201 0 ∧ (xs (i + 1)) = nI i9 ∧ j9 < cn v 1202 i9 ∧ (xs (i + 2)) = nI j9 ∧ n9 ≤ 2000 ∧ (xs (i + 7)) = nI n9 ∧ aRn v0 (wdF v0 48).2 n9 (aBe v0 (8 * i9 + j9) (zjn (xs (i + 3)) (xs (i + 4))) (zjn (xs (i + 5)) (xs (i + 6)))) R9 ∧ r = nI R9.1 ∧ rnR v v2 n9 R9))) (Z := fun v9 W9 => lwV v9 W9 km ks kb) (lw_w (P := (fun r W2 => v.1 1219 0 = 1 ∧ ∃ (i9 j9 n9 : Nat) (R9 : aR) (M9 : mKt), i9 < cn v 1201 0 ∧ (xs (i + 1)) = nI i9 ∧ j9 < cn v 1202 i9 ∧ (xs (i + 2)) = nI j9 ∧ n9 ≤ 2000 ∧ (xs (i + 7)) = nI n9 ∧ aRn v0 (wdF v0 48).2 n9 (aBe v0 (8 * i9 + j9) (zjn (xs (i + 3)) (xs (i + 4))) (zjn (xs (i + 5)) (xs (i + 6)))) R9 ∧ r = nI R9.1 ∧ W2 = mW W M9 ∧ M9.2.1 = R9.2.1 ∧ M9.1 410 = nI (n9 - R9.2.2.1) ∧ M9.1 411 = nI R9.2.2.2.1 ∧ ∀ k, k < 1024 → mBy M9 k = R9.2.2.2.2 k)) (P1 := (¬ (gT v 1202 (xs (i + 1)) (xs (i + 2)) ∧ pIn (xs (i + 7)) 0 2000))) (P2 := ((gT v 1202 (xs (i + 1)) (xs (i + 2)) ∧ pIn (xs (i + 7)) 0 2000) ∧ v.1 1219 0 = 0)) hI hp (fun S' h9 => ⟨h9.1, h9.2.elim (fun h8 => h8.1) (fun h8 => absurd h8.2.2 (by decide))⟩) (fun S' h9 => ⟨h9.1, h9.2.elim (fun h8 => absurd h8.2 (by decide)) (fun h8 => ⟨h8.1, h8.2.1⟩)⟩) h) (hQ0 h2) (fun v2 h9 => hag r v2 h9)
set_option maxRecDepth 100000 in
set_option maxHeartbeats 4000000 in
theorem lx_link (F : CallFix p m c cL_law 8 s args (z :: lw_good) RL) (G : zG N0 t0 D cy s s.heap) (hl : l.stackTraces = false) {b L : Nat} {xs : Nat → Int32} (hX : va_X b L xs s s.heap) (hbl : b < s.heap.size) (hbN : b < N0) {i : Nat} (hi : i + 8 ≤ L) (hL : L < 2 ^ 31) {x g o : Nat} {v : zV} {W : zO} {ad qa : Nat → Nat} {km ks kb : Nat} (hI : lwI t0 S x g o v W ad qa) (hV : lwV v W km ks kb) (hR : 14 ≤ R.frames ∧ 500 ≤ R.locals ∧ cells + 100 + 196608 ≤ R.cells + (km + ks + kb) ∧ slots + 2000 + 393216 ≤ R.slots + 2 * (km + ks + kb) ∧ cells + 100 ≤ R.cells ∧ slots + 2000 ≤ R.slots) (K : ∀ (S2 : zS) (v2 : zV) (W2 : zO) (ad2 : Nat → Nat) (km2 ks2 kb2 c2 s2 : Nat), lwI t0 S2 x g o v2 W2 ad2 qa → lwV v2 W2 km2 ks2 kb2 → c2 + (km + ks + kb) ≤ cells + 100 + (km2 + ks2 + kb2) → s2 + 2 * (km + ks + kb) ≤ slots + 2000 + 2 * (km2 + ks2 + kb2) → zW p l e R s m args below meth c Q N0 D cy 8 c2 s2 S2 [(4, .int (nI i)), (3, .ref o), (2, .ref g), (1, .ref x), (0, .ref b)] 1174 []) : zW p l e R s m args below meth c Q N0 D cy 8 cells slots S [(4, .int (nI i)), (3, .ref o), (2, .ref g), (1, .ref x), (0, .ref b)] 642 [] := by
  obtain ⟨hR1, hR2, hR3, hR4, hR5, hR6⟩ := hR
  have hvI := hV.1
  have hRep := hV.2.1
  have hv := hvI.1
  have h01 := hV.2.2.1
  have hH := hI.2.1
  have hx : zA S x 11 := hI.mx hRep.2.1
  have hk2 : ∀ {ad2 : Nat → Nat}, keepA W ad ad2 → ad2 2 = x := fun hk => (hk 2 hRep.2.1 rfl).trans hI.2.2.1
  obtain ⟨vz, ez⟩ : ∃ vz, vz = u1 v 1200 0 0 := ⟨_, rfl⟩
  have hIz : vI vz := by rw [ez]; exact vI.L vL.k0 hvI
  have hRz : Rep vz W := by rw [ez]; exact hRep.k0
  have e00 : vz.1 1200 0 = 0 := by rw [ez]; exact u1_s
  have hQ0 : ∀ {S1 S2 : zS} {r : Int32}, ((cn vz 1201 0 = 0 ∧ r = 0 ∧ zmR S1 g qa (u1 v 1200 0 1) S2) ∨ (¬ cn vz 1201 0 = 0 ∧ ((∃ w pl v1, lk vz w pl ∧ r = nI w ∧ lkF vz v1 w pl ∧ zmR S1 g qa v1 S2) ∨ (nB vz 8 ∧ r = 0 ∧ ∃ v1, lkM vz v1 ∧ zmR S1 g qa v1 S2)))) → ∃ v2, zmR S1 g qa v2 S2 ∧ (fun r v2 => (cn vz 1201 0 = 0 ∧ v2 = u1 v 1200 0 1) ∨ (¬ cn vz 1201 0 = 0 ∧ ((∃ w pl, lk vz w pl ∧ r = nI w ∧ lkF vz v2 w pl) ∨ (nB vz 8 ∧ r = 0 ∧ lkM vz v2)))) r v2 := fun h9 => by
    rcases h9 with ⟨y1, y2, y3⟩ | ⟨y1, ⟨w, pl, v1, y2, y3, y4, y5⟩ | ⟨y2, y3, v1, y4, y5⟩⟩
    · exact ⟨_, y3, Or.inl ⟨y1, rfl⟩⟩
    · exact ⟨v1, y5, Or.inr ⟨y1, Or.inl ⟨w, pl, y2, y3, y4⟩⟩⟩
    · exact ⟨v1, y5, Or.inr ⟨y1, Or.inr ⟨y2, y3, y4⟩⟩⟩
  by_cases h0 : cn vz 1201 0 = 0
  · have hc := c_link0 (l := l) (N0 := N0) (D := D) (cy := cy) hl hH hRz hIz.1 hIz.2.1 hIz.2.2.2.1 hI.2.2.1 h0
    have hp : ∀ (r : Int32) (S' : zS), False → ∃ ad2 W2, zH t0 (X9 g o qa) S ad2 W2 S' ∧ ad2 2 = x ∧ False := fun r S' h9 => h9.elim
    have hag : ∀ (r : Int32) (v2 : zV), (fun r v2 => (cn vz 1201 0 = 0 ∧ v2 = u1 v 1200 0 1) ∨ (¬ cn vz 1201 0 = 0 ∧ ((∃ w pl, lk vz w pl ∧ r = nI w ∧ lkF vz v2 w pl) ∨ (nB vz 8 ∧ r = 0 ∧ lkM vz v2)))) r v2 → (∀ r1 W2, (fun (_ : Int32) (_ : zO) => False) r1 W2 → v2.1 1200 0 = 0 ∧ r1 = r ∧ (fun v9 W9 => lwV v9 W9 km ks kb) v2 W2) ∧ (True → v2.1 1200 0 = 1 ∧ (fun v9 W9 => lwV v9 W9 km ks kb) v2 W) ∧ (False → v2.1 1200 0 = 2 ∧ (fun v9 W9 => lwV v9 W9 km ks kb) v2 W) := fun r v2 h9 => by
      rcases h9 with ⟨y1, y2⟩ | ⟨y1, y2⟩
      · subst y2
        exact ⟨fun r1 W2 h8 => h8.elim, fun _ => ⟨u1_s, hV.k⟩, fun h8 => h8.elim⟩
      · exact absurd h0 y1
    refine lc_link (f2 := 6) (lo2 := 137) (mc2 := 0) (ms2 := 0) (J := fun S2 => ∃ v2 W2 ad2, lwI t0 S2 x g o v2 W2 ad2 qa ∧ (fun v9 W9 => lwV v9 W9 km ks kb) v2 W2) (post2 := fun _ S1 r S2 => (cn vz 1201 0 = 0 ∧ r = 0 ∧ zmR S1 g qa (u1 v 1200 0 1) S2) ∨ (¬ cn vz 1201 0 = 0 ∧ ((∃ w pl v1, lk vz w pl ∧ r = nI w ∧ lkF vz v1 w pl ∧ zmR S1 g qa v1 S2) ∨ (nB vz 8 ∧ r = 0 ∧ ∃ v1, lkM vz v1 ∧ zmR S1 g qa v1 S2)))) F G hX hbl hbN hi hL hx hc (fun E S' h => h.2) (lw_o hI hp) (fun k S1 h => ?_) (fun k S1 r S2 h h2 => ?_) ⟨by omega, by omega, by omega, by omega, by omega, by omega⟩ (by omega) (by omega) (fun S2 hJ => by obtain ⟨v2, W2, ad2, q1, q2⟩ := hJ; exact K S2 v2 W2 ad2 km ks kb _ _ q1 q2 (by omega) (by omega))
    · obtain ⟨W1, ad1, q1, -⟩ := (lw_w1 (P := (fun (_ : Int32) (_ : zO) => False)) (P1 := True) hI hp (fun S' h9 => ⟨h9.1, trivial⟩) h)
      exact ⟨q1.mg, mm_link (zmR.rf q1.1) ez hIz.1 hIz.2.1 hIz.2.2.2.1⟩
    · exact lw_j (Q := (fun r v2 => (cn vz 1201 0 = 0 ∧ v2 = u1 v 1200 0 1) ∨ (¬ cn vz 1201 0 = 0 ∧ ((∃ w pl, lk vz w pl ∧ r = nI w ∧ lkF vz v2 w pl) ∨ (nB vz 8 ∧ r = 0 ∧ lkM vz v2))))) (Z := (fun v9 W9 => lwV v9 W9 km ks kb)) (lw_w1 (P := (fun (_ : Int32) (_ : zO) => False)) (P1 := True) hI hp (fun S' h9 => ⟨h9.1, trivial⟩) h) (hQ0 h2) (fun v2 h9 => hag r v2 h9)
  · by_cases hn8 : nB vz 8
    · obtain ⟨Lm, hM1⟩ := hV.2.2.2.1
      have hM2 := hV.2.2.2.2.1
      obtain ⟨Lb, hM3⟩ := hV.2.2.2.2.2.1
      have hd9 := wdF_D hIz.1 hIz.2.2.2.1 (vL.rf.allG (hn8.1 (by decide))) 48 (Nat.le_refl _)
      have hc0 := c_linkM (l := l) (N0 := N0) (D := D) (cy := cy) hl hH hRz hIz.1 hIz.2.1 hIz.2.2.2.1 hI.2.2.1 h0 hn8 hM1 hM2 hM3
      have g1 : km ≤ (gk km ([] : List Int32).length (mdB vz (wdF vz 48).1 (wdF vz 48).2).length) := gk_le _ _ _
      have g2 : ks ≤ (kSd vz (wdF vz 48).1 (wdF vz 48).2 ks) := Nat.le_trans (kSa_le _ _ _ _) (Nat.le_trans (kSb_le _ _ _ _) (Nat.le_trans (kSc_le _ _ _ _) (kSd_le _ _ _ _)))
      have g3 : kb ≤ (kbF vz (wdF vz 48).1 (wdF vz 48).2 kb (pS vz 1202 6)) := kbF_mono _ _ _ kb (a := 0) _ (Nat.zero_le _)
      have f1 : (gk km ([] : List Int32).length (mdB vz (wdF vz 48).1 (wdF vz 48).2).length) ≤ 65536 := gk_b0 hM1.cap9 (Nat.le_trans (mdB_ok hIz.1 hd9.1 hd9.2).2 (by decide))
      have f2 : (kSd vz (wdF vz 48).1 (wdF vz 48).2 ks) ≤ 65536 := kSd_b hIz.1 hd9.1 hd9.2 hM2.cap9
      have f3 : (kbF vz (wdF vz 48).1 (wdF vz 48).2 kb (pS vz 1202 6)) ≤ 65536 := kbF_b hIz.1 hM3.cap9 _ (Nat.le_refl _)
      generalize (gk km ([] : List Int32).length (mdB vz (wdF vz 48).1 (wdF vz 48).2).length) = km9 at hc0 g1 f1
      generalize (kSd vz (wdF vz 48).1 (wdF vz 48).2 ks) = ks9 at hc0 g2 f2
      generalize (kbF vz (wdF vz 48).1 (wdF vz 48).2 kb (pS vz 1202 6)) = kb9 at hc0 g3 f3
      have hc := hc0
      have hp : ∀ (r : Int32) (S' : zS), (r = 0 ∧ ∃ (ad' : Nat → Nat) (W' : zO), zH t0 (X9 g o qa) S ad' W' S' ∧ keepA W ad ad' ∧ LK vz W' ∧ (∀ v1, lkM vz v1 → Rep v1 W') ∧ bL W' 44 (mdB vz (wdF vz 48).1 (wdF vz 48).2) km9 ∧ bL W' 46 [] ks9 ∧ ∃ Lb9, bL W' 48 Lb9 kb9) → ∃ ad2 W2, zH t0 (X9 g o qa) S ad2 W2 S' ∧ ad2 2 = x ∧ (fun r W2 => r = 0 ∧ LK vz W2 ∧ (∀ v1, lkM vz v1 → Rep v1 W2) ∧ bL W2 44 (mdB vz (wdF vz 48).1 (wdF vz 48).2) km9 ∧ bL W2 46 [] ks9 ∧ ∃ Lb9, bL W2 48 Lb9 kb9) r W2 := fun r S' h9 => by
        obtain ⟨q1, ad', W', q3, q4, q5, q6, q7, q8, q9⟩ := h9
        exact ⟨ad', W', q3, hk2 q4, q1, q5, q6, q7, q8, q9⟩
      have hag : ∀ (r : Int32) (v2 : zV), (fun r v2 => (cn vz 1201 0 = 0 ∧ v2 = u1 v 1200 0 1) ∨ (¬ cn vz 1201 0 = 0 ∧ ((∃ w pl, lk vz w pl ∧ r = nI w ∧ lkF vz v2 w pl) ∨ (nB vz 8 ∧ r = 0 ∧ lkM vz v2)))) r v2 → (∀ r1 W2, (fun r W2 => r = 0 ∧ LK vz W2 ∧ (∀ v1, lkM vz v1 → Rep v1 W2) ∧ bL W2 44 (mdB vz (wdF vz 48).1 (wdF vz 48).2) km9 ∧ bL W2 46 [] ks9 ∧ ∃ Lb9, bL W2 48 Lb9 kb9) r1 W2 → v2.1 1200 0 = 0 ∧ r1 = r ∧ (fun v9 W9 => lwV v9 W9 km9 ks9 kb9) v2 W2) ∧ (False → v2.1 1200 0 = 1 ∧ (fun v9 W9 => lwV v9 W9 km9 ks9 kb9) v2 W) ∧ (False → v2.1 1200 0 = 2 ∧ (fun v9 W9 => lwV v9 W9 km9 ks9 kb9) v2 W) := fun r v2 h9 => by
        rcases h9 with ⟨y1, y2⟩ | ⟨y1, ⟨w, pl, y2, y3, y4⟩ | ⟨y2, y3, y4⟩⟩
        · exact absurd y1 h0
        · exact absurd hn8 (y2.no (n := 8) (by have h7 := y2.b; omega))
        · refine ⟨fun r1 W2 h8 => ?_, fun h8 => h8.elim, fun h8 => h8.elim⟩
          obtain ⟨q1, q5, q6, q7, q8, q9⟩ := h8
          obtain ⟨w1, w2, w3, w4, w5, T, w6⟩ := id y4
          exact ⟨(w1.1 1200 0 (by omega) (by omega)).trans e00, q1.trans y3.symm, vI.L w1.L hIz, q6 v2 y4, Or.inr w2, ⟨_, q7⟩, q8, q9, fun _ => ⟨vz, T, w1.L, q5, w4, w5, w6⟩⟩
      refine lc_link (f2 := 6) (lo2 := 137) (mc2 := 0) (ms2 := 0) (J := fun S2 => ∃ v2 W2 ad2, lwI t0 S2 x g o v2 W2 ad2 qa ∧ (fun v9 W9 => lwV v9 W9 km9 ks9 kb9) v2 W2) (post2 := fun _ S1 r S2 => (cn vz 1201 0 = 0 ∧ r = 0 ∧ zmR S1 g qa (u1 v 1200 0 1) S2) ∨ (¬ cn vz 1201 0 = 0 ∧ ((∃ w pl v1, lk vz w pl ∧ r = nI w ∧ lkF vz v1 w pl ∧ zmR S1 g qa v1 S2) ∨ (nB vz 8 ∧ r = 0 ∧ ∃ v1, lkM vz v1 ∧ zmR S1 g qa v1 S2)))) F G hX hbl hbN hi hL hx hc (fun E S' h => h.elim) (lw_o hI hp) (fun k S1 h => ?_) (fun k S1 r S2 h h2 => ?_) ⟨by omega, by omega, by omega, by omega, by omega, by omega⟩ (by omega) (by omega) (fun S2 hJ => by obtain ⟨v2, W2, ad2, q1, q2⟩ := hJ; exact K S2 v2 W2 ad2 km9 ks9 kb9 _ _ q1 q2 (by omega) (by omega))
      · obtain ⟨W1, ad1, q1, -⟩ := (lw_w1 (P := (fun r W2 => r = 0 ∧ LK vz W2 ∧ (∀ v1, lkM vz v1 → Rep v1 W2) ∧ bL W2 44 (mdB vz (wdF vz 48).1 (wdF vz 48).2) km9 ∧ bL W2 46 [] ks9 ∧ ∃ Lb9, bL W2 48 Lb9 kb9)) (P1 := False) hI hp (fun S' h9 => h9.elim) h)
        exact ⟨q1.mg, mm_link (zmR.rf q1.1) ez hIz.1 hIz.2.1 hIz.2.2.2.1⟩
      · exact lw_j (Q := (fun r v2 => (cn vz 1201 0 = 0 ∧ v2 = u1 v 1200 0 1) ∨ (¬ cn vz 1201 0 = 0 ∧ ((∃ w pl, lk vz w pl ∧ r = nI w ∧ lkF vz v2 w pl) ∨ (nB vz 8 ∧ r = 0 ∧ lkM vz v2))))) (Z := (fun v9 W9 => lwV v9 W9 km9 ks9 kb9)) (lw_w1 (P := (fun r W2 => r = 0 ∧ LK vz W2 ∧ (∀ v1, lkM vz v1 → Rep v1 W2) ∧ bL W2 44 (mdB vz (wdF vz 48).1 (wdF vz 48).2) km9 ∧ bL W2 46 [] ks9 ∧ ∃ Lb9, bL W2 48 Lb9 kb9)) (P1 := False) hI hp (fun S' h9 => h9.elim) h) (hQ0 h2) (fun v2 h9 => hag r v2 h9)
    · have hc := c_linkF (l := l) (N0 := N0) (D := D) (cy := cy) hl hH hRz hIz.1 hIz.2.1 hIz.2.2.2.1 hI.2.2.1 h0 hn8
      have hp : ∀ (r : Int32) (S' : zS), (∃ w pl, lk vz w pl ∧ r = nI w ∧ ∃ (ad' : Nat → Nat) (W' : zO), zH t0 (X9 g o qa) S ad' W' S' ∧ keepA W ad ad' ∧ (∀ v1, lkF vz v1 w pl → Rep v1 W') ∧ ∀ d, 44 ≤ d → d < 50 → W' d = W d) → ∃ ad2 W2, zH t0 (X9 g o qa) S ad2 W2 S' ∧ ad2 2 = x ∧ (fun r W2 => ∃ w pl, lk vz w pl ∧ r = nI w ∧ (∀ v1, lkF vz v1 w pl → Rep v1 W2) ∧ ∀ d, 44 ≤ d → d < 50 → W2 d = W d) r W2 := fun r S' h9 => by
        obtain ⟨w, pl, q1, q2, ad', W', q3, q4, q5, q6⟩ := h9
        exact ⟨ad', W', q3, hk2 q4, w, pl, q1, q2, q5, q6⟩
      have hag : ∀ (r : Int32) (v2 : zV), (fun r v2 => (cn vz 1201 0 = 0 ∧ v2 = u1 v 1200 0 1) ∨ (¬ cn vz 1201 0 = 0 ∧ ((∃ w pl, lk vz w pl ∧ r = nI w ∧ lkF vz v2 w pl) ∨ (nB vz 8 ∧ r = 0 ∧ lkM vz v2)))) r v2 → (∀ r1 W2, (fun r W2 => ∃ w pl, lk vz w pl ∧ r = nI w ∧ (∀ v1, lkF vz v1 w pl → Rep v1 W2) ∧ ∀ d, 44 ≤ d → d < 50 → W2 d = W d) r1 W2 → v2.1 1200 0 = 0 ∧ r1 = r ∧ (fun v9 W9 => lwV v9 W9 km ks kb) v2 W2) ∧ (False → v2.1 1200 0 = 1 ∧ (fun v9 W9 => lwV v9 W9 km ks kb) v2 W) ∧ (False → v2.1 1200 0 = 2 ∧ (fun v9 W9 => lwV v9 W9 km ks kb) v2 W) := fun r v2 h9 => by
        rcases h9 with ⟨y1, y2⟩ | ⟨y1, ⟨w, pl, y2, y3, y4⟩ | ⟨y2, y3, y4⟩⟩
        · exact absurd y1 h0
        · refine ⟨fun r1 W2 h8 => ?_, fun h8 => h8.elim, fun h8 => h8.elim⟩
          obtain ⟨w9, pl9, q1, q2, q3, q4⟩ := h8
          obtain ⟨e1, e2⟩ := q1.un y2
          subst e1
          subst e2
          exact ⟨(y4.1.1 1200 0 (by omega) (by omega)).trans e00, q2.trans y3.symm, hV.b (vI.L y4.1.L hIz) (q3 v2 y4) y4.2.1 q4⟩
        · exact absurd y2 hn8
      refine lc_link (f2 := 6) (lo2 := 137) (mc2 := 0) (ms2 := 0) (J := fun S2 => ∃ v2 W2 ad2, lwI t0 S2 x g o v2 W2 ad2 qa ∧ (fun v9 W9 => lwV v9 W9 km ks kb) v2 W2) (post2 := fun _ S1 r S2 => (cn vz 1201 0 = 0 ∧ r = 0 ∧ zmR S1 g qa (u1 v 1200 0 1) S2) ∨ (¬ cn vz 1201 0 = 0 ∧ ((∃ w pl v1, lk vz w pl ∧ r = nI w ∧ lkF vz v1 w pl ∧ zmR S1 g qa v1 S2) ∨ (nB vz 8 ∧ r = 0 ∧ ∃ v1, lkM vz v1 ∧ zmR S1 g qa v1 S2)))) F G hX hbl hbN hi hL hx hc (fun E S' h => h.elim) (lw_o hI hp) (fun k S1 h => ?_) (fun k S1 r S2 h h2 => ?_) ⟨by omega, by omega, by omega, by omega, by omega, by omega⟩ (by omega) (by omega) (fun S2 hJ => by obtain ⟨v2, W2, ad2, q1, q2⟩ := hJ; exact K S2 v2 W2 ad2 km ks kb _ _ q1 q2 (by omega) (by omega))
      · obtain ⟨W1, ad1, q1, -⟩ := (lw_w1 (P := (fun r W2 => ∃ w pl, lk vz w pl ∧ r = nI w ∧ (∀ v1, lkF vz v1 w pl → Rep v1 W2) ∧ ∀ d, 44 ≤ d → d < 50 → W2 d = W d)) (P1 := False) hI hp (fun S' h9 => h9.elim) h)
        exact ⟨q1.mg, mm_link (zmR.rf q1.1) ez hIz.1 hIz.2.1 hIz.2.2.2.1⟩
      · exact lw_j (Q := (fun r v2 => (cn vz 1201 0 = 0 ∧ v2 = u1 v 1200 0 1) ∨ (¬ cn vz 1201 0 = 0 ∧ ((∃ w pl, lk vz w pl ∧ r = nI w ∧ lkF vz v2 w pl) ∨ (nB vz 8 ∧ r = 0 ∧ lkM vz v2))))) (Z := (fun v9 W9 => lwV v9 W9 km ks kb)) (lw_w1 (P := (fun r W2 => ∃ w pl, lk vz w pl ∧ r = nI w ∧ (∀ v1, lkF vz v1 w pl → Rep v1 W2) ∧ ∀ d, 44 ≤ d → d < 50 → W2 d = W d)) (P1 := False) hI hp (fun S' h9 => h9.elim) h) (hQ0 h2) (fun v2 h9 => hag r v2 h9)
end ZLS8
