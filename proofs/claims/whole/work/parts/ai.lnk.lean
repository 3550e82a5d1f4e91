theorem fO_th {v : zV} (hv : vRg v) (hD : vD v) (hK : kEq v) {y g : Nat} (hy : y < 96) (ht : y % 16 < cn v 1204 (y / 16)) (hk : v.1 1215 y = 0) (h : fO v y = some g) : g % 8 < cn v 1202 (g / 8) := by
  rw [← tgt_fO (fun z hz => (hK y hy ht z hz).trans hk) (fun _ => hk)] at h
  exact (tgt_t hv hD hy ht h).2
theorem addT_mem {Ss : List Nat} {x y : Nat} (h : y ∈ addT Ss x) : y ∈ Ss ∨ y = x := by
  unfold addT at h
  split at h
  · rcases List.mem_append.mp h with q | q
    · exact Or.inl q
    · exact Or.inr (List.mem_singleton.mp q)
  · exact Or.inl h
theorem wdS_th {v : zV} (hv : vRg v) (hD : vD v) (hK : kEq v) {f k : Nat} {p : List Nat × List Nat} (hf : f < 48) (hg : gW v f (cn v 1209 (60 * f + k)) (v.1 1210 (60 * f + k))) (h : ∀ x, x ∈ p.2 → x % 8 < cn v 1202 (x / 8)) : ∀ x, x ∈ (wdS v f k p).2 → x % 8 < cn v 1202 (x / 8) := by
  show ∀ x, x ∈ (if cn v 1209 (60 * f + k) = 34 then adO p.2 (fO v (16 * (f / 8) + cn v 1210 (60 * f + k))) else p.2) → _
  by_cases h1 : cn v 1209 (60 * f + k) = 34
  · rw [if_pos h1]
    obtain ⟨j, hj, ej, hk9⟩ := hg.2.2.2.2.1 (Or.inr h1)
    have hyb := (rg_1204 hv (k := f / 8) (by omega)).2
    have ec : cn v 1210 (60 * f + k) = j := by show (v.1 1210 (60 * f + k)).toNatClampNeg = j; rw [ej, nI_clamp (by omega)]
    rw [ec]
    cases he : fO v (16 * (f / 8) + j) with
    | none => exact h
    | some g =>
      intro x hx
      rcases addT_mem hx with q | q
      · exact h x q
      · rw [q]
        exact fO_th hv hD hK (by omega) (by rw [show (16 * (f / 8) + j) / 16 = f / 8 by omega]; omega) hk9 he
  · rw [if_neg h1]
    exact h
theorem wdK_th {v : zV} (hv : vRg v) (hD : vD v) (hK : kEq v) {f : Nat} {p : List Nat × List Nat} (hf : f < 48) (hg : ∀ k, k < cn v 1208 f → gW v f (cn v 1209 (60 * f + k)) (v.1 1210 (60 * f + k))) (h : ∀ x, x ∈ p.2 → x % 8 < cn v 1202 (x / 8)) : ∀ k, k ≤ cn v 1208 f → ∀ x, x ∈ (wdK v f p k).2 → x % 8 < cn v 1202 (x / 8)
  | 0, _ => h
  | k + 1, hk => wdS_th hv hD hK hf (hg k (by omega)) (wdK_th hv hD hK hf hg h k (by omega))
theorem wdF_th {v : zV} (hv : vRg v) (hD : vD v) (hK : kEq v) (hg : allG v) : ∀ n, n ≤ 48 → ∀ x, x ∈ (wdF v n).2 → x % 8 < cn v 1202 (x / 8)
  | 0, _ => fun x hx => by cases hx
  | n + 1, h => by
    show ∀ x, x ∈ (if n % 8 < cn v 1202 (n / 8) then wdK v n (wdF v n) (cn v 1208 n) else wdF v n).2 → _
    split
    · rename_i ht
      exact wdK_th hv hD hK (by omega) (fun k hk => hg.g (by omega) ht hk) (wdF_th hv hD hK hg n (by omega)) _ (Nat.le_refl _)
    · exact wdF_th hv hD hK hg n (by omega)
/-- what is linked stands in the linker's world -/
def LK (v : zV) (W : zO) : Prop := nB v 8 ∧ ldd v W (wdF v 48).1 (wdF v 48).2 ∧ (∀ f, f < 48 → f % 8 < cn v 1202 (f / 8) → xR v W f) ∧ oi W 10 307 = nI (aS v 24) ∧ ∃ k, bL W 44 (mdB v (wdF v 48).1 (wdF v 48).2) k
theorem bL.vb {W : zO} {c : Nat} {L : List Int32} {k : Nat} (h : bL W c L k) : vb W c := by
  obtain ⟨e, he, ek⟩ := h.2.2.2.2.2.2.2.2.1
  exact ⟨h.2.1, h.2.2.1, h.2.2.2.1, h.2.2.2.2.1, L.length, e, h.2.2.2.2.2.1, by rw [h.2.2.2.2.2.2.1]; exact h.2.2.2.2.2.2.2.1, h.2.2.2.2.2.2.1.trans ek, he⟩
theorem Rep.ln {v v1 : zV} {W0 W' : zO} (hR : Rep v W0) (hB : Bld v W') (a2 : oa W' 2) (hal : ∀ c, 60 ≤ c → oa W' c → oa W0 c) (h4 : W' 4 = W0 4) (h5 : W' 5 = W0 5) (h14 : W' 14 = W0 14) (h58 : W' 58 = W0 58) (hX : rpX W') (hY : vY v v1) (e1 : oi W' 2 1106 = v1.1 1219 0) (e2 : oi W' 2 1107 = v1.1 1220 0) : Rep v1 W' := by
  obtain ⟨y1, y2, y3, y4, y5, y6, y7, y8, y9, y10, y11, y12, y13, y14, y15⟩ := hR
  have hL := hY.L
  have c1 : cn v1 1201 0 = cn v 1201 0 := hL.c (by omega)
  refine ⟨hB.1, a2, ?_, fun o ho => ?_, fun f hf ht => ?_, fun g hg ht => ?_, fun y hy ht => ?_, fun c hc => ?_, e1, e2, ?_, ?_, ?_, fun k hk => ?_, hX⟩
  · rw [c1]; exact y3.same h4 h5
  · rw [c1] at ho
    exact (hB.2.1 o ho).same (fun id hid => hL id o (by omega)) (fun _ _ => rfl)
  · rw [hL.c (by omega)] at ht
    exact (hB.2.2.1 f hf ht).same (fun id hid => hL id f (by omega)) (fun k hk => ⟨hL 1209 _ (by omega), hL 1210 _ (by omega)⟩) (fun _ _ => rfl)
  · rw [hL.c (by omega)] at ht
    exact (hB.2.2.2.1 g hg ht).same (hL 1211 g (by omega)) (hL 1212 g (by omega)) (fun k _ => hL 1213 _ (by omega)) rfl rfl
  · rw [hL.c (by omega)] at ht
    exact (hB.2.2.2.2 y hy ht).same (fun id hid => hL id y (by omega)) rfl
  · by_cases h60 : 60 ≤ c
    · have h9 := y8 c (hal c h60 hc)
      unfold rpN
      rw [c1, hL.c (id := 1202) (by omega), hL.c (id := 1203) (by omega), hL.c (id := 1204) (by omega)]
      exact h9
    · exact Or.inl (by omega)
  · show (W' 14).2.2.2.1 409 = v1.2 1229 0
    rw [h14, hY.2]; exact y11
  · show (W' 14).2.1 410 = v1.1 1230 0
    rw [h14, hY.1 1230 0 (by omega) (by omega)]; exact y12
  · show (W' 14).2.1 411 = v1.1 1231 0
    rw [h14, hY.1 1231 0 (by omega) (by omega)]; exact y13
  · show (W' 58).2.2.2.2.2.1 k = v1.1 1228 k
    rw [h58, hY.1 1228 k (by omega) (by omega)]; exact y14 k hk
theorem lnQ.X {v : zV} {W0 W : zO} (hv : vRg v) (h : lnQ v W0 W) (hX : rpX W0) : rpX W := by
  obtain ⟨q1, q2, q3, q4, ⟨q8, q9, q10⟩, q11, q12, q13, q16⟩ := h
  have c1 : ∀ o, o < 6 → cn v 1202 o ≤ 8 := fun o ho => (rg_1202 hv ho).2
  have c2 : ∀ o, o < 6 → cn v 1203 o ≤ 4 := fun o ho => (rg_1203 hv ho).2
  have c3 : ∀ o, o < 6 → cn v 1204 o ≤ 16 := fun o ho => (rg_1204 hv ho).2
  obtain ⟨-, -, -, -, x5, x6, x7⟩ := hX
  exact ⟨⟨_, _, pS_b c1 6 (Nat.le_refl _), q8, fun i hi => (kd_r _ (eN_t (by decide) c1 hi).1).1⟩, ⟨_, _, pS_b c2 6 (Nat.le_refl _), q9, fun i hi => (kd_g _ (eN_t (by decide) c2 hi).1).1⟩, ⟨_, _, pS_b c3 6 (Nat.le_refl _), q10, fun i hi => kd_y _ (eN_t (by decide) c3 hi).1⟩, q13, x5.same (q16 _ (by decide) (by decide)) (q16 _ (by decide) (by decide)), x6.same (q16 _ (by decide) (by decide)) (q16 _ (by decide) (by decide)), x7.same (q16 _ (by decide) (by decide)) (q16 _ (by decide) (by decide))⟩
/-- behind gather and join -/
theorem lnQ.of {v : zV} {W W1 W2 : zO} (hR : Rep v W) (hv : vRg v) (hO : cn v 1201 0 ≤ 6) (hs : ∀ d, d < 32 ∨ 38 ≤ d → W1 d = W d) (hR1 : Rep v W1) (hl : vl W1 32 (pS v 1202 6) (fun i => 200 + 12 * eN v 1202 8 i) ∧ vl W1 34 (pS v 1203 6) (fun i => 800 + 4 * eN v 1203 4 i) ∧ vl W1 36 (pS v 1204 6) (fun i => 900 + 2 * eN v 1204 16 i)) (hw : wr W2) (hN : nmS v W2 96) (hsq : sq v W1 W2 (pS v 1204 6)) : lnQ v W W2 := by
  have c3 : ∀ o, o < 6 → cn v 1204 o ≤ 16 := fun o ho => (rg_1204 hv ho).2
  have hsm : ∀ d, d ≠ 16 → d ≠ 18 → d ≠ 20 → d < 900 → W2 d = W1 d := fun d h1 h2 h3 h4 => hsq.2 d h1 h2 h3 (fun y _ _ => by unfold cY; omega)
  have hB1 := hR1.bld
  have hsY : ∀ y, y < 96 → y % 16 < cn v 1204 (y / 16) → W2 (cY y) = eQ (W1 (cY y)) 907 ((src v y).map cY) := fun y hy ht => by
    rw [hsq.1 y hy ht, if_pos (pN_top (M := 16) (by decide) hy ht)]
  have hB2 : Bld v W2 := ⟨hw, fun o ho => (hB1.2.1 o ho).same (fun _ _ => rfl) (fun k hk => hsm _ (by omega) (by omega) (by omega) (by omega)), fun f hf ht => (hB1.2.2.1 f hf ht).same (fun _ _ => rfl) (fun _ _ => ⟨rfl, rfl⟩) (fun k hk => hsm _ (by omega) (by omega) (by omega) (by omega)), fun g hg ht => (hB1.2.2.2.1 g hg ht).same rfl rfl (fun _ _ => rfl) (hsm _ (by omega) (by omega) (by omega) (by omega)) (hsm _ (by omega) (by omega) (by omega) (by omega)), fun y hy ht => hsq.Y (hB1.2.2.2.2 y hy ht) hy ht⟩
  obtain ⟨-, -, -, x4, -⟩ := hR1.2.2.2.2.2.2.2.2.2.2.2.2.2.2
  obtain ⟨n, f, x1, x2, x3⟩ := x4
  refine ⟨hB2, ?_, fun c hc h9 => ?_, ⟨?_, ?_, ?_, ?_⟩, ⟨hl.1.same (hsm _ (by decide) (by decide) (by decide) (by decide)) (hsm _ (by decide) (by decide) (by decide) (by decide)), hl.2.1.same (hsm _ (by decide) (by decide) (by decide) (by decide)) (hsm _ (by decide) (by decide) (by decide) (by decide)), hl.2.2.same (hsm _ (by decide) (by decide) (by decide) (by decide)) (hsm _ (by decide) (by decide) (by decide) (by decide))⟩, hN, fun y hy ht => ?_, ⟨n, f, x1, x2.same (hsm _ (by decide) (by decide) (by decide) (by decide)) (hsm _ (by decide) (by decide) (by decide) (by decide)), x3⟩, fun d h1 h2 => (hsm d (by omega) (by omega) (by omega) (by omega)).trans (hs d (by omega))⟩
  · show (W2 2).1
    rw [hsm 2 (by decide) (by decide) (by decide) (by decide), hs 2 (by decide)]; exact hR.2.1
  · by_cases hy : ∃ y, y < 96 ∧ y % 16 < cn v 1204 (y / 16) ∧ c = cY y
    · obtain ⟨y, h1, h2, h3⟩ := hy
      subst h3
      have h8 : (W1 (cY y)).1 := (hB1.2.2.2.2 y h1 h2).1
      rw [hs _ (by unfold cY; omega)] at h8
      exact h8
    · have h8 := hsq.2 c (by omega) (by omega) (by omega) (fun y h1 h2 h3 => hy ⟨y, h1, h2, h3⟩)
      show (W c).1
      rw [← hs c (by omega), ← h8]
      exact h9
  · exact (hsm 4 (by decide) (by decide) (by decide) (by decide)).trans (hs 4 (by decide))
  · exact (hsm 5 (by decide) (by decide) (by decide) (by decide)).trans (hs 5 (by decide))
  · exact (hsm 14 (by decide) (by decide) (by decide) (by decide)).trans (hs 14 (by decide))
  · exact (hsm 58 (by decide) (by decide) (by decide) (by decide)).trans (hs 58 (by decide))
  · show (W2 (cY y)).2.2.1 907 = _
    rw [hsY y hy ht]
    exact va_up_self (W1 (cY y)).2.2.1 907 _
