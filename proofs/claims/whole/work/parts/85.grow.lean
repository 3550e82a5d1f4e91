theorem Rep.mk2 {v v' : zV} {W W' : zO} (h : Rep v W) (hwr : wr W') (h2 : W' 2 = W 2) (h4 : W' 4 = W 4) (h5 : W' 5 = W 5) (h14 : W' 14 = W 14) (h58 : W' 58 = W 58) (hx : ∀ d, 32 ≤ d → d < 50 → W' d = W d) (hs : ∀ id k, id = 1201 ∨ id = 1219 ∨ id = 1220 ∨ id = 1230 ∨ id = 1231 ∨ id = 1228 → v'.1 id k = v.1 id k) (hv2 : v'.2 = v.2) (hU : ∀ o, o < cn v 1201 0 → rpU v' W' o) (hR : ∀ f, f < 48 → f % 8 < cn v' 1202 (f / 8) → rpR v' W' f) (hG : ∀ g, g < 24 → g % 4 < cn v' 1203 (g / 4) → rpG v' W' g) (hY : ∀ y, y < 96 → y % 16 < cn v' 1204 (y / 16) → rpY v' W' y) (hN : ∀ c, oa W' c → rpN v' c) : Rep v' W' := by
  obtain ⟨q1, q2, q3, q4, q5, q6, q7, q8, q9, q10, q11, q12, q13, q14, q15⟩ := h
  have e1 : cn v' 1201 0 = cn v 1201 0 := by unfold cn; rw [hs 1201 0 (by decide)]
  refine ⟨hwr, ?_, ?_, ?_, hR, hG, hY, hN, ?_, ?_, ?_, ?_, ?_, fun k hk => ?_, q15.same hx⟩
  · show (W' 2).1
    rw [h2]; exact q2
  · rw [e1]; exact q3.same h4 h5
  · rw [e1]; exact hU
  · show (W' 2).2.1 1106 = _
    rw [h2, hs 1219 0 (by decide)]; exact q9
  · show (W' 2).2.1 1107 = _
    rw [h2, hs 1220 0 (by decide)]; exact q10
  · show (W' 14).2.2.2.1 409 = _
    rw [h14, hv2]; exact q11
  · show (W' 14).2.1 410 = _
    rw [h14, hs 1230 0 (by decide)]; exact q12
  · show (W' 14).2.1 411 = _
    rw [h14, hs 1231 0 (by decide)]; exact q13
  · show (W' 58).2.2.2.2.2.1 k = _
    rw [h58, hs 1228 k (by decide)]; exact q14 k hk
theorem wL_7 : ∀ id ∈ wL, id / 100 = 7 → id = 705 ∨ id = 706 ∨ id = 707 ∨ id = 708 ∨ id = 709 := by decide
theorem wL_8 : ∀ id ∈ wL, id / 100 = 8 → id = 800 := by decide
theorem wL_9 : ∀ id ∈ wL, id / 100 ≠ 9 ∧ id / 100 ≠ 13 ∧ id / 100 ≠ 14 := by decide
theorem wL_10 : ∀ id ∈ wL, id / 100 = 10 → id = 1000 ∨ id = 1001 ∨ id = 1002 := by decide
theorem oa_same {W W' : zO} {c : Nat} (h : W' c = W c) (hc : oa W' c) : oa W c := by
  show (W c).1
  rw [← h]
  exact hc
theorem cn_z {v : zV} {id k n : Nat} (h : v.1 id k = nI n) (hn : n < 2 ^ 31) : cn v id k = n := by
  show (v.1 id k).toNatClampNeg = n
  rw [h, nI_clamp hn]
set_option maxHeartbeats 1000000 in
theorem Rep.fun {v : zV} {W W' : zO} (h : Rep v W) (hO : cn v 1201 0 ≤ 6) (hZ : vZ v) {i n : Nat} {p q w : Int32} (hi : i < cn v 1201 0) (hn : v.1 1202 i = nI n) (hn8 : n < 8) (hW : ∀ d, d ≠ 200 + 12 * (8 * i + n) → d ≠ 200 + 12 * (8 * i + n) + 2 → d ≠ 200 + 12 * (8 * i + n) + 4 → d ≠ 200 + 12 * (8 * i + n) + 6 → d ≠ 200 + 12 * (8 * i + n) + 8 → d ≠ 200 + 12 * (8 * i + n) + 10 → d ≠ 100 + 8 * i + 2 → d ≠ 100 + 8 * i + 2 + 1 → W' d = W d) (hl : vl W' (100 + 8 * i + 2) (n + 1) (fun j => 200 + 12 * (8 * i + j))) (hB : W' (200 + 12 * (8 * i + n)) = eI (eI (eI (eI (eQ (eQ (eQ (eQ (eQ (eQ eNo 705 (some (200 + 12 * (8 * i + n) + 2))) 706 (some (200 + 12 * (8 * i + n) + 4))) 707 (some (200 + 12 * (8 * i + n) + 6))) 708 (some (200 + 12 * (8 * i + n) + 8))) 709 (some (200 + 12 * (8 * i + n) + 10))) 700 (some (100 + 8 * i))) 701 (nI (1000 * i + 100 * n))) 702 p) 703 q) 704 w) (h2 : W' (200 + 12 * (8 * i + n) + 2) = eNa 60) (h4 : W' (200 + 12 * (8 * i + n) + 4) = eNa 60) (h6 : W' (200 + 12 * (8 * i + n) + 6) = eNa 60) (h8 : W' (200 + 12 * (8 * i + n) + 8) = eNa 60) (h10 : W' (200 + 12 * (8 * i + n) + 10) = eNa 60) : Rep (u1 (u1 (u1 (u1 v 1205 (8 * i + n) p) 1206 (8 * i + n) q) 1207 (8 * i + n) w) 1202 i (nI (n + 1))) W' := by
  have hi6 : i < 6 := by omega
  have hcn : cn v 1202 i = n := cn_z hn (by omega)
  have hF8 : (8 * i + n) / 8 = i := by omega
  have hFm : (8 * i + n) % 8 = n := by omega
  have hku := kd_u i hi6
  have hkr := kd_r (8 * i + n) (by omega)
  obtain ⟨y1, y2, y3, y4, y5, y6, y7, y8, -⟩ := id h
  -- what was there isn't among the new things
  have hold : ∀ c, oa W c → ¬ (200 + 12 * (8 * i + n) ≤ c ∧ c < 200 + 12 * (8 * i + n) + 12) := fun c hc h9 => by
    have e1 : (c - 200) / 12 = 8 * i + n := by omega
    rcases y8 c hc with q | q | q | q | q
    · omega
    · omega
    · rw [e1, hFm, hF8, hcn] at q
      omega
    · omega
    · omega
  have hkp : ∀ c, oa W c → c ≠ 100 + 8 * i + 2 → c ≠ 100 + 8 * i + 2 + 1 → W' c = W c := fun c hc c1 c2 => by
    have := hold c hc
    exact hW c (by omega) (by omega) (by omega) (by omega) (by omega) (by omega) c1 c2
  obtain ⟨l1, l2, l3, l4⟩ := hl.pos (by omega)
  have hal : ∀ c, oa W c → oa W' c := fun c hc => by
    by_cases c1 : c = 100 + 8 * i + 2
    · rw [c1]; exact hl.1
    · by_cases c2 : c = 100 + 8 * i + 2 + 1
      · rw [c2]; exact l2
      · show (W' c).1
        rw [hkp c hc c1 c2]; exact hc
  have hv1 : ∀ id k, id ≠ 1205 → id ≠ 1206 → id ≠ 1207 → id ≠ 1202 → (u1 (u1 (u1 (u1 v 1205 (8 * i + n) p) 1206 (8 * i + n) q) 1207 (8 * i + n) w) 1202 i (nI (n + 1))).1 id k = v.1 id k := fun id k a1 a2 a3 a4 => by
    show z2 (z2 (z2 (z2 v.1 1205 (8 * i + n) p) 1206 (8 * i + n) q) 1207 (8 * i + n) w) 1202 i (nI (n + 1)) id k = _
    rw [z2_n _ _ (Or.inl a4), z2_n _ _ (Or.inl a3), z2_n _ _ (Or.inl a2), z2_n _ _ (Or.inl a1)]
  have hv2 : ∀ id k, k ≠ 8 * i + n → k ≠ i ∨ id ≠ 1202 → (u1 (u1 (u1 (u1 v 1205 (8 * i + n) p) 1206 (8 * i + n) q) 1207 (8 * i + n) w) 1202 i (nI (n + 1))).1 id k = v.1 id k := fun id k a1 a2 => by
    show z2 (z2 (z2 (z2 v.1 1205 (8 * i + n) p) 1206 (8 * i + n) q) 1207 (8 * i + n) w) 1202 i (nI (n + 1)) id k = _
    rw [z2_n _ _ (by rcases a2 with a2 | a2; exact Or.inr a2; exact Or.inl a2), z2_n _ _ (Or.inr a1), z2_n _ _ (Or.inr a1), z2_n _ _ (Or.inr a1)]
  have hc1 : cn (u1 (u1 (u1 (u1 v 1205 (8 * i + n) p) 1206 (8 * i + n) q) 1207 (8 * i + n) w) 1202 i (nI (n + 1))) 1202 i = n + 1 := cn_z (z2_s _ _ _ _) (by omega)
  have hc2 : ∀ o, o ≠ i → cn (u1 (u1 (u1 (u1 v 1205 (8 * i + n) p) 1206 (8 * i + n) q) 1207 (8 * i + n) w) 1202 i (nI (n + 1))) 1202 o = cn v 1202 o := fun o ho => by
    unfold cn
    show (z2 (z2 (z2 (z2 v.1 1205 (8 * i + n) p) 1206 (8 * i + n) q) 1207 (8 * i + n) w) 1202 i (nI (n + 1)) 1202 o).toNatClampNeg = _
    rw [z2_n _ _ (Or.inr ho), z2_n _ _ (Or.inl (by decide)), z2_n _ _ (Or.inl (by decide)), z2_n _ _ (Or.inl (by decide))]
  refine h.mk2 (y1.ext (fun c hc k1 k2 => hkp c hc (fun e => k1 (by rw [e]; exact hku.2.1)) (fun e => k2 (by rw [e]; exact hku.2.2.1))) hal (fun c hc hnc id hid hk => ?_)) (hW 2 (by omega) (by omega) (by omega) (by omega) (by omega) (by omega) (by omega) (by omega)) (hW 4 (by omega) (by omega) (by omega) (by omega) (by omega) (by omega) (by omega) (by omega)) (hW 5 (by omega) (by omega) (by omega) (by omega) (by omega) (by omega) (by omega) (by omega)) (hW 14 (by omega) (by omega) (by omega) (by omega) (by omega) (by omega) (by omega) (by omega)) (hW 58 (by omega) (by omega) (by omega) (by omega) (by omega) (by omega) (by omega) (by omega)) (fun d d1 d2 => hW d (by omega) (by omega) (by omega) (by omega) (by omega) (by omega) (by omega) (by omega)) (fun id k hid => hv1 id k (by omega) (by omega) (by omega) (by omega)) rfl (fun o ho => ?_) (fun f hf hf2 => ?_) (fun g hg hg2 => ?_) (fun y hy hy2 => ?_) (fun c hc => ?_)
  · have h9 := wL_9 id hid
    have hw := wL_k id hid
    by_cases e0 : c = 200 + 12 * (8 * i + n)
    · subst e0
      have h7 := wL_7 id hid (by rw [← hk]; exact hkr.1)
      rcases h7 with r | r | r | r | r <;> subst r
      · exact ⟨by show (W' _).2.2.1 705 = _; rw [hB]; rfl, oa_eq h2 trivial, fun _ => by show (W' _).2.2.2.2.1 = _; exact congrArg (fun e : zE => e.2.2.2.2.1) h2, hkr.2.1⟩
      · exact ⟨by show (W' _).2.2.1 706 = _; rw [hB]; rfl, oa_eq h4 trivial, fun _ => by show (W' _).2.2.2.2.1 = _; exact congrArg (fun e : zE => e.2.2.2.2.1) h4, hkr.2.2.1⟩
      · exact ⟨by show (W' _).2.2.1 707 = _; rw [hB]; rfl, oa_eq h6 trivial, fun _ => by show (W' _).2.2.2.2.1 = _; exact congrArg (fun e : zE => e.2.2.2.2.1) h6, hkr.2.2.2.1⟩
      · exact ⟨by show (W' _).2.2.1 708 = _; rw [hB]; rfl, oa_eq h8 trivial, fun _ => by show (W' _).2.2.2.2.1 = _; exact congrArg (fun e : zE => e.2.2.2.2.1) h8, hkr.2.2.2.2.1⟩
      · exact ⟨by show (W' _).2.2.1 709 = _; rw [hB]; rfl, oa_eq h10 trivial, fun _ => by show (W' _).2.2.2.2.1 = _; exact congrArg (fun e : zE => e.2.2.2.2.1) h10, hkr.2.2.2.2.2⟩
    · exfalso
      by_cases e2 : c = 200 + 12 * (8 * i + n) + 2
      · exact h9.2.2 (by rw [← hk, e2]; exact hkr.2.1)
      · by_cases e4 : c = 200 + 12 * (8 * i + n) + 4
        · exact h9.2.2 (by rw [← hk, e4]; exact hkr.2.2.1)
        · by_cases e6 : c = 200 + 12 * (8 * i + n) + 6
          · exact h9.2.2 (by rw [← hk, e6]; exact hkr.2.2.2.1)
          · by_cases e8 : c = 200 + 12 * (8 * i + n) + 8
            · exact h9.2.2 (by rw [← hk, e8]; exact hkr.2.2.2.2.1)
            · by_cases e10 : c = 200 + 12 * (8 * i + n) + 10
              · exact h9.2.2 (by rw [← hk, e10]; exact hkr.2.2.2.2.2)
              · by_cases f1 : c = 100 + 8 * i + 2
                · exact hw.1 (by rw [← hk, f1]; exact hku.2.1)
                · by_cases f2 : c = 100 + 8 * i + 2 + 1
                  · exact hw.2.1 (by rw [← hk, f2]; exact hku.2.2.1)
                  · exact hnc (oa_same (hW c e0 e2 e4 e6 e8 e10 f1 f2) hc)
  · have hU := y4 o ho
    by_cases e : o = i
    · subst e
      refine ⟨?_, ?_, ?_, ?_⟩
      · exact hal _ hU.1
      · rw [hc1]; exact hl
      · rw [show cn (u1 (u1 (u1 (u1 v 1205 (8 * o + n) p) 1206 (8 * o + n) q) 1207 (8 * o + n) w) 1202 o (nI (n + 1))) 1203 o = cn v 1203 o from rfl]
        exact hU.2.2.1.same (hW _ (by omega) (by omega) (by omega) (by omega) (by omega) (by omega) (by omega) (by omega)) (hW _ (by omega) (by omega) (by omega) (by omega) (by omega) (by omega) (by omega) (by omega))
      · rw [show cn (u1 (u1 (u1 (u1 v 1205 (8 * o + n) p) 1206 (8 * o + n) q) 1207 (8 * o + n) w) 1202 o (nI (n + 1))) 1204 o = cn v 1204 o from rfl]
        exact hU.2.2.2.same (hW _ (by omega) (by omega) (by omega) (by omega) (by omega) (by omega) (by omega) (by omega)) (hW _ (by omega) (by omega) (by omega) (by omega) (by omega) (by omega) (by omega) (by omega))
    · exact hU.same (fun id hid => by rcases hid with r | r | r <;> subst r <;> first | exact z2_n _ _ (Or.inr e) | rfl) (fun k hk => hW _ (by omega) (by omega) (by omega) (by omega) (by omega) (by omega) (by omega) (by omega))
  · by_cases e : f = 8 * i + n
    · subst e
      have hz := hZ.1 (8 * i + n) hf (by rw [hFm, hF8, hcn]; omega)
      unfold rpR oa oq oi ori
      rw [hB, h2, h4, hF8, hFm]
      refine ⟨trivial, rfl, rfl, ?_, ?_, ?_, ?_, fun k hk => ?_, fun k hk => ?_⟩
      · show p = z2 (z2 (z2 v.1 1205 (8 * i + n) p) 1206 (8 * i + n) q) 1207 (8 * i + n) w 1205 (8 * i + n)
        rw [z2_n _ _ (Or.inl (by decide)), z2_n _ _ (Or.inl (by decide)), z2_s]
      · show q = z2 (z2 (z2 v.1 1205 (8 * i + n) p) 1206 (8 * i + n) q) 1207 (8 * i + n) w 1206 (8 * i + n)
        rw [z2_n _ _ (Or.inl (by decide)), z2_s]
      · show w = z2 (z2 (z2 v.1 1205 (8 * i + n) p) 1206 (8 * i + n) q) 1207 (8 * i + n) w 1207 (8 * i + n)
        rw [z2_s]
      · exact hz.1.symm
      · exact (hz.2 k hk).1.symm
      · exact (hz.2 k hk).2.symm
    · have hf3 : f % 8 < cn v 1202 (f / 8) := by
        by_cases e2 : f / 8 = i
        · rw [e2, hc1] at hf2
          rw [e2, hcn]
          omega
        · rw [hc2 _ e2] at hf2
          exact hf2
      exact (y5 f hf hf3).same (fun id hid => hv2 id f e (Or.inr (by omega))) (fun k hk => ⟨rfl, rfl⟩) (fun k hk => hW _ (by omega) (by omega) (by omega) (by omega) (by omega) (by omega) (by omega) (by omega))
  · exact (y6 g hg hg2).same rfl rfl (fun _ _ => rfl) (hW _ (by omega) (by omega) (by omega) (by omega) (by omega) (by omega) (by omega) (by omega)) (hW _ (by omega) (by omega) (by omega) (by omega) (by omega) (by omega) (by omega) (by omega))
  · exact (y7 y hy hy2).same (fun id hid => by rcases hid with r | r | r | r | r <;> subst r <;> rfl) (hW _ (by omega) (by omega) (by omega) (by omega) (by omega) (by omega) (by omega) (by omega))
  · unfold rpN
    by_cases hb : 200 + 12 * (8 * i + n) ≤ c ∧ c < 200 + 12 * (8 * i + n) + 12
    · refine Or.inr (Or.inr (Or.inl ⟨by omega, by omega, ?_⟩))
      rw [show (c - 200) / 12 = 8 * i + n by omega, hFm, hF8, hc1]
      omega
    · have hcW : oa W c ∨ c = 100 + 8 * i + 2 + 1 ∨ c = 100 + 8 * i + 2 := by
        by_cases f1 : c = 100 + 8 * i + 2
        · exact Or.inr (Or.inr f1)
        · by_cases f2 : c = 100 + 8 * i + 2 + 1
          · exact Or.inr (Or.inl f2)
          · exact Or.inl (oa_same (hW c (by omega) (by omega) (by omega) (by omega) (by omega) (by omega) f1 f2) hc)
      rcases hcW with hcW | hcW
      · rcases y8 c hcW with r | r | r | r | r
        · exact Or.inl r
        · exact Or.inr (Or.inl r)
        · refine Or.inr (Or.inr (Or.inl ⟨r.1, r.2.1, ?_⟩))
          by_cases e2 : (c - 200) / 12 / 8 = i
          · have r3 := r.2.2
            rw [e2, hcn] at r3
            rw [e2, hc1]
            omega
          · rw [hc2 _ e2]
            exact r.2.2
        · exact Or.inr (Or.inr (Or.inr (Or.inl r)))
        · exact Or.inr (Or.inr (Or.inr (Or.inr r)))
      · exact Or.inr (Or.inl ⟨by omega, by omega, by show (c - 100) / 8 < cn v 1201 0; omega⟩)
