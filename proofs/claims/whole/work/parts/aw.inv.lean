/-- a function that is there -/
abbrev tF (v : zV) (f : Nat) : Prop := f < 48 ∧ f % 8 < cn v 1202 (f / 8)
/-- what a run wants of the code -/
def sOK (v : zV) (Ss : List Nat) : Prop := vRg v ∧ vD v ∧ (∀ f, f < 48 → f % 8 < cn v 1202 (f / 8) → cOK v f ∧ ∀ k, k < cn v 1208 f → gW v f (kw v f k) (v.1 1210 (60 * f + k)) ∧ (kw v f k = 31 → ∀ g, fO v (16 * (f / 8) + ka v f k) = some g → tF v g ∧ sh v g = sg v (16 * (f / 8) + ka v f k))) ∧ nD Ss 48 ∧ ∀ x, x ∈ Ss → x % 8 < cn v 1202 (x / 8)
section ZSO
variable {v : zV} {Ss : List Nat} {f k : Nat}
theorem sOK.c (h : sOK v Ss) (hf : tF v f) : cOK v f := (h.2.2.1 f hf.1 hf.2).1
theorem sOK.g (h : sOK v Ss) (hf : tF v f) (hk : k < cn v 1208 f) : gW v f (kw v f k) (v.1 1210 (60 * f + k)) := ((h.2.2.1 f hf.1 hf.2).2 k hk).1
theorem sOK.sz (h : sOK v Ss) (hf : tF v f) : cn v 1208 f ≤ 60 := (rg_1208 h.1 hf.1).2
theorem sOK.w (h : sOK v Ss) (hf : tF v f) (hk : k < cn v 1208 f) : kw v f k < 36 := by
  have := h.sz hf
  exact Nat.lt_succ_of_le (rg_1209 h.1 (k := 60 * f + k) (by have := hf.1; omega)).2
theorem sOK.pv (h : sOK v Ss) (hf : tF v f) (hk : k < cn v 1208 f) : pp v (f / 8) (kw v f k) (v.1 1210 (60 * f + k)) ≤ 40 ∧ pu v (f / 8) (kw v f k) (v.1 1210 (60 * f + k)) ≤ 1 := by
  have hgk := h.g hf hk
  exact pp_le h.1 h.2.1 (by have := hf.1; omega) (h.w hf hk) (fun h9 => by obtain ⟨j, q1, q2, _⟩ := hgk.2.2.2.2.1 (Or.inl h9); exact ⟨j, q2, q1⟩) (fun h9 => by obtain ⟨j, q1, q2⟩ := hgk.2.2.2.2.2.1 h9; exact ⟨j, q2, q1⟩)
theorem sOK.a1 (h : sOK v Ss) (hf : tF v f) (hk : k < cn v 1208 f) (hw : 23 ≤ kw v f k ∧ kw v f k ≤ 25) : ka v f k ≤ 1 := by
  obtain ⟨j, q1, q2⟩ := (h.g hf hk).2.2.1 hw
  show (v.1 1210 (60 * f + k)).toNatClampNeg ≤ 1
  rw [q2, nI_clamp (by omega)]
  exact q1
theorem kSt_h {H : Nat} {q q' : ckS} (hI : kI k H q) (hpu : pu v (f / 8) (kw v f k) (v.1 1210 (60 * f + k)) ≤ 1) (hz : kw v f k = 29 → pu v (f / 8) (kw v f k) (v.1 1210 (60 * f + k)) = 0) (hs : kSt v f k q = some q') : kh q' ≤ kh q + 1 := by
  rw [kSt_x v f k q rfl rfl] at hs
  by_cases hy : kY q (pp v (f / 8) (cn v 1209 (60 * f + k)) (v.1 1210 (60 * f + k)))
  · rw [if_pos hy] at hs
    have hx := kX_b hI (pp v (f / 8) (cn v 1209 (60 * f + k)) (v.1 1210 (60 * f + k)))
    have hbb := hI.2.2.2.2.2
    have hll := hI.2.2.2.1
    have hn1 := hI.1
    have hw : kw v f k = cn v 1209 (60 * f + k) := rfl
    rw [hw] at hz hpu
    generalize kX q (pp v (f / 8) (cn v 1209 (60 * f + k)) (v.1 1210 (60 * f + k))) = x at hs hx
    generalize pu v (f / 8) (cn v 1209 (60 * f + k)) (v.1 1210 (60 * f + k)) = u at hs hpu hz
    generalize cn v 1209 (60 * f + k) = w at hs hz
    have hl0 : ∀ b, b < kn q → kl q b ≤ 1 := fun b hb => (hll b hb).1
    by_cases e1 : 23 ≤ w ∧ w ≤ 25
    · rw [kS2_o e1] at hs
      cases hs
      show x + u ≤ _
      omega
    · by_cases e2 : w = 26
      · subst e2
        rw [kS2_e] at hs
        split at hs
        · cases hs
          show kb q (kn q - 1) ≤ _
          omega
        · cases hs
      · by_cases e3 : w = 27
        · subst e3
          rw [kS2_n] at hs
          split at hs
          · cases hs
            show kb q (kn q - 1) + kl q (kn q - 1) ≤ _
            have := hl0 (kn q - 1) (by omega)
            omega
          · cases hs
        · by_cases e4 : w = 28 ∨ w = 29
          · rw [kS2_b e4 rfl] at hs
            split at hs
            · rename_i hc
              cases hs
              by_cases e5 : w = 28
              · show kh (if w = 28 then _ else _) ≤ _
                rw [if_pos e5]
                show kb q (kn q - 1) ≤ _
                omega
              · have hu : u = 0 := hz (by omega)
                show kh (if w = 28 then _ else _) ≤ _
                rw [if_neg e5]
                have htk : ktk v f (setH q (x + u)) (v.1 1210 (60 * f + k)).toNatClampNeg ≤ 1 := by
                  unfold ktk
                  split
                  · omega
                  · exact hl0 _ (by show kn q - 1 - _ < kn q; omega)
                show (if ktk v f (setH q (x + u)) (v.1 1210 (60 * f + k)).toNatClampNeg ≤ x + u - kb q (kn q - 1) then x + u - ktk v f (setH q (x + u)) (v.1 1210 (60 * f + k)).toNatClampNeg else kb q (kn q - 1)) + ktk v f (setH q (x + u)) (v.1 1210 (60 * f + k)).toNatClampNeg ≤ kh q + 1
                split <;> omega
            · cases hs
          · by_cases e5 : w = 30
            · subst e5
              rw [kS2_r] at hs
              split at hs
              · cases hs
                show kb q (kn q - 1) ≤ _
                omega
              · cases hs
            · rw [kS2_d (by omega)] at hs
              cases hs
              show x + u ≤ _
              omega
  · rw [if_neg hy] at hs
    cases hs
theorem kq_I (h : sOK v Ss) (hf : tF v f) : ∀ k, k ≤ cn v 1208 f → kI k (2 * k) (kq v f k) ∧ kEl (kq v f k) k ∧ kh (kq v f k) ≤ k
  | 0, _ => ⟨kI.beg h.1 hf.1, fun b _ z hz => (by cases hz), Nat.le_refl _⟩
  | k + 1, hk => by
    obtain ⟨i1, i2, i3⟩ := kq_I h hf k (by omega)
    have hs := kq_s (h.c hf) (show k < cn v 1208 f by omega)
    have hp := (h.pv hf (show k < cn v 1208 f by omega)).2
    have h1 := kSt_I h.1 i1 i2 hp (fun h9 => h.a1 hf (show k < cn v 1208 f by omega) h9) hs
    have h2 := kSt_h i1 hp (fun h9 => by rw [(pp_t (w := kw v f k) (by omega) (by omega)).2, h9]; rfl) hs
    exact ⟨h1.1, h1.2, by omega⟩
theorem kq_0 (h : cOK v f) : ∀ k, k ≤ cn v 1208 f → kl (kq v f k) 0 = cn v 1206 f ∧ kb (kq v f k) 0 = 0
  | 0, _ => ⟨rfl, rfl⟩
  | k + 1, hk => by
    obtain ⟨i1, i2⟩ := kq_0 h k (by omega)
    have h1 := kq_1 h (show k < cn v 1208 f by omega)
    have hn := (kOpn_all h k (by omega)).1
    by_cases e : 1 < kn (kq v f k)
    · have h2 := h1.lo (b := 0) (by omega)
      exact ⟨h2.2.1.trans i1, h2.2.2.1.trans i2⟩
    · have h2 := h1.up hn
      rw [show kn (kq v f k) - 1 = 0 by omega] at h2
      exact ⟨h2.2.1.trans i1, h2.2.2.1.trans i2⟩
/-- one word on, where the code lives -/
theorem kq_2 (h : cOK v f) (hk : k < cn v 1208 f) (hd : kdd (kq v f k) (kn (kq v f k) - 1) = false) : pp v (f / 8) (kw v f k) (v.1 1210 (60 * f + k)) ≤ kh (kq v f k) - kb (kq v f k) (kn (kq v f k) - 1) ∧ kS2 v f k (kw v f k) (v.1 1210 (60 * f + k)) (setH (kq v f k) (kh (kq v f k) - pp v (f / 8) (kw v f k) (v.1 1210 (60 * f + k)) + pu v (f / 8) (kw v f k) (v.1 1210 (60 * f + k)))) = some (kq v f (k + 1)) := by
  have hs := kq_s h hk
  rw [kSt_x v f k (kq v f k) rfl rfl] at hs
  have hy : kY (kq v f k) (pp v (f / 8) (cn v 1209 (60 * f + k)) (v.1 1210 (60 * f + k))) := by
    by_cases h9 : kY (kq v f k) (pp v (f / 8) (cn v 1209 (60 * f + k)) (v.1 1210 (60 * f + k)))
    · exact h9
    · rw [if_neg h9] at hs
      cases hs
  rw [if_pos hy] at hs
  have hy2 : pp v (f / 8) (cn v 1209 (60 * f + k)) (v.1 1210 (60 * f + k)) ≤ kh (kq v f k) - kb (kq v f k) (kn (kq v f k) - 1) := hy.elim id (fun h9 => by rw [hd] at h9; cases h9)
  refine ⟨hy2, ?_⟩
  unfold kX at hs
  rw [if_pos hy2] at hs
  exact hs
/-- blocks: all but the upper one alive -/
def bl9 (v : zV) (f k n : Nat) (o b : Nat → Nat) : Prop := kn (kq v f k) = n + 1 ∧ ∀ j, j < n → ko (kq v f k) (j + 1) = o j ∧ kb (kq v f k) (j + 1) = b j ∧ kdd (kq v f k) j = false
def al9 (v : zV) (f k n : Nat) (o b : Nat → Nat) : Prop := bl9 v f k n o b ∧ kdd (kq v f k) n = false
variable {n : Nat} {o b : Nat → Nat}
theorem bl9.cg (h : bl9 v f k n o b) {o' b' : Nat → Nat} (hc : ∀ j, j < n → o' j = o j ∧ b' j = b j) : bl9 v f k n o' b' := ⟨h.1, fun j hj => by rw [(hc j hj).1, (hc j hj).2]; exact h.2 j hj⟩
theorem al9.cg (h : al9 v f k n o b) {o' b' : Nat → Nat} (hc : ∀ j, j < n → o' j = o j ∧ b' j = b j) : al9 v f k n o' b' := ⟨h.1.cg hc, h.2⟩
/-- at the opener of an open block all lives -/
theorem bl9.back (h : bl9 v f k n o b) (hc : cOK v f) (hk : k ≤ cn v 1208 f) {j : Nat} (hj : j < n) : kOpn v f (o j) (j + 1) k ∧ al9 v f (o j) j o b := by
  have ho := (kOpn_all hc k hk).2 (j + 1) (by omega) (by rw [h.1]; omega)
  rw [(h.2 j hj).1] at ho
  refine ⟨ho, ⟨ho.2.2.1, fun i hi => ?_⟩, ?_⟩
  · have h7 := ho.2.2.2.2.2.2.1 (i + 1) (by omega)
    have h8 := ho.2.2.2.2.2.2.1 i (by omega)
    exact ⟨h7.1.symm.trans (h.2 i (by omega)).1, h7.2.2.1.symm.trans (h.2 i (by omega)).2.1, h8.2.2.2.1.symm.trans (h.2 i (by omega)).2.2⟩
  · have h8 := ho.2.2.2.2.2.2.1 j (by omega)
    exact h8.2.2.2.1.symm.trans (h.2 j hj).2.2
/-- within a block whose opener was reached alive -/
theorem al9.opn {p : Nat} (h : al9 v f p n o b) (ho : kOpn v f p (n + 1) k) (hn : kn (kq v f k) = n + 2) (h1 : o n = p) (h2 : b n = kX (kq v f p) (pTb.getD (kw v f p) 0)) (hk : k ≤ cn v 1208 f) : bl9 v f k (n + 1) o b := by
  refine ⟨hn, fun j hj => ?_⟩
  by_cases e : j = n
  · subst e
    have h8 := ho.2.2.2.2.2.2.1 j (by omega)
    exact ⟨((ho.2.2.2.2.2.2.2.1 k ho.1 (Nat.le_refl _)).2).trans h1.symm, ho.2.2.2.2.1.trans h2.symm, h8.2.2.2.1.trans h.2⟩
  · have h7 := ho.2.2.2.2.2.2.1 (j + 1) (by omega)
    have h8 := ho.2.2.2.2.2.2.1 j (by omega)
    exact ⟨h7.1.trans (h.1.2 j (by omega)).1, h7.2.2.1.trans (h.1.2 j (by omega)).2.1, h8.2.2.2.1.trans (h.1.2 j (by omega)).2.2⟩
/-- behind a block's end -/
theorem al9.fin {p e : Nat} (h : al9 v f p n o b) (hc : cOK v f) (hp : kCl v f p e) : al9 v f (e + 1) n o b ∧ kh (kq v f (e + 1)) = kX (kq v f p) (pTb.getD (kw v f p) 0) + ka v f p := by
  have h1 := kq_1 hc hp.2.1
  have h2 := (h1.2.2.1 hp.2.2.1).2
  have hn := h.1.1
  have hne : kn (kq v f e) - 1 = n + 1 := by rw [hp.2.2.2.1, hn]; rfl
  have ho := hp.2.2.2.2
  rw [hn] at ho
  rw [hne] at h2
  have hk : ∀ j, j < n + 1 → ko (kq v f (e + 1)) j = ko (kq v f p) j ∧ kb (kq v f (e + 1)) j = kb (kq v f p) j ∧ kdd (kq v f (e + 1)) j = kdd (kq v f p) j := fun j hj => by
    have h7 := ho.2.2.2.2.2.2.1 j hj
    rw [h2]
    exact ⟨h7.1, h7.2.2.1, h7.2.2.2.1⟩
  refine ⟨⟨⟨?_, fun j hj => ?_⟩, ?_⟩, ?_⟩
  · rw [h2]
    show kn (kq v f e) - 1 = n + 1
    exact hne
  · have h9 := h.1.2 j hj
    have q1 := hk (j + 1) (by omega)
    have q2 := hk j (by omega)
    exact ⟨q1.1.trans h9.1, q1.2.1.trans h9.2.1, q2.2.2.trans h9.2.2⟩
  · exact (hk n (by omega)).2.2.trans h.2
  · rw [h2]
    show kb (kq v f e) (n + 1) + kl (kq v f e) (kn (kq v f e) - 1) = _
    rw [hne, ho.2.2.2.2.1, ho.2.2.2.2.2.1]
/-- where an END is reached alive -/
theorem al9.ed (h : al9 v f k n o b) (hc : cOK v f) (hk : k < cn v 1208 f) (hI : kb (kq v f k) n ≤ kh (kq v f k)) (hw : kw v f k = 27 ∨ kw v f k = 26) : kh (kq v f k) = kb (kq v f k) n + kl (kq v f k) n := by
  have hn : kn (kq v f k) - 1 = n := by rw [h.1.1]; rfl
  have h2 := (kq_2 hc hk (by rw [hn]; exact h.2)).2
  have hd := h.2
  rcases hw with hw | hw
  · rw [hw, show pp v (f / 8) 27 (v.1 1210 (60 * f + k)) = 0 from rfl, show pu v (f / 8) 27 (v.1 1210 (60 * f + k)) = 0 from rfl, kS2_n] at h2
    split at h2
    · rename_i hq
      have h9 : kh (kq v f k) - kb (kq v f k) (kn (kq v f k) - 1) = kl (kq v f k) (kn (kq v f k) - 1) ∨ (kdd (kq v f k) (kn (kq v f k) - 1) = true ∧ _) := hq.2.2
      rw [hn] at h9
      rcases h9 with h9 | h9
      · omega
      · rw [hd] at h9; exact absurd h9.1 (by decide)
    · cases h2
  · rw [hw, show pp v (f / 8) 26 (v.1 1210 (60 * f + k)) = 0 from rfl, show pu v (f / 8) 26 (v.1 1210 (60 * f + k)) = 0 from rfl, kS2_e] at h2
    split at h2
    · rename_i hq
      have h9 : kh (kq v f k) - kb (kq v f k) (kn (kq v f k) - 1) = kl (kq v f k) (kn (kq v f k) - 1) ∨ (kdd (kq v f k) (kn (kq v f k) - 1) = true ∧ _) := hq.2.2
      rw [hn] at h9
      rcases h9 with h9 | h9
      · omega
      · rw [hd] at h9; exact absurd h9.1 (by decide)
    · cases h2
end ZSO
