set_option maxHeartbeats 1000000 in
theorem Rep.seg {v : zV} {W W' : zO} (h : Rep v W) (hO : cn v 1201 0 ≤ 6) (hZ : vZ v) {i n : Nat} {z : Nat} {w : Int32} (hz64 : z ≤ 64) (hi : i < cn v 1201 0) (hn : v.1 1203 i = nI n) (hnM : n < 4) (hW : ∀ d, d ≠ (800 + 4 * (4 * i + n)) → d ≠ (800 + 4 * (4 * i + n)) + 2 → d ≠ (100 + 8 * i + 4) → d ≠ (100 + 8 * i + 4) + 1 → W' d = W d) (hl : vl W' (100 + 8 * i + 4) (n + 1) (fun j => 800 + 4 * (4 * i + j))) (hc0 : W' (800 + 4 * (4 * i + n)) = eI (eQ eNo 800 (some (800 + 4 * (4 * i + n) + 2))) 801 (1 <<< (w &&& 31))) (hc_2 : W' ((800 + 4 * (4 * i + n)) + 2) = eNa z) : Rep (u1 (u1 (u1 v 1211 (4 * i + n) (nI z)) 1212 (4 * i + n) w) 1203 i (nI (n + 1))) W' := by
  have hi6 : i < 6 := by omega
  have hcn : cn v 1203 i = n := cn_z hn (by omega)
  have hFd : (4 * i + n) / 4 = i := by omega
  have hFm : (4 * i + n) % 4 = n := by omega
  have hku := kd_u i hi6
  have hkl : kd (100 + 8 * i + 4) = 0 := hku.2.2.2.1
  have hkl1 : kd ((100 + 8 * i + 4) + 1) = 19 := hku.2.2.2.2.1
  obtain ⟨y1, y2, y3, y4, y5, y6, y7, y8, -⟩ := id h
  have hold : ∀ c, oa W c → ¬ ((800 + 4 * (4 * i + n)) ≤ c ∧ c < (800 + 4 * (4 * i + n)) + 4) := fun c hc h9 => by
    have e1 : (c - 800) / 4 = (4 * i + n) := by omega
    rcases y8 c hc with r | r | r | r | r
    · omega
    · omega
    · omega
    · rw [e1, hFm, hFd, hcn] at r
      omega
    · omega
  have hkp : ∀ c, oa W c → c ≠ (100 + 8 * i + 4) → c ≠ (100 + 8 * i + 4) + 1 → W' c = W c := fun c hc c1 c2 => by
    have := hold c hc
    exact hW c (by omega) (by omega) c1 c2
  obtain ⟨l1, l2, l3, l4⟩ := hl.pos (by omega)
  have hal : ∀ c, oa W c → oa W' c := fun c hc => by
    by_cases c1 : c = (100 + 8 * i + 4)
    · rw [c1]; exact hl.1
    · by_cases c2 : c = (100 + 8 * i + 4) + 1
      · rw [c2]; exact l2
      · show (W' c).1
        rw [hkp c hc c1 c2]; exact hc
  obtain ⟨v', ev⟩ : ∃ v', v' = (u1 (u1 (u1 v 1211 (4 * i + n) (nI z)) 1212 (4 * i + n) w) 1203 i (nI (n + 1))) := ⟨_, rfl⟩
  have hv1 : ∀ id k, id ≠ 1211 → id ≠ 1212 → id ≠ 1203 → v'.1 id k = v.1 id k := fun id k a1211 a1212 a1203 => by
    rw [ev]
    show z2 (z2 (z2 v.1 1211 (4 * i + n) (nI z)) 1212 (4 * i + n) w) 1203 i (nI (n + 1)) id k = _
    rw [z2_n _ _ (Or.inl a1203), z2_n _ _ (Or.inl a1212), z2_n _ _ (Or.inl a1211)]
  have hv2 : ∀ id k, k ≠ (4 * i + n) → k ≠ i ∨ id ≠ 1203 → v'.1 id k = v.1 id k := fun id k a1 a2 => by
    rw [ev]
    show z2 (z2 (z2 v.1 1211 (4 * i + n) (nI z)) 1212 (4 * i + n) w) 1203 i (nI (n + 1)) id k = _
    rw [z2_n _ _ (by rcases a2 with a2 | a2; exact Or.inr a2; exact Or.inl a2), z2_n _ _ (Or.inr a1), z2_n _ _ (Or.inr a1)]
  have hc1 : cn v' 1203 i = n + 1 := by
    rw [ev]
    exact cn_z (z2_s _ _ _ _) (by omega)
  have hc2 : ∀ o, o ≠ i → cn v' 1203 o = cn v 1203 o := fun o ho => by
    unfold cn
    rw [ev]
    show (z2 (z2 (z2 v.1 1211 (4 * i + n) (nI z)) 1212 (4 * i + n) w) 1203 i (nI (n + 1)) 1203 o).toNatClampNeg = _
    rw [z2_n _ _ (Or.inr ho), z2_n _ _ (Or.inl (by decide)), z2_n _ _ (Or.inl (by decide))]
  have hcs : ∀ id k, id ≠ 1211 → id ≠ 1212 → id ≠ 1203 → cn v' id k = cn v id k := fun id k a1211 a1212 a1203 => by
    unfold cn
    rw [hv1 id k a1211 a1212 a1203]
  have hv22 : v'.2 = v.2 := by rw [ev]
  have hnew : rpG v' W' (4 * i + n) := by
    have hz := hZ.2 (4 * i + n) (by omega) (by rw [hFm, hFd, hcn]; omega)
    have e1 : v'.1 1211 (4 * i + n) = nI z := by
      rw [ev]
      show z2 (z2 (z2 v.1 1211 (4 * i + n) (nI z)) 1212 (4 * i + n) w) 1203 i (nI (n + 1)) 1211 (4 * i + n) = _
      rw [z2_n _ _ (Or.inl (by decide)), z2_n _ _ (Or.inl (by decide)), z2_s]
    have e2 : v'.1 1212 (4 * i + n) = w := by
      rw [ev]
      show z2 (z2 (z2 v.1 1211 (4 * i + n) (nI z)) 1212 (4 * i + n) w) 1203 i (nI (n + 1)) 1212 (4 * i + n) = _
      rw [z2_n _ _ (Or.inl (by decide)), z2_s]
    have e3 : cn v' 1211 (4 * i + n) = z := cn_z e1 (by omega)
    unfold rpG oa oi onn ori
    rw [hc0, hc_2, e2, e3]
    refine ⟨trivial, rfl, rfl, fun k hk => ?_⟩
    rw [hv1 1213 _ (by decide) (by decide) (by decide)]
    exact (hz k (by omega)).symm
  rw [← ev]
  refine h.mk2 (y1.ext (fun c hc k1 k2 => hkp c hc (fun e => k1 (by rw [e]; exact hkl)) (fun e => k2 (by rw [e]; exact hkl1))) hal (fun c hc hnc id hid hk => ?_)) (hW 2 (by omega) (by omega) (by omega) (by omega)) (hW 4 (by omega) (by omega) (by omega) (by omega)) (hW 5 (by omega) (by omega) (by omega) (by omega)) (hW 14 (by omega) (by omega) (by omega) (by omega)) (hW 58 (by omega) (by omega) (by omega) (by omega)) (fun d d1 d2 => hW d (by omega) (by omega) (by omega) (by omega)) (fun id k hid => hv1 id k (by omega) (by omega) (by omega)) hv22 (fun o ho => ?_) (fun f hf hf2 => ?_) (fun g hg hg2 => ?_) (fun y hy hy2 => ?_) (fun c hc => ?_)
  · have h9 := wL_9 id hid
    have hw := wL_k id hid
    have hkg := kd_g (4 * i + n) (by omega)
    by_cases e0 : c = (800 + 4 * (4 * i + n))
    · subst e0
      have h7 := wL_8 id hid (by rw [← hk]; exact hkg.1)
      subst h7
      exact ⟨by show (W' _).2.2.1 800 = _; rw [hc0]; rfl, oa_eq hc_2 trivial, fun h9 => absurd rfl h9, hkg.2⟩
    · exfalso
      by_cases e2 : c = (800 + 4 * (4 * i + n)) + 2
      · exact h9.2.1 (by rw [← hk, e2]; exact hkg.2)
      · by_cases f1 : c = (100 + 8 * i + 4)
        · exact hw.1 (by rw [← hk, f1]; exact hkl)
        · by_cases f2 : c = (100 + 8 * i + 4) + 1
          · exact hw.2.1 (by rw [← hk, f2]; exact hkl1)
          · exact hnc (oa_same (hW c e0 e2 f1 f2) hc)
  · have hU := y4 o ho
    by_cases e : o = i
    · subst e
      refine ⟨hal _ hU.1, ?_, ?_, ?_⟩
      · rw [hcs 1202 o (by decide) (by decide) (by decide)]
        exact hU.2.1.same (hW _ (by omega) (by omega) (by omega) (by omega)) (hW _ (by omega) (by omega) (by omega) (by omega))
      · rw [hc1]; exact hl
      · rw [hcs 1204 o (by decide) (by decide) (by decide)]
        exact hU.2.2.2.same (hW _ (by omega) (by omega) (by omega) (by omega)) (hW _ (by omega) (by omega) (by omega) (by omega))
    · exact hU.same (fun id hid => by
        by_cases e9 : id = 1203
        · rw [e9, ev]
          show z2 (z2 (z2 v.1 1211 (4 * i + n) (nI z)) 1212 (4 * i + n) w) 1203 i (nI (n + 1)) 1203 o = _
          rw [z2_n _ _ (Or.inr e), z2_n _ _ (Or.inl (by decide)), z2_n _ _ (Or.inl (by decide))]
        · exact hv1 id o (by omega) (by omega) e9) (fun k hk => hW _ (by omega) (by omega) (by omega) (by omega))
  · rw [hcs 1202 _ (by decide) (by decide) (by decide)] at hf2
    exact (y5 f hf hf2).same (fun id hid => hv1 id f (by omega) (by omega) (by omega)) (fun k hk => ⟨hv1 1209 _ (by decide) (by decide) (by decide), hv1 1210 _ (by decide) (by decide) (by decide)⟩) (fun k hk => hW _ (by omega) (by omega) (by omega) (by omega))
  · by_cases e : g = (4 * i + n)
    · subst e
      exact hnew
    · have hf3 : g % 4 < cn v 1203 (g / 4) := by
        by_cases e2 : g / 4 = i
        · rw [e2, hc1] at hg2
          rw [e2, hcn]
          omega
        · rw [hc2 _ e2] at hg2
          exact hg2
      exact (y6 g hg hf3).same (hv2 1211 g e (Or.inr (by decide))) (hv2 1212 g e (Or.inr (by decide))) (fun k hk => hv1 1213 _ (by decide) (by decide) (by decide)) (hW _ (by omega) (by omega) (by omega) (by omega)) (hW _ (by omega) (by omega) (by omega) (by omega))
  · rw [hcs 1204 _ (by decide) (by decide) (by decide)] at hy2
    exact (y7 y hy hy2).same (fun id hid => hv1 id y (by omega) (by omega) (by omega)) (hW _ (by omega) (by omega) (by omega) (by omega))
  · unfold rpN
    by_cases hb : (800 + 4 * (4 * i + n)) ≤ c ∧ c < (800 + 4 * (4 * i + n)) + 4
    · refine Or.inr (Or.inr (Or.inr (Or.inl ⟨by omega, by omega, ?_⟩)))
      rw [show (c - 800) / 4 = (4 * i + n) by omega, hFm, hFd, hc1]
      omega
    · have hcW : oa W c ∨ c = (100 + 8 * i + 4) + 1 ∨ c = (100 + 8 * i + 4) := by
        by_cases f1 : c = (100 + 8 * i + 4)
        · exact Or.inr (Or.inr f1)
        · by_cases f2 : c = (100 + 8 * i + 4) + 1
          · exact Or.inr (Or.inl f2)
          · exact Or.inl (oa_same (hW c (by omega) (by omega) f1 f2) hc)
      rcases hcW with hcW | hcW
      · rcases y8 c hcW with r | r | r | r | r
        · exact Or.inl r
        · exact Or.inr (Or.inl (by rw [hcs 1201 0 (by decide) (by decide) (by decide)]; exact r))
        · exact Or.inr (Or.inr (Or.inl (by rw [hcs 1202 _ (by decide) (by decide) (by decide)]; exact r)))
        · refine Or.inr (Or.inr (Or.inr (Or.inl ⟨r.1, r.2.1, ?_⟩)))
          by_cases e2 : (c - 800) / 4 / 4 = i
          · have r3 := r.2.2
            rw [e2, hcn] at r3
            rw [e2, hc1]
            omega
          · rw [hc2 _ e2]
            exact r.2.2
        · exact Or.inr (Or.inr (Or.inr (Or.inr (by rw [hcs 1204 _ (by decide) (by decide) (by decide)]; exact r))))
      · exact Or.inr (Or.inl ⟨by omega, by omega, by rw [hcs 1201 0 (by decide) (by decide) (by decide)]; omega⟩)
set_option maxHeartbeats 1000000 in
theorem Rep.sym {v : zV} {W W' : zO} (h : Rep v W) (hO : cn v 1201 0 ≤ 6) (hZ : vZ v) {i n : Nat} {nm ki b df fo : Int32} (hi : i < cn v 1201 0) (hn : v.1 1204 i = nI n) (hnM : n < 16) (hW : ∀ d, d ≠ (900 + 2 * (16 * i + n)) → d ≠ (100 + 8 * i + 6) → d ≠ (100 + 8 * i + 6) + 1 → W' d = W d) (hl : vl W' (100 + 8 * i + 6) (n + 1) (fun j => 900 + 2 * (16 * i + j))) (hc0 : W' (900 + 2 * (16 * i + n)) = eI (eQ (eQ (eI (eI (eI (eI eNo 900 (nI (100 * i + n))) 901 nm) 902 ki) 903 b) 904 (if ki = 0 ∧ ¬ df = -1 then some (200 + 12 * (8 * i + df.toNatClampNeg)) else none)) 905 (if ¬ ki = 0 ∧ ¬ df = -1 then some (800 + 4 * (4 * i + df.toNatClampNeg)) else none)) 906 fo) : Rep (u1 (u1 (u1 (u1 (u1 (u1 v 1214 (16 * i + n) nm) 1215 (16 * i + n) ki) 1216 (16 * i + n) b) 1217 (16 * i + n) df) 1218 (16 * i + n) fo) 1204 i (nI (n + 1))) W' := by
  have hi6 : i < 6 := by omega
  have hcn : cn v 1204 i = n := cn_z hn (by omega)
  have hFd : (16 * i + n) / 16 = i := by omega
  have hFm : (16 * i + n) % 16 = n := by omega
  have hku := kd_u i hi6
  have hkl : kd (100 + 8 * i + 6) = 0 := hku.2.2.2.2.2.1
  have hkl1 : kd ((100 + 8 * i + 6) + 1) = 19 := hku.2.2.2.2.2.2
  obtain ⟨y1, y2, y3, y4, y5, y6, y7, y8, -⟩ := id h
  have hold : ∀ c, oa W c → ¬ ((900 + 2 * (16 * i + n)) ≤ c ∧ c < (900 + 2 * (16 * i + n)) + 2) := fun c hc h9 => by
    have e1 : (c - 900) / 2 = (16 * i + n) := by omega
    rcases y8 c hc with r | r | r | r | r
    · omega
    · omega
    · omega
    · omega
    · rw [e1, hFm, hFd, hcn] at r
      omega
  have hkp : ∀ c, oa W c → c ≠ (100 + 8 * i + 6) → c ≠ (100 + 8 * i + 6) + 1 → W' c = W c := fun c hc c1 c2 => by
    have := hold c hc
    exact hW c (by omega) c1 c2
  obtain ⟨l1, l2, l3, l4⟩ := hl.pos (by omega)
  have hal : ∀ c, oa W c → oa W' c := fun c hc => by
    by_cases c1 : c = (100 + 8 * i + 6)
    · rw [c1]; exact hl.1
    · by_cases c2 : c = (100 + 8 * i + 6) + 1
      · rw [c2]; exact l2
      · show (W' c).1
        rw [hkp c hc c1 c2]; exact hc
  obtain ⟨v', ev⟩ : ∃ v', v' = (u1 (u1 (u1 (u1 (u1 (u1 v 1214 (16 * i + n) nm) 1215 (16 * i + n) ki) 1216 (16 * i + n) b) 1217 (16 * i + n) df) 1218 (16 * i + n) fo) 1204 i (nI (n + 1))) := ⟨_, rfl⟩
  have hv1 : ∀ id k, id ≠ 1214 → id ≠ 1215 → id ≠ 1216 → id ≠ 1217 → id ≠ 1218 → id ≠ 1204 → v'.1 id k = v.1 id k := fun id k a1214 a1215 a1216 a1217 a1218 a1204 => by
    rw [ev]
    show z2 (z2 (z2 (z2 (z2 (z2 v.1 1214 (16 * i + n) nm) 1215 (16 * i + n) ki) 1216 (16 * i + n) b) 1217 (16 * i + n) df) 1218 (16 * i + n) fo) 1204 i (nI (n + 1)) id k = _
    rw [z2_n _ _ (Or.inl a1204), z2_n _ _ (Or.inl a1218), z2_n _ _ (Or.inl a1217), z2_n _ _ (Or.inl a1216), z2_n _ _ (Or.inl a1215), z2_n _ _ (Or.inl a1214)]
  have hv2 : ∀ id k, k ≠ (16 * i + n) → k ≠ i ∨ id ≠ 1204 → v'.1 id k = v.1 id k := fun id k a1 a2 => by
    rw [ev]
    show z2 (z2 (z2 (z2 (z2 (z2 v.1 1214 (16 * i + n) nm) 1215 (16 * i + n) ki) 1216 (16 * i + n) b) 1217 (16 * i + n) df) 1218 (16 * i + n) fo) 1204 i (nI (n + 1)) id k = _
    rw [z2_n _ _ (by rcases a2 with a2 | a2; exact Or.inr a2; exact Or.inl a2), z2_n _ _ (Or.inr a1), z2_n _ _ (Or.inr a1), z2_n _ _ (Or.inr a1), z2_n _ _ (Or.inr a1), z2_n _ _ (Or.inr a1)]
  have hc1 : cn v' 1204 i = n + 1 := by
    rw [ev]
    exact cn_z (z2_s _ _ _ _) (by omega)
  have hc2 : ∀ o, o ≠ i → cn v' 1204 o = cn v 1204 o := fun o ho => by
    unfold cn
    rw [ev]
    show (z2 (z2 (z2 (z2 (z2 (z2 v.1 1214 (16 * i + n) nm) 1215 (16 * i + n) ki) 1216 (16 * i + n) b) 1217 (16 * i + n) df) 1218 (16 * i + n) fo) 1204 i (nI (n + 1)) 1204 o).toNatClampNeg = _
    rw [z2_n _ _ (Or.inr ho), z2_n _ _ (Or.inl (by decide)), z2_n _ _ (Or.inl (by decide)), z2_n _ _ (Or.inl (by decide)), z2_n _ _ (Or.inl (by decide)), z2_n _ _ (Or.inl (by decide))]
  have hcs : ∀ id k, id ≠ 1214 → id ≠ 1215 → id ≠ 1216 → id ≠ 1217 → id ≠ 1218 → id ≠ 1204 → cn v' id k = cn v id k := fun id k a1214 a1215 a1216 a1217 a1218 a1204 => by
    unfold cn
    rw [hv1 id k a1214 a1215 a1216 a1217 a1218 a1204]
  have hv22 : v'.2 = v.2 := by rw [ev]
  have hnew : rpY v' W' (16 * i + n) := by
    have e0 : v'.1 1214 (16 * i + n) = nm := by
      rw [ev]
      show z2 (z2 (z2 (z2 (z2 (z2 v.1 1214 (16 * i + n) nm) 1215 (16 * i + n) ki) 1216 (16 * i + n) b) 1217 (16 * i + n) df) 1218 (16 * i + n) fo) 1204 i (nI (n + 1)) 1214 (16 * i + n) = _
      rw [z2_n _ _ (Or.inl (by decide)), z2_n _ _ (Or.inl (by decide)), z2_n _ _ (Or.inl (by decide)), z2_n _ _ (Or.inl (by decide)), z2_n _ _ (Or.inl (by decide)), z2_s]
    have e1 : v'.1 1215 (16 * i + n) = ki := by
      rw [ev]
      show z2 (z2 (z2 (z2 (z2 (z2 v.1 1214 (16 * i + n) nm) 1215 (16 * i + n) ki) 1216 (16 * i + n) b) 1217 (16 * i + n) df) 1218 (16 * i + n) fo) 1204 i (nI (n + 1)) 1215 (16 * i + n) = _
      rw [z2_n _ _ (Or.inl (by decide)), z2_n _ _ (Or.inl (by decide)), z2_n _ _ (Or.inl (by decide)), z2_n _ _ (Or.inl (by decide)), z2_s]
    have e2 : v'.1 1216 (16 * i + n) = b := by
      rw [ev]
      show z2 (z2 (z2 (z2 (z2 (z2 v.1 1214 (16 * i + n) nm) 1215 (16 * i + n) ki) 1216 (16 * i + n) b) 1217 (16 * i + n) df) 1218 (16 * i + n) fo) 1204 i (nI (n + 1)) 1216 (16 * i + n) = _
      rw [z2_n _ _ (Or.inl (by decide)), z2_n _ _ (Or.inl (by decide)), z2_n _ _ (Or.inl (by decide)), z2_s]
    have e3 : v'.1 1217 (16 * i + n) = df := by
      rw [ev]
      show z2 (z2 (z2 (z2 (z2 (z2 v.1 1214 (16 * i + n) nm) 1215 (16 * i + n) ki) 1216 (16 * i + n) b) 1217 (16 * i + n) df) 1218 (16 * i + n) fo) 1204 i (nI (n + 1)) 1217 (16 * i + n) = _
      rw [z2_n _ _ (Or.inl (by decide)), z2_n _ _ (Or.inl (by decide)), z2_s]
    have e4 : v'.1 1218 (16 * i + n) = fo := by
      rw [ev]
      show z2 (z2 (z2 (z2 (z2 (z2 v.1 1214 (16 * i + n) nm) 1215 (16 * i + n) ki) 1216 (16 * i + n) b) 1217 (16 * i + n) df) 1218 (16 * i + n) fo) 1204 i (nI (n + 1)) 1218 (16 * i + n) = _
      rw [z2_n _ _ (Or.inl (by decide)), z2_s]
    unfold rpY oa oi oq cn
    rw [hc0, e0, e1, e2, e3, e4, hFm, hFd]
    exact ⟨trivial, rfl, rfl, rfl, rfl, rfl, rfl, rfl⟩
  rw [← ev]
  refine h.mk2 (y1.ext (fun c hc k1 k2 => hkp c hc (fun e => k1 (by rw [e]; exact hkl)) (fun e => k2 (by rw [e]; exact hkl1))) hal (fun c hc hnc id hid hk => ?_)) (hW 2 (by omega) (by omega) (by omega)) (hW 4 (by omega) (by omega) (by omega)) (hW 5 (by omega) (by omega) (by omega)) (hW 14 (by omega) (by omega) (by omega)) (hW 58 (by omega) (by omega) (by omega)) (fun d d1 d2 => hW d (by omega) (by omega) (by omega)) (fun id k hid => hv1 id k (by omega) (by omega) (by omega) (by omega) (by omega) (by omega)) hv22 (fun o ho => ?_) (fun f_ hf hf2 => ?_) (fun g hg hg2 => ?_) (fun y hy hy2 => ?_) (fun c hc => ?_)
  · have h9 := wL_9 id hid
    have hw := wL_k id hid
    have hkg := kd_y (16 * i + n) (by omega)
    exfalso
    by_cases e0 : c = (900 + 2 * (16 * i + n))
    · exact h9.1 (by rw [← hk, e0]; exact hkg)
    · by_cases f1 : c = (100 + 8 * i + 6)
      · exact hw.1 (by rw [← hk, f1]; exact hkl)
      · by_cases f2 : c = (100 + 8 * i + 6) + 1
        · exact hw.2.1 (by rw [← hk, f2]; exact hkl1)
        · exact hnc (oa_same (hW c e0 f1 f2) hc)
  · have hU := y4 o ho
    by_cases e : o = i
    · subst e
      refine ⟨hal _ hU.1, ?_, ?_, ?_⟩
      · rw [hcs 1202 o (by decide) (by decide) (by decide) (by decide) (by decide) (by decide)]
        exact hU.2.1.same (hW _ (by omega) (by omega) (by omega)) (hW _ (by omega) (by omega) (by omega))
      · rw [hcs 1203 o (by decide) (by decide) (by decide) (by decide) (by decide) (by decide)]
        exact hU.2.2.1.same (hW _ (by omega) (by omega) (by omega)) (hW _ (by omega) (by omega) (by omega))
      · rw [hc1]; exact hl
    · exact hU.same (fun id hid => by
        by_cases e9 : id = 1204
        · rw [e9, ev]
          show z2 (z2 (z2 (z2 (z2 (z2 v.1 1214 (16 * i + n) nm) 1215 (16 * i + n) ki) 1216 (16 * i + n) b) 1217 (16 * i + n) df) 1218 (16 * i + n) fo) 1204 i (nI (n + 1)) 1204 o = _
          rw [z2_n _ _ (Or.inr e), z2_n _ _ (Or.inl (by decide)), z2_n _ _ (Or.inl (by decide)), z2_n _ _ (Or.inl (by decide)), z2_n _ _ (Or.inl (by decide)), z2_n _ _ (Or.inl (by decide))]
        · exact hv1 id o (by omega) (by omega) (by omega) (by omega) (by omega) e9) (fun k hk => hW _ (by omega) (by omega) (by omega))
  · rw [hcs 1202 _ (by decide) (by decide) (by decide) (by decide) (by decide) (by decide)] at hf2
    exact (y5 f_ hf hf2).same (fun id hid => hv1 id f_ (by omega) (by omega) (by omega) (by omega) (by omega) (by omega)) (fun k2 hk => ⟨hv1 1209 _ (by decide) (by decide) (by decide) (by decide) (by decide) (by decide), hv1 1210 _ (by decide) (by decide) (by decide) (by decide) (by decide) (by decide)⟩) (fun k2 hk => hW _ (by omega) (by omega) (by omega))
  · rw [hcs 1203 _ (by decide) (by decide) (by decide) (by decide) (by decide) (by decide)] at hg2
    exact (y6 g hg hg2).same (hv1 1211 g (by decide) (by decide) (by decide) (by decide) (by decide) (by decide)) (hv1 1212 g (by decide) (by decide) (by decide) (by decide) (by decide) (by decide)) (fun k2 hk => hv1 1213 _ (by decide) (by decide) (by decide) (by decide) (by decide) (by decide)) (hW _ (by omega) (by omega) (by omega)) (hW _ (by omega) (by omega) (by omega))
  · by_cases e : y = (16 * i + n)
    · subst e
      exact hnew
    · have hf3 : y % 16 < cn v 1204 (y / 16) := by
        by_cases e2 : y / 16 = i
        · rw [e2, hc1] at hy2
          rw [e2, hcn]
          omega
        · rw [hc2 _ e2] at hy2
          exact hy2
      exact (y7 y hy hf3).same (fun id hid => hv2 id y e (Or.inr (by omega))) (hW _ (by omega) (by omega) (by omega))
  · unfold rpN
    by_cases hb : (900 + 2 * (16 * i + n)) ≤ c ∧ c < (900 + 2 * (16 * i + n)) + 2
    · refine Or.inr (Or.inr (Or.inr (Or.inr ⟨by omega, by omega, ?_⟩)))
      rw [show (c - 900) / 2 = (16 * i + n) by omega, hFm, hFd, hc1]
      omega
    · have hcW : oa W c ∨ c = (100 + 8 * i + 6) + 1 ∨ c = (100 + 8 * i + 6) := by
        by_cases f1 : c = (100 + 8 * i + 6)
        · exact Or.inr (Or.inr f1)
        · by_cases f2 : c = (100 + 8 * i + 6) + 1
          · exact Or.inr (Or.inl f2)
          · exact Or.inl (oa_same (hW c (by omega) f1 f2) hc)
      rcases hcW with hcW | hcW
      · rcases y8 c hcW with r | r | r | r | r
        · exact Or.inl r
        · exact Or.inr (Or.inl (by rw [hcs 1201 0 (by decide) (by decide) (by decide) (by decide) (by decide) (by decide)]; exact r))
        · exact Or.inr (Or.inr (Or.inl (by rw [hcs 1202 _ (by decide) (by decide) (by decide) (by decide) (by decide) (by decide)]; exact r)))
        · exact Or.inr (Or.inr (Or.inr (Or.inl (by rw [hcs 1203 _ (by decide) (by decide) (by decide) (by decide) (by decide) (by decide)]; exact r))))
        · refine Or.inr (Or.inr (Or.inr (Or.inr ⟨r.1, r.2.1, ?_⟩)))
          by_cases e2 : (c - 900) / 2 / 16 = i
          · have r3 := r.2.2
            rw [e2, hcn] at r3
            rw [e2, hc1]
            omega
          · rw [hc2 _ e2]
            exact r.2.2
      · exact Or.inr (Or.inl ⟨by omega, by omega, by rw [hcs 1201 0 (by decide) (by decide) (by decide) (by decide) (by decide) (by decide)]; omega⟩)
