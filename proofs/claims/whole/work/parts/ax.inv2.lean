/-- F stands where the code check saw it; r values are awaited -/
def pOK (v : zV) (F : aF) (r : Nat) : Prop := bl9 v (ff F) (fa F) (fn F) (fo F) (fb F) ∧ (kw v (ff F) (fa F) = 27 → fh F + r = kb (kq v (ff F) (fa F)) (fn F) + kl (kq v (ff F) (fa F)) (fn F)) ∧ (¬ kw v (ff F) (fa F) = 27 → kdd (kq v (ff F) (fa F)) (fn F) = false ∧ fh F + r = kh (kq v (ff F) (fa F)))
def fOK (v : zV) (F : aF) (r : Nat) : Prop := tF v (ff F) ∧ fa F ≤ cn v 1208 (ff F) ∧ fh F + r ≤ fa F ∧ fn F ≤ fa F ∧ (fa F < cn v 1208 (ff F) → pOK v F r) ∧ (fa F = cn v 1208 (ff F) → cn v 1206 (ff F) ≤ fh F + r)
def lOK (v : zV) : Nat → List aF → Prop
  | _, [] => True
  | r, F :: Fs => fOK v F r ∧ lOK v (cn v 1206 (ff F)) Fs
def aOK (v : zV) (A : aM) : Prop := lOK v 0 A.1 ∧ A.1.length ≤ 40 ∧ A.2.2.1 ≤ 40
section ZAO
variable {v : zV} {Ss : List Nat} {F G : aF} {Fs : List aF} {U : aU} {r : Nat}
theorem fOK.cg (h : fOK v F r) {s : Nat} (h1 : ff G = ff F) (h2 : fa G = fa F) (h3 : fh G + s = fh F + r) (h4 : fn G = fn F) (h5 : fo G = fo F) (h6 : fb G = fb F) : fOK v G s := by
  unfold fOK pOK at h ⊢
  rw [h1, h2, h3, h4, h5, h6]
  exact h
/-- alive: good -/
theorem fOK.al (h : sOK v Ss) (hf : tF v (ff F)) (hk : fa F ≤ cn v 1208 (ff F)) (hl : al9 v (ff F) (fa F) (fn F) (fo F) (fb F)) (hh : fh F + r = kh (kq v (ff F) (fa F))) : fOK v F r := by
  obtain ⟨i1, i2, i3⟩ := kq_I h hf _ hk
  have hn := hl.1.1
  have hb : kb (kq v (ff F) (fa F)) (fn F) ≤ kh (kq v (ff F) (fa F)) := i1.bh (by omega)
  have hn2 := i1.2.1
  refine ⟨hf, hk, by omega, by omega, fun hlt => ⟨hl.1, fun hw => ?_, fun hw => ⟨hl.2, hh⟩⟩, fun he => ?_⟩
  · rw [hh]
    exact hl.ed (h.c hf) hlt hb (Or.inl hw)
  · have hc := (h.c hf).2
    rw [← he] at hc
    have hn0 : fn F = 0 := by omega
    have hd := hl.2
    rw [hn0] at hd
    obtain ⟨c1, c2⟩ := hc
    unfold kC at c2
    rw [show kn (kq v (ff F) (fa F)) - 1 = 0 by omega, hd, (kq_0 (h.c hf) _ hk).1, (kq_0 (h.c hf) _ hk).2] at c2
    rw [hh]
    split at c2
    · rename_i h9
      rcases h9 with h9 | h9
      · omega
      · exact absurd h9.1 (by decide)
    · cases c2
theorem fOK.w (h : fOK v F 0) (hk : fa F < cn v 1208 (ff F)) (hw : ¬ kw v (ff F) (fa F) = 27) : al9 v (ff F) (fa F) (fn F) (fo F) (fb F) ∧ fh F = kh (kq v (ff F) (fa F)) := ⟨⟨(h.2.2.2.2.1 hk).1, ((h.2.2.2.2.1 hk).2.2 hw).1⟩, ((h.2.2.2.2.1 hk).2.2 hw).2⟩
/-- the values that a word takes are there -/
theorem fOK.pv (h : fOK v F 0) (hs : sOK v Ss) (hk : fa F < cn v 1208 (ff F)) (hw : ¬ kw v (ff F) (fa F) = 27) : pp v (ff F / 8) (kw v (ff F) (fa F)) (v.1 1210 (60 * ff F + fa F)) ≤ fh F - kb (kq v (ff F) (fa F)) (fn F) := by
  obtain ⟨hl, hh⟩ := h.w hk hw
  have hn : kn (kq v (ff F) (fa F)) - 1 = fn F := by rw [hl.1.1]; rfl
  have := (kq_2 (hs.c h.1) hk (by rw [hn]; exact hl.2)).1
  rw [hn] at this
  rw [hh]
  exact this
/-- a plain word -/
theorem fOK.st (h : fOK v F 0) (hs : sOK v Ss) (hk : fa F < cn v 1208 (ff F)) (hw : ¬ (23 ≤ kw v (ff F) (fa F) ∧ kw v (ff F) (fa F) ≤ 30)) : al9 v (ff F) (fa F + 1) (fn F) (fo F) (fb F) ∧ kh (kq v (ff F) (fa F + 1)) = fh F - pp v (ff F / 8) (kw v (ff F) (fa F)) (v.1 1210 (60 * ff F + fa F)) + pu v (ff F / 8) (kw v (ff F) (fa F)) (v.1 1210 (60 * ff F + fa F)) := by
  obtain ⟨hl, hh⟩ := h.w hk (by omega)
  have hn : kn (kq v (ff F) (fa F)) - 1 = fn F := by rw [hl.1.1]; rfl
  have h2 := (kq_2 (hs.c h.1) hk (by rw [hn]; exact hl.2)).2
  rw [kS2_d hw] at h2
  have e := (Option.some.inj h2).symm
  unfold al9 bl9
  rw [e, hh]
  exact ⟨hl, rfl⟩
theorem fOK.st1 (h : fOK v F 0) (hs : sOK v Ss) (hk : fa F < cn v 1208 (ff F)) (hw : ¬ (23 ≤ kw v (ff F) (fa F) ∧ kw v (ff F) (fa F) ≤ 30)) (h1 : ff G = ff F) (h2 : fa G = fa F + 1) (h3 : fh G + r = fh F - pp v (ff F / 8) (kw v (ff F) (fa F)) (v.1 1210 (60 * ff F + fa F)) + pu v (ff F / 8) (kw v (ff F) (fa F)) (v.1 1210 (60 * ff F + fa F))) (h4 : fn G = fn F) (h5 : fo G = fo F) (h6 : fb G = fb F) : fOK v G r := by
  obtain ⟨q1, q2⟩ := h.st hs hk hw
  refine fOK.al hs (by rw [h1]; exact h.1) (by rw [h1, h2]; omega) ?_ ?_
  · rw [h1, h2, h4, h5, h6]; exact q1
  · rw [h1, h2, h3, q2]
/-- a BRIF that isn't taken -/
theorem fOK.nb (h : fOK v F 0) (hs : sOK v Ss) (hk : fa F < cn v 1208 (ff F)) (hw : kw v (ff F) (fa F) = 29) (h1 : ff G = ff F) (h2 : fa G = fa F + 1) (h3 : fh G = fh F - 1) (h4 : fn G = fn F) (h5 : fo G = fo F) (h6 : fb G = fb F) : fOK v G 0 := by
  obtain ⟨hl, hh⟩ := h.w hk (by omega)
  have hn : kn (kq v (ff F) (fa F)) - 1 = fn F := by rw [hl.1.1]; rfl
  have hd : kdd (kq v (ff F) (fa F)) (kn (kq v (ff F) (fa F)) - 1) = false := by rw [hn]; exact hl.2
  have h2 := (kq_2 (hs.c h.1) hk hd).2
  rw [hw, show pp v (ff F / 8) 29 (v.1 1210 (60 * ff F + fa F)) = 1 from rfl, show pu v (ff F / 8) 29 (v.1 1210 (60 * ff F + fa F)) = 0 from rfl, kS2_b (Or.inr rfl) rfl] at h2
  split at h2
  · rename_i hq
    have hq2 := hq.2.resolve_right (fun h9 => by rw [show kdd (setH (kq v (ff F) (fa F)) (kh (kq v (ff F) (fa F)) - 1 + 0)) (kn (setH (kq v (ff F) (fa F)) (kh (kq v (ff F) (fa F)) - 1 + 0)) - 1) = false from hd] at h9; cases h9)
    rw [if_pos hq2] at h2
    have e := (Option.some.inj h2).symm
    have e2 : kq v (ff F) (fa F + 1) = setH (kq v (ff F) (fa F)) (kh (kq v (ff F) (fa F)) - 1) := by
      refine e.trans ?_
      show setH (kq v (ff F) (fa F)) (kh (kq v (ff F) (fa F)) - 1 - _ + _) = _
      rw [Nat.sub_add_cancel (show _ ≤ kh (kq v (ff F) (fa F)) - 1 from Nat.le_trans hq2 (Nat.sub_le _ _))]
    refine fOK.al hs (by rw [h1]; exact h.1) (by rw [h1, ‹fa G = fa F + 1›]; omega) ?_ ?_
    · rw [h1, ‹fa G = fa F + 1›, h4, h5, h6]
      unfold al9 bl9
      rw [e2]
      exact hl
    · rw [h1, ‹fa G = fa F + 1›, h3, e2, hh]
      rfl
  · cases h2
/-- a block is opened -/
theorem fOK.op (h : fOK v F 0) (hs : sOK v Ss) (hk : fa F < cn v 1208 (ff F)) (hw : 23 ≤ kw v (ff F) (fa F) ∧ kw v (ff F) (fa F) ≤ 25) (h1 : ff G = ff F) (h2 : fa G = fa F + 1) (h3 : fh G = fh F - pTb.getD (kw v (ff F) (fa F)) 0) (h4 : fn G = fn F + 1) (h5 : fo G = va_up (fo F) (fn F) (fa F)) (h6 : fb G = va_up (fb F) (fn F) (fh F - pTb.getD (kw v (ff F) (fa F)) 0)) : fOK v G 0 := by
  obtain ⟨hl, hh⟩ := h.w hk (by omega)
  have hpp := h.pv hs hk (by omega)
  rw [(pp_t (w := kw v (ff F) (fa F)) (by omega) (by omega)).1] at hpp
  have hn := hl.1.1
  have hX : kX (kq v (ff F) (fa F)) (pTb.getD (kw v (ff F) (fa F)) 0) = fh F - pTb.getD (kw v (ff F) (fa F)) 0 := by
    unfold kX
    rw [if_pos (by rw [show kn (kq v (ff F) (fa F)) - 1 = fn F by omega, ← hh]; exact hpp), hh]
  have ho := (kq_1 (hs.c h.1) hk).op hw
  have hn2 := (kq_1 (hs.c h.1) hk).n.1 hw
  have hop := (kOpn_all (hs.c h.1) (fa F + 1) (by omega)).2 (fn F + 1) (by omega) (by omega)
  rw [← hn, ho.1, hn] at hop
  have hcg : al9 v (ff F) (fa F) (fn F) (va_up (fo F) (fn F) (fa F)) (va_up (fb F) (fn F) (fh F - pTb.getD (kw v (ff F) (fa F)) 0)) := hl.cg (fun j hj => ⟨va_up_ne _ _ (by omega), va_up_ne _ _ (by omega)⟩)
  have hb := hcg.opn hop (by omega) (va_up_self _ _ _) (by rw [va_up_self, hX]) (by omega)
  refine fOK.al hs (by rw [h1]; exact h.1) (by rw [h1, h2]; omega) ?_ ?_
  · rw [h1, h2, h4, h5, h6]
    refine ⟨hb, ?_⟩
    have := ho.2.2.2.1
    rw [hn] at this
    exact this
  · rw [h1, h2, h3, ← hX]
    exact ho.2.2.2.2.2.symm
/-- an IF that isn't taken, with an ELSE -/
theorem fOK.ix (h : fOK v F 0) (hs : sOK v Ss) (hk : fa F < cn v 1208 (ff F)) (hw : kw v (ff F) (fa F) = 25) {x : Nat} (hx : clX v (ff F) (fa F) = some x) (h1 : ff G = ff F) (h2 : fa G = x + 1) (h3 : fh G = fh F - 1) (h4 : fn G = fn F + 1) (h5 : fo G = va_up (fo F) (fn F) (fa F)) (h6 : fb G = va_up (fb F) (fn F) (fh F - 1)) : fOK v G 0 := by
  obtain ⟨hl, hh⟩ := h.w hk (by omega)
  have hpp := h.pv hs hk (by omega)
  rw [(pp_t (w := kw v (ff F) (fa F)) (by omega) (by omega)).1, hw, show pTb.getD 25 0 = 1 from rfl] at hpp
  have hn := hl.1.1
  have hX : kX (kq v (ff F) (fa F)) (pTb.getD (kw v (ff F) (fa F)) 0) = fh F - 1 := by
    unfold kX
    rw [hw, show pTb.getD 25 0 = 1 from rfl, if_pos (by rw [show kn (kq v (ff F) (fa F)) - 1 = fn F by omega, ← hh]; exact hpp), hh]
  have hC := clE_c (hs.c h.1) hk (by omega)
  obtain ⟨o1, o2, o3, o4, o5, o6, o7, o8, o9, o10⟩ := hC.2.2.2.2
  have hx2 : ke (kq v (ff F) (clE v (ff F) (fa F))) (kn (kq v (ff F) (fa F))) = some x := hx
  obtain ⟨x1, x2, x3, x4, x5⟩ := o10 x hx2
  have hxs : x < cn v 1208 (ff F) := by have := hC.2.1; omega
  obtain ⟨e1, e2, e3, e4, e5⟩ := kEl_2 (hs.c h.1) hxs x3
  have hpx : ko (kq v (ff F) x) (kn (kq v (ff F) (fa F))) = fa F := (o8 x x1 (by omega)).2
  rw [show kn (kq v (ff F) x) - 1 = kn (kq v (ff F) (fa F)) by omega] at e2 e3 e4 e5
  rw [hpx, hn] at e4
  have hq := kq_1 (hs.c h.1) hxs
  have hu := hq.up (by omega)
  rw [show kn (kq v (ff F) x) - 1 = fn F + 1 by omega] at hu
  have hkn := hq.n.2.2 (by omega) (by omega)
  have hcg : al9 v (ff F) (fa F) (fn F) (va_up (fo F) (fn F) (fa F)) (va_up (fb F) (fn F) (fh F - 1)) := hl.cg (fun j hj => ⟨va_up_ne _ _ (by omega), va_up_ne _ _ (by omega)⟩)
  have hb := hcg.opn e4 (by omega) (va_up_self _ _ _) (by rw [va_up_self, hX]) (by omega)
  refine fOK.al hs (by rw [h1]; exact h.1) (by rw [h1, h2]; omega) ?_ ?_
  · rw [h1, h2, h4, h5, h6]
    exact ⟨hb, (hu.2.2.2.1 x3).1⟩
  · rw [h1, h2, h3, ← hX, (hq.2.1 x3)]
    show _ = kb (kq v (ff F) x) (kn (kq v (ff F) x) - 1)
    rw [show kn (kq v (ff F) x) - 1 = fn F + 1 by omega, ← hu.2.2.1]
    exact e4.2.2.2.2.1.symm
/-- without one -/
theorem fOK.io (h : fOK v F 0) (hs : sOK v Ss) (hk : fa F < cn v 1208 (ff F)) (hw : kw v (ff F) (fa F) = 25) (hx : clX v (ff F) (fa F) = none) (h1 : ff G = ff F) (h2 : fa G = clE v (ff F) (fa F) + 1) (h3 : fh G = fh F - 1) (h4 : fn G = fn F) (h5 : fo G = fo F) (h6 : fb G = fb F) : fOK v G 0 := by
  obtain ⟨hl, hh⟩ := h.w hk (by omega)
  have hpp := h.pv hs hk (by omega)
  rw [(pp_t (w := kw v (ff F) (fa F)) (by omega) (by omega)).1, hw, show pTb.getD 25 0 = 1 from rfl] at hpp
  have hn := hl.1.1
  have hX : kX (kq v (ff F) (fa F)) (pTb.getD (kw v (ff F) (fa F)) 0) = fh F - 1 := by
    unfold kX
    rw [hw, show pTb.getD 25 0 = 1 from rfl, if_pos (by rw [show kn (kq v (ff F) (fa F)) - 1 = fn F by omega, ← hh]; exact hpp), hh]
  have hC := clE_c (hs.c h.1) hk (by omega)
  obtain ⟨q1, q2⟩ := hl.fin (hs.c h.1) hC
  have hx2 : ke (kq v (ff F) (clE v (ff F) (fa F))) (kn (kq v (ff F) (fa F))) = none := hx
  have h0 : ka v (ff F) (fa F) = 0 := by
    have hss := kq_s (hs.c h.1) hC.2.1
    rw [kSt_x v (ff F) _ (kq v (ff F) (clE v (ff F) (fa F))) rfl rfl, show cn v 1209 (60 * ff F + clE v (ff F) (fa F)) = 27 from hC.2.2.1] at hss
    split at hss
    · rw [kS2_n] at hss
      split at hss
      · rename_i h9
        have h8 := h9.2.1
        have hne : kn (kq v (ff F) (clE v (ff F) (fa F))) - 1 = kn (kq v (ff F) (fa F)) := by rw [hC.2.2.2.1]; rfl
        have h7 : ¬ (bw v (ff F) (kq v (ff F) (clE v (ff F) (fa F))) (kn (kq v (ff F) (clE v (ff F) (fa F))) - 1) = 25 ∧ ke (kq v (ff F) (clE v (ff F) (fa F))) (kn (kq v (ff F) (clE v (ff F) (fa F))) - 1) = none ∧ 0 < kl (kq v (ff F) (clE v (ff F) (fa F))) (kn (kq v (ff F) (clE v (ff F) (fa F))) - 1)) := h8
        rw [hne] at h7
        have ho := hC.2.2.2.2
        have hb25 : bw v (ff F) (kq v (ff F) (clE v (ff F) (fa F))) (kn (kq v (ff F) (fa F))) = 25 := by
          unfold bw
          rw [if_neg (by omega), (ho.2.2.2.2.2.2.2.1 _ ho.1 (Nat.le_refl _)).2]
          exact hw
        rw [← ho.2.2.2.2.2.1]
        exact Nat.eq_zero_of_not_pos (fun h6 => h7 ⟨hb25, hx2, h6⟩)
      · cases hss
    · cases hss
  refine fOK.al hs (by rw [h1]; exact h.1) (by rw [h1, h2]; have := hC.2.1; omega) ?_ ?_
  · rw [h1, h2, h4, h5, h6]; exact q1
  · rw [h1, h2, h3, q2, hX, h0]
/-- an ELSE that is reached -/
theorem fOK.el (h : fOK v F 0) (hs : sOK v Ss) (hk : fa F < cn v 1208 (ff F)) (hw : kw v (ff F) (fa F) = 26) : 1 ≤ fn F ∧ fo F (fn F - 1) < cn v 1208 (ff F) ∧ (kw v (ff F) (fo F (fn F - 1)) = 25) ∧ (∀ G : aF, ff G = ff F → fa G = clE v (ff F) (fo F (fn F - 1)) → fh G = fh F → fn G = fn F → fo G = fo F → fb G = fb F → fOK v G 0) := by
  obtain ⟨hl, hh⟩ := h.w hk (by omega)
  have hn := hl.1.1
  obtain ⟨e1, e2, e3, e4, e5⟩ := kEl_2 (hs.c h.1) hk hw
  have hn1 : 1 ≤ fn F := by omega
  obtain ⟨b1, b2⟩ := hl.1.back (hs.c h.1) (by omega) (show fn F - 1 < fn F by omega)
  have hko : ko (kq v (ff F) (fa F)) (kn (kq v (ff F) (fa F)) - 1) = fo F (fn F - 1) := by
    have := (hl.1.2 (fn F - 1) (by omega)).1
    rw [show fn F - 1 + 1 = kn (kq v (ff F) (fa F)) - 1 by omega] at this
    exact this
  rw [hko] at e2
  have hp : fo F (fn F - 1) < cn v 1208 (ff F) := by have := b1.1; omega
  refine ⟨hn1, hp, e2, fun G h1 h2 h3 h4 h5 h6 => ?_⟩
  have hC := clE_c (hs.c h.1) hp (by omega)
  have hun := hC.un (hs.c h.1) b1
  obtain ⟨i1, i2, i3⟩ := kq_I hs h.1 _ h.2.1
  have hlt : fa F < clE v (ff F) (fo F (fn F - 1)) := by
    rcases Nat.lt_or_ge (fa F) (clE v (ff F) (fo F (fn F - 1))) with h9 | h9
    · exact h9
    · have h8 : fa F = clE v (ff F) (fo F (fn F - 1)) := by omega
      have h7 := hC.2.2.1
      rw [← h8] at h7
      omega
  have hkn := hC.2.2.2.1
  have ho := hC.2.2.2.2
  rw [b2.1.1] at ho hkn
  have hb := b2.opn ho (by omega) rfl (by rw [← (hl.1.2 (fn F - 1) (by omega)).2.1]; exact b1.2.2.2.2.1) (by have := hC.2.1; omega)
  rw [show fn F - 1 + 1 = fn F by omega] at hb ho b1
  have hhe := hl.ed (hs.c h.1) hk (i1.bh (by omega)) (Or.inr hw)
  refine ⟨by rw [h1]; exact h.1, by rw [h1, h2]; have := hC.2.1; omega, by rw [h2, h3]; have := h.2.2.1; omega, by rw [h2, h4]; have := h.2.2.2.1; omega, fun _ => ⟨by rw [h1, h2, h4, h5, h6]; exact hb, fun _ => ?_, fun h9 => absurd (by rw [h1, h2]; exact hC.2.2.1) h9⟩, fun h9 => by rw [h1, h2] at h9; have := hC.2.1; omega⟩
  rw [h1, h2, h3, h4, hh, hhe, ho.2.2.2.2.1, ho.2.2.2.2.2.1, b1.2.2.2.2.1, b1.2.2.2.2.2.1]
  rfl
/-- an END that is reached -/
theorem fOK.en (h : fOK v F 0) (hs : sOK v Ss) (hk : fa F < cn v 1208 (ff F)) (hw : kw v (ff F) (fa F) = 27) : 1 ≤ fn F ∧ (∀ G : aF, ff G = ff F → fa G = fa F + 1 → fh G = fh F → fn G = fn F - 1 → fo G = fo F → fb G = fb F → fOK v G 0) := by
  obtain ⟨hb, h27, _⟩ := h.2.2.2.2.1 hk
  have hn := hb.1
  obtain ⟨e1, e2⟩ := kCl_of (hs.c h.1) hk hw
  have hn1 : 1 ≤ fn F := by omega
  refine ⟨hn1, fun G h1 h2 h3 h4 h5 h6 => ?_⟩
  have hko := (hb.2 (fn F - 1) (by omega)).1
  rw [show fn F - 1 + 1 = kn (kq v (ff F) (fa F)) - 1 by omega] at hko
  rw [hko] at e2
  obtain ⟨b1, b2⟩ := hb.back (hs.c h.1) (by omega) (show fn F - 1 < fn F by omega)
  obtain ⟨q1, q2⟩ := b2.fin (hs.c h.1) e2
  refine fOK.al hs (by rw [h1]; exact h.1) (by rw [h1, h2]; omega) (by rw [h1, h2, h4, h5, h6]; exact q1) ?_
  rw [h1, h2, h3, q2]
  rw [show fn F - 1 + 1 = fn F by omega] at b1
  rw [h27 hw, b1.2.2.2.2.1, b1.2.2.2.2.2.1]
end ZAO
