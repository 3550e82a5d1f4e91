section ZSW
variable {v : zV} {Ss : List Nat} {F : aF} {Fs : List aF} {U : aU}
theorem aSp_r (hw : 3 ≤ kw v (ff F) (fa F) ∧ kw v (ff F) (fa F) ≤ 16) : aSp v Ss F Fs U = ((if badQ (kw v (ff F) (fa F)) (fv F (fh F - 2)) (fv F (fh F - 1)) then (2, F :: Fs, U) else (0, fPu (fDr (fGo F (fa F + 1)) 2) (wkd (kw v (ff F) (fa F)) (fv F (fh F - 2)) (fv F (fh F - 1))) :: Fs, U))) := if_pos hw
theorem aSp_0 (hw : kw v (ff F) (fa F) = 0) : aSp v Ss F Fs U = ((0, fPu (fGo F (fa F + 1)) (v.1 1210 (60 * ff F + fa F)).toInt64 :: Fs, U)) := by
  show aSw v Ss (kw v (ff F) (fa F)) _ _ F _ Fs U = _
  rw [hw]
  rfl
theorem aSp_1 (hw : kw v (ff F) (fa F) = 1) : aSp v Ss F Fs U = ((0, fPu (fGo F (fa F + 1)) (fc F (ka v (ff F) (fa F))) :: Fs, U)) := by
  show aSw v Ss (kw v (ff F) (fa F)) _ _ F _ Fs U = _
  rw [hw]
  rfl
theorem aSp_2 (hw : kw v (ff F) (fa F) = 2) : aSp v Ss F Fs U = ((0, fLo (fDr (fGo F (fa F + 1)) 1) (ka v (ff F) (fa F)) (fv F (fh F - 1)) :: Fs, U)) := by
  show aSw v Ss (kw v (ff F) (fa F)) _ _ F _ Fs U = _
  rw [hw]
  rfl
theorem aSp_17 (hw : kw v (ff F) (fa F) = 17) : aSp v Ss F Fs U = ((0, fPu (fDr (fGo F (fa F + 1)) 3) (if fv F (fh F - 1) = 0 then fv F (fh F - 2) else fv F (fh F - 3)) :: Fs, U)) := by
  show aSw v Ss (kw v (ff F) (fa F)) _ _ F _ Fs U = _
  rw [hw]
  rfl
theorem aSp_18 (hw : kw v (ff F) (fa F) = 18) : aSp v Ss F Fs U = ((0, fDr (fGo F (fa F + 1)) 1 :: Fs, U)) := by
  show aSw v Ss (kw v (ff F) (fa F)) _ _ F _ Fs U = _
  rw [hw]
  rfl
theorem aSp_19 (hw : kw v (ff F) (fa F) = 19) : aSp v Ss F Fs U = ((if outP (fv F (fh F - 1)) (ka v (ff F) (fa F)) 8 then (3, F :: Fs, U) else (0, fPu (fDr (fGo F (fa F + 1)) 1) (ldR U.1 ((fv F (fh F - 1)).toInt.toNat + (ka v (ff F) (fa F))) 8 8) :: Fs, U))) := by
  show aSw v Ss (kw v (ff F) (fa F)) _ _ F _ Fs U = _
  rw [hw]
  rfl
theorem aSp_21 (hw : kw v (ff F) (fa F) = 21) : aSp v Ss F Fs U = ((if outP (fv F (fh F - 1)) (ka v (ff F) (fa F)) 1 then (3, F :: Fs, U) else (0, fPu (fDr (fGo F (fa F + 1)) 1) (ldR U.1 ((fv F (fh F - 1)).toInt.toNat + (ka v (ff F) (fa F))) 1 1) :: Fs, U))) := by
  show aSw v Ss (kw v (ff F) (fa F)) _ _ F _ Fs U = _
  rw [hw]
  rfl
theorem aSp_20 (hw : kw v (ff F) (fa F) = 20) : aSp v Ss F Fs U = ((if outP (fv F (fh F - 2)) (ka v (ff F) (fa F)) 8 then (3, F :: Fs, U) else (0, fDr (fGo F (fa F + 1)) 2 :: Fs, pB U.1 ((fv F (fh F - 2)).toInt.toNat + (ka v (ff F) (fa F))) (fv F (fh F - 1)) 8, U.2))) := by
  show aSw v Ss (kw v (ff F) (fa F)) _ _ F _ Fs U = _
  rw [hw]
  rfl
theorem aSp_22 (hw : kw v (ff F) (fa F) = 22) : aSp v Ss F Fs U = ((if outP (fv F (fh F - 2)) (ka v (ff F) (fa F)) 1 then (3, F :: Fs, U) else (0, fDr (fGo F (fa F + 1)) 2 :: Fs, pB U.1 ((fv F (fh F - 2)).toInt.toNat + (ka v (ff F) (fa F))) (fv F (fh F - 1)) 1, U.2))) := by
  show aSw v Ss (kw v (ff F) (fa F)) _ _ F _ Fs U = _
  rw [hw]
  rfl
theorem aSp_23 (hw : kw v (ff F) (fa F) = 23) : aSp v Ss F Fs U = ((0, fOp (fGo F (fa F + 1)) (fa F) :: Fs, U)) := by
  show aSw v Ss (kw v (ff F) (fa F)) _ _ F _ Fs U = _
  rw [hw]
  rfl
theorem aSp_24 (hw : kw v (ff F) (fa F) = 24) : aSp v Ss F Fs U = ((0, fOp (fGo F (fa F + 1)) (fa F) :: Fs, U)) := by
  show aSw v Ss (kw v (ff F) (fa F)) _ _ F _ Fs U = _
  rw [hw]
  rfl
theorem aSp_25 (hw : kw v (ff F) (fa F) = 25) : aSp v Ss F Fs U = ((0, (if fv F (fh F - 1) = 0 then (match clX v (ff F) (fa F) with
      | some x => fGo (fOp (fDr (fGo F (fa F + 1)) 1) (fa F)) (x + 1)
      | none => fGo (fDr (fGo F (fa F + 1)) 1) (clE v (ff F) (fa F) + 1)) else fOp (fDr (fGo F (fa F + 1)) 1) (fa F)) :: Fs, U)) := by
  show aSw v Ss (kw v (ff F) (fa F)) _ _ F _ Fs U = _
  rw [hw]
  rfl
theorem aSp_26 (hw : kw v (ff F) (fa F) = 26) : aSp v Ss F Fs U = ((0, fGo F (clE v (ff F) (fo F (fn F - 1))) :: Fs, U)) := by
  show aSw v Ss (kw v (ff F) (fa F)) _ _ F _ Fs U = _
  rw [hw]
  rfl
theorem aSp_27 (hw : kw v (ff F) (fa F) = 27) : aSp v Ss F Fs U = ((0, fCu (fGo F (fa F + 1)) (fn F - 1) :: Fs, U)) := by
  show aSw v Ss (kw v (ff F) (fa F)) _ _ F _ Fs U = _
  rw [hw]
  rfl
theorem aSp_28 (hw : kw v (ff F) (fa F) = 28) : aSp v Ss F Fs U = ((0, aBr v (fGo F (fa F + 1)) (ka v (ff F) (fa F)) :: Fs, U)) := by
  show aSw v Ss (kw v (ff F) (fa F)) _ _ F _ Fs U = _
  rw [hw]
  rfl
theorem aSp_29 (hw : kw v (ff F) (fa F) = 29) : aSp v Ss F Fs U = ((0, (if fv F (fh F - 1) = 0 then fDr (fGo F (fa F + 1)) 1 else aBr v (fDr (fGo F (fa F + 1)) 1) (ka v (ff F) (fa F))) :: Fs, U)) := by
  show aSw v Ss (kw v (ff F) (fa F)) _ _ F _ Fs U = _
  rw [hw]
  rfl
theorem aSp_30 (hw : kw v (ff F) (fa F) = 30) : aSp v Ss F Fs U = ((0, fGo F (cn v 1208 (ff F)) :: Fs, U)) := by
  show aSw v Ss (kw v (ff F) (fa F)) _ _ F _ Fs U = _
  rw [hw]
  rfl
theorem aSp_31 (hw : kw v (ff F) (fa F) = 31) : aSp v Ss F Fs U = ((match fO v (16 * (ff F / 8) + (ka v (ff F) (fa F))) with
    | none => (7, F :: Fs, U)
    | some g => aCl v (fGo F (fa F + 1)) Fs U g)) := by
  show aSw v Ss (kw v (ff F) (fa F)) _ _ F _ Fs U = _
  rw [hw]
  rfl
theorem aSp_32 (hw : kw v (ff F) (fa F) = 32) : aSp v Ss F Fs U = ((if fv F (fh F - 1) < 1 ∨ (Ss.length : Int) < (fv F (fh F - 1)).toInt then (4, F :: Fs, U) else if sh v (Ss.getD ((fv F (fh F - 1)).toInt.toNat - 1) 0) = (ka v (ff F) (fa F)) then aCl v (fDr (fGo F (fa F + 1)) 1) Fs U (Ss.getD ((fv F (fh F - 1)).toInt.toNat - 1) 0) else (5, F :: Fs, U))) := by
  show aSw v Ss (kw v (ff F) (fa F)) _ _ F _ Fs U = _
  rw [hw]
  rfl
theorem aSp_33 (hw : kw v (ff F) (fa F) = 33) : aSp v Ss F Fs U = ((0, fPu (fGo F (fa F + 1)) (nI (aO v (16 * (ff F / 8) + (ka v (ff F) (fa F))))).toInt64 :: Fs, U)) := by
  show aSw v Ss (kw v (ff F) (fa F)) _ _ F _ Fs U = _
  rw [hw]
  rfl
theorem aSp_34 (hw : kw v (ff F) (fa F) = 34) : aSp v Ss F Fs U = ((0, fPu (fGo F (fa F + 1)) (nI (slN Ss (fO v (16 * (ff F / 8) + (ka v (ff F) (fa F)))))).toInt64 :: Fs, U)) := by
  show aSw v Ss (kw v (ff F) (fa F)) _ _ F _ Fs U = _
  rw [hw]
  rfl
theorem aSp_35 (hw : kw v (ff F) (fa F) = 35) : aSp v Ss F Fs U = ((0, fPu (fGo F (fa F + 1)) 1024 :: Fs, U)) := by
  show aSw v Ss (kw v (ff F) (fa F)) _ _ F _ Fs U = _
  rw [hw]
  rfl
end ZSW
section ZAP
variable {v : zV} {Ss : List Nat} {F G : aF} {Fs : List aF} {U : aU} {r : Nat}
/-- a jump: what it needs, where it leads -/
theorem fOK.br (h : fOK v F 0) (hs : sOK v Ss) (hk : fa F < cn v 1208 (ff F)) {d : Nat} (hw : (kw v (ff F) (fa F) = 28 ∧ d = 0) ∨ (kw v (ff F) (fa F) = 29 ∧ d = 1)) {a : Nat} (ha : ka v (ff F) (fa F) = a) (h1 : ff G = ff F) (h3 : fh G = fh F - d) (h4 : fn G = fn F) (h5 : fo G = fo F) (h6 : fb G = fb F) : d ≤ fh F ∧ a ≤ fn F ∧ (a = fn F → cn v 1206 (ff F) ≤ fh F - d) ∧ (a < fn F → fo F (fn F - 1 - a) < fa F ∧ (23 ≤ kw v (ff F) (fo F (fn F - 1 - a)) ∧ kw v (ff F) (fo F (fn F - 1 - a)) ≤ 25) ∧ ka v (ff F) (fo F (fn F - 1 - a)) ≤ 1 ∧ fb F (fn F - 1 - a) + (if kw v (ff F) (fo F (fn F - 1 - a)) = 24 then 0 else ka v (ff F) (fo F (fn F - 1 - a))) ≤ fh F - d) ∧ fOK v (aBr v G a) 0 := by
  obtain ⟨hl, hh⟩ := h.w hk (by omega)
  have hn := hl.1.1
  have hn1 : kn (kq v (ff F) (fa F)) - 1 = fn F := by omega
  have hd : kdd (kq v (ff F) (fa F)) (kn (kq v (ff F) (fa F)) - 1) = false := by rw [hn1]; exact hl.2
  obtain ⟨p2, h2⟩ := kq_2 (hs.c h.1) hk hd
  obtain ⟨i1, i2, i3⟩ := kq_I hs h.1 _ h.2.1
  have hsz := hs.sz h.1
  have hpd : pp v (ff F / 8) (kw v (ff F) (fa F)) (v.1 1210 (60 * ff F + fa F)) = d ∧ pu v (ff F / 8) (kw v (ff F) (fa F)) (v.1 1210 (60 * ff F + fa F)) = 0 := by
    rcases hw with ⟨e, ed⟩ | ⟨e, ed⟩
    · rw [e, ed]; exact ⟨rfl, rfl⟩
    · rw [e, ed]; exact ⟨rfl, rfl⟩
  rw [hpd.1, hpd.2, kS2_b (hw.imp (fun h9 => h9.1) (fun h9 => h9.1)) ha] at h2
  rw [hpd.1, hn1, ← hh] at p2
  split at h2
  · rename_i hq
    have ha2 : a ≤ fn F := by have h9 : ¬ kn (kq v (ff F) (fa F)) ≤ a := hq.1; omega
    have hq2 : ktk v (ff F) (setH (kq v (ff F) (fa F)) (kh (kq v (ff F) (fa F)) - d + 0)) a ≤ fh F - d - kb (kq v (ff F) (fa F)) (fn F) := by
      have h9 : ktk v (ff F) (setH (kq v (ff F) (fa F)) (kh (kq v (ff F) (fa F)) - d + 0)) a ≤ kh (kq v (ff F) (fa F)) - d - kb (kq v (ff F) (fa F)) (kn (kq v (ff F) (fa F)) - 1) := hq.2.resolve_right (fun h9 => by rw [show kdd (setH (kq v (ff F) (fa F)) (kh (kq v (ff F) (fa F)) - d + 0)) (kn (setH (kq v (ff F) (fa F)) (kh (kq v (ff F) (fa F)) - d + 0)) - 1) = false from hd] at h9; cases h9)
      rw [hn1, ← hh] at h9
      exact h9
    have hkt : ktk v (ff F) (setH (kq v (ff F) (fa F)) (kh (kq v (ff F) (fa F)) - d + 0)) a = if bw v (ff F) (kq v (ff F) (fa F)) (fn F - a) = 24 then 0 else kl (kq v (ff F) (fa F)) (fn F - a) := by
      unfold ktk
      rw [show kn (setH (kq v (ff F) (fa F)) (kh (kq v (ff F) (fa F)) - d + 0)) - 1 - a = fn F - a by rw [← hn1]]
      rfl
    rw [hkt] at hq2
    refine ⟨by omega, ha2, fun he => ?_, fun hlt => ?_, ?_⟩
    · rw [show fn F - a = 0 by omega, show bw v (ff F) (kq v (ff F) (fa F)) 0 = 0 from rfl, if_neg (by decide), (kq_0 (hs.c h.1) _ h.2.1).1] at hq2
      omega
    · obtain ⟨b1, b2⟩ := hl.1.back (hs.c h.1) h.2.1 (show fn F - 1 - a < fn F by omega)
      have hbw : bw v (ff F) (kq v (ff F) (fa F)) (fn F - a) = kw v (ff F) (fo F (fn F - 1 - a)) := by
        unfold bw
        rw [if_neg (by omega), show fn F - a = fn F - 1 - a + 1 by omega, (hl.1.2 (fn F - 1 - a) (by omega)).1]
      rw [hbw, show fn F - a = fn F - 1 - a + 1 by omega, b1.2.2.2.2.2.1] at hq2
      have hmo := i1.mono (b := fn F - 1 - a + 1) (by omega)
      rw [(hl.1.2 (fn F - 1 - a) (by omega)).2.1, hn1] at hmo
      have hbt := i1.bh (b := fn F) (by omega)
      rw [← hh] at hbt
      exact ⟨b1.1, b1.2.1, hs.a1 h.1 (by have := b1.1; omega) b1.2.1, by omega⟩
    · unfold aBr
      rw [h1, h4, h5, h6]
      by_cases he : a = fn F
      · rw [if_pos he]
        refine ⟨by rw [show ff (fGo G (cn v 1208 (ff F))) = ff F from h1]; exact h.1, by rw [show ff (fGo G (cn v 1208 (ff F))) = ff F from h1]; exact Nat.le_refl _, ?_, ?_, fun h9 => ?_, fun _ => ?_⟩
        · show fh G + 0 ≤ cn v 1208 (ff F)
          have := h.2.2.1
          omega
        · show fn G ≤ cn v 1208 (ff F)
          have := h.2.2.2.1
          omega
        · rw [show ff (fGo G (cn v 1208 (ff F))) = ff F from h1] at h9
          exact absurd h9 (Nat.lt_irrefl _)
        · show cn v 1206 (ff G) ≤ fh G + 0
          rw [h1, h3]
          rw [show fn F - a = 0 by omega, show bw v (ff F) (kq v (ff F) (fa F)) 0 = 0 from rfl, if_neg (by decide), (kq_0 (hs.c h.1) _ h.2.1).1] at hq2
          omega
      · rw [if_neg he]
        obtain ⟨b1, b2⟩ := hl.1.back (hs.c h.1) h.2.1 (show fn F - 1 - a < fn F by omega)
        have hbX := b1.2.2.2.2.1
        rw [(hl.1.2 (fn F - 1 - a) (by omega)).2.1] at hbX
        have hp : fo F (fn F - 1 - a) < cn v 1208 (ff F) := by have := b1.1; omega
        by_cases h24 : kw v (ff F) (fo F (fn F - 1 - a)) = 24
        · rw [if_pos h24]
          have hq1 := kq_1 (hs.c h.1) hp
          have hop := hq1.op b1.2.1
          have hkn := hq1.n.1 b1.2.1
          rw [b2.1.1] at hop hkn
          have hall := (kOpn_all (hs.c h.1) (fo F (fn F - 1 - a) + 1) (by omega)).2 (fn F - 1 - a + 1) (by omega) (by omega)
          rw [hop.1] at hall
          refine fOK.al hs (by rw [show ff (fGo (fKe (fCu G (fn F - 1 - a + 1)) (fb F (fn F - 1 - a)) 0) (fo F (fn F - 1 - a) + 1)) = ff F from h1]; exact h.1) (by show fo F (fn F - 1 - a) + 1 ≤ cn v 1208 (ff G); rw [h1]; omega) ?_ ?_
          · show al9 v (ff G) (fo F (fn F - 1 - a) + 1) (fn F - 1 - a + 1) (fo G) (fb G)
            rw [h1, h5, h6]
            exact ⟨b2.opn hall (by omega) rfl hbX (by omega), hop.2.2.2.1⟩
          · show fb F (fn F - 1 - a) + 0 + 0 = kh (kq v (ff G) (fo F (fn F - 1 - a) + 1))
            rw [h1, hop.2.2.2.2.2]
            exact hbX
        · rw [if_neg h24]
          have hC := clE_c (hs.c h.1) hp b1.2.1
          obtain ⟨q1, q2⟩ := b2.fin (hs.c h.1) hC
          refine fOK.al hs (by rw [show ff (fGo (fKe (fCu G (fn F - 1 - a)) (fb F (fn F - 1 - a)) (ka v (ff F) (fo F (fn F - 1 - a)))) (clE v (ff F) (fo F (fn F - 1 - a)) + 1)) = ff F from h1]; exact h.1) (by show clE v (ff F) (fo F (fn F - 1 - a)) + 1 ≤ cn v 1208 (ff G); rw [h1]; have := hC.2.1; omega) ?_ ?_
          · show al9 v (ff G) (clE v (ff F) (fo F (fn F - 1 - a)) + 1) (fn F - 1 - a) (fo G) (fb G)
            rw [h1, h5, h6]
            exact q1
          · show fb F (fn F - 1 - a) + ka v (ff F) (fo F (fn F - 1 - a)) + 0 = kh (kq v (ff G) (clE v (ff F) (fo F (fn F - 1 - a)) + 1))
            rw [h1, q2, hbX, Nat.add_zero]
  · cases h2
/-- a RETURN -/
theorem fOK.rt (h : fOK v F 0) (hs : sOK v Ss) (hk : fa F < cn v 1208 (ff F)) (hw : kw v (ff F) (fa F) = 30) : cn v 1206 (ff F) ≤ fh F ∧ fOK v (fGo F (cn v 1208 (ff F))) 0 := by
  obtain ⟨hl, hh⟩ := h.w hk (by omega)
  have hn := hl.1.1
  have hn1 : kn (kq v (ff F) (fa F)) - 1 = fn F := by omega
  have hd : kdd (kq v (ff F) (fa F)) (kn (kq v (ff F) (fa F)) - 1) = false := by rw [hn1]; exact hl.2
  obtain ⟨p2, h2⟩ := kq_2 (hs.c h.1) hk hd
  rw [hw, show pp v (ff F / 8) 30 (v.1 1210 (60 * ff F + fa F)) = 0 from rfl, show pu v (ff F / 8) 30 (v.1 1210 (60 * ff F + fa F)) = 0 from rfl, kS2_r] at h2
  split at h2
  · rename_i hq
    have hq2 : cn v 1206 (ff F) ≤ kh (kq v (ff F) (fa F)) - 0 + 0 - kb (kq v (ff F) (fa F)) (kn (kq v (ff F) (fa F)) - 1) := hq.resolve_right (fun h9 => by rw [show kdd (setH (kq v (ff F) (fa F)) (kh (kq v (ff F) (fa F)) - 0 + 0)) (kn (setH (kq v (ff F) (fa F)) (kh (kq v (ff F) (fa F)) - 0 + 0)) - 1) = false from hd] at h9; cases h9)
    rw [← hh] at hq2
    have hr : cn v 1206 (ff F) ≤ fh F := by omega
    refine ⟨hr, h.1, Nat.le_refl _, ?_, ?_, fun h9 => absurd h9 (Nat.lt_irrefl _), fun _ => hr⟩
    · show fh F + 0 ≤ cn v 1208 (ff F)
      have := h.2.2.1
      omega
    · show fn F ≤ cn v 1208 (ff F)
      have := h.2.2.2.1
      omega
  · cases h2
/-- a function that begins -/
theorem fOK.beg (hs : sOK v Ss) {g : Nat} (hg : tF v g) {c : Nat → Int64} : fOK v (g, 0, 0, c, (fun _ => 0), 0, (fun _ => 0), fun _ => 0) 0 := fOK.al hs hg (Nat.zero_le _) ⟨⟨rfl, fun j hj => absurd hj (Nat.not_lt_zero j)⟩, rfl⟩ rfl
theorem lOK_b (hs : sOK v Ss) : ∀ (L : List aF) (r : Nat), lOK v r L → sH L ≤ 60 * L.length ∧ sK L ≤ 60 * L.length
  | [], _, _ => ⟨Nat.zero_le _, Nat.zero_le _⟩
  | F :: Fs, r, h => by
    have h1 := lOK_b hs Fs _ h.2
    have h2 := h.1.2.2.1
    have h3 := h.1.2.2.2.1
    have h4 := h.1.2.1
    have h5 := hs.sz h.1.1
    show sH Fs + fh F ≤ 60 * (Fs.length + 1) ∧ sK Fs + fn F ≤ 60 * (Fs.length + 1)
    omega
/-- a function is left -/
theorem aOK.lv (hs : sOK v Ss) (h : aOK v (F :: Fs, U)) (he : cn v 1208 (ff F) ≤ fa F) : aOK v (aLv v F Fs U) := by
  obtain ⟨⟨h1, h2⟩, h3, h4⟩ := h
  have hr : cn v 1206 (ff F) ≤ 1 := (rg_1206 hs.1 h1.1.1).2
  cases Fs with
  | nil => exact ⟨trivial, Nat.zero_le _, h4⟩
  | cons G Gs =>
    have h3' : Gs.length + 1 + 1 ≤ 40 := h3
    show aOK v ((if cn v 1206 (ff F) = 0 then G else fPu G (fv F (fh F - 1))) :: Gs, U)
    by_cases e : cn v 1206 (ff F) = 0
    · rw [if_pos e]
      have h2' := h2
      rw [e] at h2'
      exact ⟨⟨h2'.1, h2.2⟩, by show Gs.length + 1 ≤ 40; omega, h4⟩
    · rw [if_neg e]
      exact ⟨⟨h2.1.cg rfl rfl (by show fh G + 1 + 0 = fh G + cn v 1206 (ff F); omega) rfl rfl rfl, h2.2⟩, by show Gs.length + 1 ≤ 40; omega, h4⟩
/-- a step that goes on leads to a good machine -/
def okR (v : zV) (R : Nat × aM) : Prop := R.1 = 0 → aOK v R.2
theorem okR.no {c : Nat} {A : aM} (hc : ¬ c = 0) : okR v (c, A) := fun h9 => absurd h9 hc
theorem okR.s (h : aOK v (F :: Fs, U)) {U' : aU} (hU : U'.2 = U.2) (hG : fOK v G 0) (he : ff G = ff F) : okR v (0, G :: Fs, U') := fun _ => ⟨⟨hG, by rw [he]; exact h.1.2⟩, h.2.1, by show U'.2.1 ≤ 40; rw [hU]; exact h.2.2⟩
theorem aBr_ff {a : Nat} : ff (aBr v F a) = ff F := by
  unfold aBr
  split
  · rfl
  · split <;> rfl
theorem okR.cl (hs : sOK v Ss) (h : aOK v (F :: Fs, U)) {g : Nat} (hg : tF v g) (he : ff G = ff F) (hG : fOK v (fDr G (cn v 1205 g)) (cn v 1206 g)) : okR v (aCl v G Fs U g) := by
  show okR v (if Fs.length + 1 = 40 then (6, G :: Fs, U) else (0, aCa v G Fs U g))
  have hlen : Fs.length + 1 ≤ 40 := h.2.1
  have hd := h.2.2
  split
  · exact okR.no (by decide)
  · rename_i h40
    refine fun _ => ⟨⟨fOK.beg hs hg, hG, ?_⟩, ?_, ?_⟩
    · show lOK v (cn v 1206 (ff G)) Fs
      rw [he]; exact h.1.2
    · show Fs.length + 1 + 1 ≤ 40
      omega
    · show max U.2.1 (Fs.length + 2) ≤ 40
      exact Nat.max_le.mpr ⟨hd, by omega⟩
theorem sh_pr (hs : sOK v Ss) {g : Nat} (hg : g < 48) : sh v g / 2 = cn v 1205 g ∧ sh v g % 2 = cn v 1206 g := by
  have : cn v 1206 g ≤ 1 := (rg_1206 hs.1 hg).2
  unfold sh
  omega
theorem slot_in (hs : sOK v Ss) {x : Int64} (h : ¬ (x < 1 ∨ (Ss.length : Int) < x.toInt)) : 1 ≤ x.toInt.toNat ∧ x.toInt.toNat ≤ Ss.length ∧ tF v (Ss.getD (x.toInt.toNat - 1) 0) := by
  have h1 : ¬ x < 1 := fun h9 => h (Or.inl h9)
  have h2 : ¬ (Ss.length : Int) < x.toInt := fun h9 => h (Or.inr h9)
  have h3 : ¬ x.toInt < 1 := fun h9 => h1 (Int64.lt_iff_toInt_lt.mpr h9)
  have h4 : x.toInt.toNat - 1 < Ss.length := by omega
  have hm : Ss.getD (x.toInt.toNat - 1) 0 ∈ Ss := by
    rw [List.getD_eq_getElem?_getD, List.getElem?_eq_getElem h4]
    exact List.getElem_mem h4
  exact ⟨by omega, by omega, hs.2.2.2.1.2 _ hm, hs.2.2.2.2 _ hm⟩
theorem call_31 (hs : sOK v Ss) {f k g : Nat} (hw : kw v f k = 31) (hg2 : sh v g = sg v (16 * (f / 8) + ka v f k)) (hg1 : tF v g) : pp v (f / 8) (kw v f k) (v.1 1210 (60 * f + k)) = cn v 1205 g ∧ pu v (f / 8) (kw v f k) (v.1 1210 (60 * f + k)) = cn v 1206 g := by
  rw [hw]
  unfold pp pu
  rw [if_pos rfl, if_pos rfl, show sg v (16 * (f / 8) + (v.1 1210 (60 * f + k)).toNatClampNeg) = sh v g from hg2.symm]
  exact sh_pr hs hg1.1
theorem call_32 (hs : sOK v Ss) {f k g : Nat} (hw : kw v f k = 32) (hsa : sh v g = ka v f k) (hg1 : tF v g) : pp v (f / 8) (kw v f k) (v.1 1210 (60 * f + k)) = 1 + cn v 1205 g ∧ pu v (f / 8) (kw v f k) (v.1 1210 (60 * f + k)) = cn v 1206 g := by
  rw [hw]
  unfold pp pu
  rw [if_neg (by decide), if_pos rfl, if_neg (by decide), if_pos rfl, show (v.1 1210 (60 * f + k)).toNatClampNeg = sh v g from hsa.symm]
  have := sh_pr hs hg1.1
  exact ⟨by rw [this.1], this.2⟩
theorem aSp_ok (hs : sOK v Ss) (h : aOK v (F :: Fs, U)) (hk : fa F < cn v 1208 (ff F)) : okR v (aSp v Ss F Fs U) := by
  have hF := h.1.1
  have hw36 := hs.w hF.1 hk
  have hst : ∀ (p u : Nat) {G : aF} {U' : aU}, U'.2 = U.2 → ¬ (23 ≤ kw v (ff F) (fa F) ∧ kw v (ff F) (fa F) ≤ 32) → pTb.getD (kw v (ff F) (fa F)) 0 = p → puTb.getD (kw v (ff F) (fa F)) 0 = u → ff G = ff F → fa G = fa F + 1 → fh G + 0 = fh F - p + u → fn G = fn F → fo G = fo F → fb G = fb F → okR v (0, G :: Fs, U') := fun p u {G U'} hU c0 c1 c2 h1 h2 h3 h4 h5 h6 => okR.s h hU (hF.st1 hs hk (by omega) h1 h2 (by rw [(pp_t (w := kw v (ff F) (fa F)) (by omega) (by omega)).1, (pp_t (w := kw v (ff F) (fa F)) (by omega) (by omega)).2, c1, c2]; exact h3) h4 h5 h6) h1
  have hsg := hs.2.2.1 (ff F) hF.1.1 hF.1.2
  rcases (show (3 ≤ kw v (ff F) (fa F) ∧ kw v (ff F) (fa F) ≤ 16) ∨ (kw v (ff F) (fa F) = 0) ∨ (kw v (ff F) (fa F) = 1) ∨ (kw v (ff F) (fa F) = 2) ∨ (kw v (ff F) (fa F) = 17) ∨ (kw v (ff F) (fa F) = 18) ∨ (kw v (ff F) (fa F) = 19) ∨ (kw v (ff F) (fa F) = 20) ∨ (kw v (ff F) (fa F) = 21) ∨ (kw v (ff F) (fa F) = 22) ∨ (kw v (ff F) (fa F) = 23) ∨ (kw v (ff F) (fa F) = 24) ∨ (kw v (ff F) (fa F) = 25) ∨ (kw v (ff F) (fa F) = 26) ∨ (kw v (ff F) (fa F) = 27) ∨ (kw v (ff F) (fa F) = 28) ∨ (kw v (ff F) (fa F) = 29) ∨ (kw v (ff F) (fa F) = 30) ∨ (kw v (ff F) (fa F) = 31) ∨ (kw v (ff F) (fa F) = 32) ∨ (kw v (ff F) (fa F) = 33) ∨ (kw v (ff F) (fa F) = 34) ∨ (kw v (ff F) (fa F) = 35) by omega) with hw | hw | hw | hw | hw | hw | hw | hw | hw | hw | hw | hw | hw | hw | hw | hw | hw | hw | hw | hw | hw | hw | hw
  · rw [aSp_r hw]
    split
    · exact okR.no (by decide)
    · have ht : ∀ w, w < 36 → 3 ≤ w ∧ w ≤ 16 → pTb.getD w 0 = 2 ∧ puTb.getD w 0 = 1 := by decide
      exact hst 2 1 rfl (by omega) (ht _ hw36 hw).1 (ht _ hw36 hw).2 rfl rfl rfl rfl rfl rfl
  · rw [aSp_0 hw]
    exact hst 0 1 rfl (by omega) (by rw [hw]; rfl) (by rw [hw]; rfl) rfl rfl rfl rfl rfl rfl
  · rw [aSp_1 hw]
    exact hst 0 1 rfl (by omega) (by rw [hw]; rfl) (by rw [hw]; rfl) rfl rfl rfl rfl rfl rfl
  · rw [aSp_2 hw]
    exact hst 1 0 rfl (by omega) (by rw [hw]; rfl) (by rw [hw]; rfl) rfl rfl rfl rfl rfl rfl
  · rw [aSp_17 hw]
    exact hst 3 1 rfl (by omega) (by rw [hw]; rfl) (by rw [hw]; rfl) rfl rfl rfl rfl rfl rfl
  · rw [aSp_18 hw]
    exact hst 1 0 rfl (by omega) (by rw [hw]; rfl) (by rw [hw]; rfl) rfl rfl rfl rfl rfl rfl
  · rw [aSp_19 hw]
    split
    · exact okR.no (by decide)
    · exact hst 1 1 rfl (by omega) (by rw [hw]; rfl) (by rw [hw]; rfl) rfl rfl rfl rfl rfl rfl
  · rw [aSp_20 hw]
    split
    · exact okR.no (by decide)
    · exact hst 2 0 rfl (by omega) (by rw [hw]; rfl) (by rw [hw]; rfl) rfl rfl rfl rfl rfl rfl
  · rw [aSp_21 hw]
    split
    · exact okR.no (by decide)
    · exact hst 1 1 rfl (by omega) (by rw [hw]; rfl) (by rw [hw]; rfl) rfl rfl rfl rfl rfl rfl
  · rw [aSp_22 hw]
    split
    · exact okR.no (by decide)
    · exact hst 2 0 rfl (by omega) (by rw [hw]; rfl) (by rw [hw]; rfl) rfl rfl rfl rfl rfl rfl
  · rw [aSp_23 hw]
    exact okR.s h rfl (hF.op hs hk (by omega) rfl rfl (by rw [hw]; rfl) rfl rfl (by rw [hw]; rfl)) rfl
  · rw [aSp_24 hw]
    exact okR.s h rfl (hF.op hs hk (by omega) rfl rfl (by rw [hw]; rfl) rfl rfl (by rw [hw]; rfl)) rfl
  · rw [aSp_25 hw]
    split
    · split
      · rename_i x hx
        exact okR.s h rfl (hF.ix hs hk hw hx rfl rfl rfl rfl rfl rfl) rfl
      · rename_i hx
        exact okR.s h rfl (hF.io hs hk hw hx rfl rfl rfl rfl rfl rfl) rfl
    · exact okR.s h rfl (hF.op hs hk (by omega) rfl rfl (by rw [hw]; rfl) rfl rfl (by rw [hw]; rfl)) rfl
  · rw [aSp_26 hw]
    exact okR.s h rfl ((hF.el hs hk hw).2.2.2 _ rfl rfl rfl rfl rfl rfl) rfl
  · rw [aSp_27 hw]
    exact okR.s h rfl ((hF.en hs hk hw).2 _ rfl rfl rfl rfl rfl rfl) rfl
  · rw [aSp_28 hw]
    exact okR.s h rfl (hF.br (G := fGo F (fa F + 1)) hs hk (Or.inl ⟨hw, rfl⟩) rfl rfl rfl rfl rfl rfl).2.2.2.2 aBr_ff
  · rw [aSp_29 hw]
    split
    · exact okR.s h rfl (hF.nb hs hk hw rfl rfl rfl rfl rfl rfl) rfl
    · exact okR.s h rfl (hF.br (G := fDr (fGo F (fa F + 1)) 1) hs hk (Or.inr ⟨hw, rfl⟩) rfl rfl rfl rfl rfl rfl).2.2.2.2 aBr_ff
  · rw [aSp_30 hw]
    exact okR.s h rfl (hF.rt hs hk hw).2 rfl
  · rw [aSp_31 hw]
    split
    · exact okR.no (by decide)
    · rename_i g hg
      obtain ⟨hg1, hg2⟩ := (hsg.2 _ hk).2 hw g hg
      have hpp := call_31 hs hw hg2 hg1
      exact okR.cl hs h hg1 rfl (hF.st1 hs hk (by omega) rfl rfl (by rw [hpp.1, hpp.2]) rfl rfl rfl)
  · rw [aSp_32 hw]
    split
    · exact okR.no (by decide)
    · rename_i hx
      split
      · rename_i hsa
        obtain ⟨_, _, hg1⟩ := slot_in hs hx
        have hpp := call_32 hs hw hsa hg1
        refine okR.cl hs h hg1 rfl (hF.st1 hs hk (by omega) rfl rfl ?_ rfl rfl rfl)
        rw [hpp.1, hpp.2]
        show fh F - 1 - _ + _ = _
        omega
      · exact okR.no (by decide)
  · rw [aSp_33 hw]
    exact hst 0 1 rfl (by omega) (by rw [hw]; rfl) (by rw [hw]; rfl) rfl rfl rfl rfl rfl rfl
  · rw [aSp_34 hw]
    exact hst 0 1 rfl (by omega) (by rw [hw]; rfl) (by rw [hw]; rfl) rfl rfl rfl rfl rfl rfl
  · rw [aSp_35 hw]
    exact hst 0 1 rfl (by omega) (by rw [hw]; rfl) (by rw [hw]; rfl) rfl rfl rfl rfl rfl rfl
end ZAP
