section RRQ
variable {v v1 v2 : zV} {F G : aF} {Fs : List aF} {U : aU}
/-- the upper function is left -/
theorem rR.lv (hr : rR (F :: Fs, U) v1) {m : Nat} (hm : m ≤ 1) (hmr : cn v 1206 (ff F) = m) (hc : m ≤ fh F) : rR (aLv v F Fs U) (u1 (vKp (u1 v1 1239 0 (nI Fs.length)) (sH Fs) (sH Fs + fh F) m) 1249 0 (nI (sK Fs))) ∧ (Fs = [] → (aLv v F Fs U).2.2.2 = if m = 0 then 0 else (vKp (u1 v1 1239 0 (nI Fs.length)) (sH Fs) (sH Fs + fh F) m).2 1245 0) := by
  have hup : ¬ m = 0 → v1.2 1245 (sH Fs + fh F - 1) = fv F (fh F - 1) := fun e => by
    rw [show sH Fs + fh F - 1 = sH Fs + (fh F - 1) from by omega]
    exact hr.F1.2.2.2.2.2.1 _ (by omega)
  obtain ⟨h1, h2, h3, ⟨⟨r1, r2, r3, r4, r5, r6, r7⟩, h4⟩, h5, h6⟩ := hr
  have e1 : ∀ id k, id ≠ 1246 → id ≠ 1239 → id ≠ 1249 → (u1 (vKp (u1 v1 1239 0 (nI Fs.length)) (sH Fs) (sH Fs + fh F) m) 1249 0 (nI (sK Fs))).1 id k = v1.1 id k := fun id k a1 a2 a3 => by
    rw [u1_n (Or.inl a3)]
    exact (u1_n (Or.inl a1)).trans (by split <;> exact u1_n (Or.inl a2))
  have e2 : ∀ id k, id ≠ 1245 ∨ k ≠ sH Fs ∨ m = 0 → (vKp (u1 v1 1239 0 (nI Fs.length)) (sH Fs) (sH Fs + fh F) m).2 id k = v1.2 id k := fun id k hk => by
    show (if m = 0 then u1 v1 1239 0 (nI Fs.length) else u2 (u1 v1 1239 0 (nI Fs.length)) 1245 (sH Fs) (v1.2 1245 (sH Fs + fh F - 1))).2 id k = v1.2 id k
    by_cases e : m = 0
    · rw [if_pos e]
    · rw [if_neg e]
      exact u2_n (hk.imp (fun h9 => h9) (fun h9 => h9.resolve_right e))
  have e3 : ¬ m = 0 → (vKp (u1 v1 1239 0 (nI Fs.length)) (sH Fs) (sH Fs + fh F) m).2 1245 (sH Fs) = fv F (fh F - 1) := fun e => by
    show (if m = 0 then u1 v1 1239 0 (nI Fs.length) else u2 (u1 v1 1239 0 (nI Fs.length)) 1245 (sH Fs) (v1.2 1245 (sH Fs + fh F - 1))).2 1245 (sH Fs) = _
    rw [if_neg e, u2_s]
    exact hup e
  have t9 : (u1 (vKp (u1 v1 1239 0 (nI Fs.length)) (sH Fs) (sH Fs + fh F) m) 1249 0 (nI (sK Fs))).1 1246 0 = nI (sH Fs + m) := (u1_n (Or.inl (by decide))).trans u1_s
  have n9 : (u1 (vKp (u1 v1 1239 0 (nI Fs.length)) (sH Fs) (sH Fs + fh F) m) 1249 0 (nI (sK Fs))).1 1239 0 = nI Fs.length := (u1_n (Or.inl (by decide))).trans ((u1_n (Or.inl (by decide))).trans (by split <;> exact (u1_s : (u1 v1 1239 0 (nI Fs.length)).1 1239 0 = nI Fs.length)))
  cases Fs with
  | nil =>
    refine ⟨⟨n9, trivial, u1_s, trivial, fun k hk => (e1 _ _ (by decide) (by decide) (by decide)).trans (h5 k hk), (e1 _ _ (by decide) (by decide) (by decide)).trans h6⟩, fun _ => ?_⟩
    · show (if cn v 1206 (ff F) = 0 then 0 else fv F (fh F - 1)) = _
      rw [hmr]
      by_cases e : m = 0
      · rw [if_pos e, if_pos e]
      · rw [if_neg e, if_neg e]
        exact (e3 e).symm
  | cons G Gs =>
    refine ⟨?_, fun h9 => absurd h9 (List.cons_ne_nil _ _)⟩
    show rR ((if cn v 1206 (ff F) = 0 then G else fPu G (fv F (fh F - 1))) :: Gs, U) _
    rw [hmr]
    have g4 := h4.1
    obtain ⟨s1, s2, s3, s4, s5, s6, s7⟩ := g4
    have hlow : rS (u1 (vKp (u1 v1 1239 0 (nI (G :: Gs).length)) (sH (G :: Gs)) (sH (G :: Gs) + fh F) m) 1249 0 (nI (sK (G :: Gs)))) (G :: Gs) := h4.lo ⟨fun id k hk _ => e1 _ _ (by omega) (by omega) (by omega), fun k _ => e2 _ _ (Or.inl (by decide)), fun k hk => e2 _ _ (Or.inr (Or.inl (by omega))), fun id k hk _ => e1 _ _ (by omega) (by omega) (by omega)⟩
    by_cases e : m = 0
    · rw [if_pos e]
      exact ⟨n9, t9.trans (by rw [e]; rfl), u1_s, hlow, fun k hk => (e1 _ _ (by decide) (by decide) (by decide)).trans (h5 k hk), (e1 _ _ (by decide) (by decide) (by decide)).trans h6⟩
    · rw [if_neg e]
      have em : m = 1 := by omega
      refine ⟨n9, ?_, u1_s, ⟨⟨hlow.1.1, hlow.1.2.1, hlow.1.2.2.1, hlow.1.2.2.2.1, hlow.1.2.2.2.2.1, fun j hj => ?_, hlow.1.2.2.2.2.2.2⟩, hlow.2⟩, fun k hk => (e1 _ _ (by decide) (by decide) (by decide)).trans (h5 k hk), (e1 _ _ (by decide) (by decide) (by decide)).trans h6⟩
      · refine t9.trans ?_
        rw [em]
        rfl
      · have hj2 : j < fh G + 1 := hj
        show _ = va_up (fv G) (fh G) (fv F (fh F - 1)) j
        by_cases e9 : j = fh G
        · rw [e9, va_up_self]
          exact e3 e
        · rw [va_up_ne _ _ e9]
          exact hlow.1.2.2.2.2.2.1 j (by omega)
/-- g is entered -/
theorem rR.en (hr : rR (F :: Fs, U) v1) {g m : Nat} (hm : cn v 1205 g = m) (hc : m ≤ fh F) (hE : enR v1 v2 (Fs.length + 1) g m (sH Fs + fh F) (sK Fs + fn F) U.2.1) : rR (aCa v F Fs U g) v2 := by
  obtain ⟨h1, h2, h3, ⟨⟨r1, r2, r3, r4, r5, r6, r7⟩, h4⟩, h5, h6⟩ := hr
  obtain ⟨e1, e2, e3, e4, e5, e6, e7, e8, e9, e10⟩ := hE
  have hk : ∀ id k, ¬ (id = 1239 ∨ id = 1246 ∨ id = 1231) → ¬ (1240 ≤ id ∧ id ≤ 1243 ∧ k = Fs.length + 1) → v2.1 id k = v1.1 id k := fun id k a1 a2 => e9 id k a1 (fun h9 => a2 ⟨by omega, by omega, h9.2⟩)
  have hlow : lo9 v1 v2 (Fs.length + 1) (sH Fs + fh F) (sK Fs + fn F) := ⟨fun id k a1 a2 => hk _ _ (by omega) (by omega), fun k a1 => e10 _ _ (by omega), fun k _ => e10 _ _ (by omega), fun id k a1 _ => hk _ _ (by omega) (by omega)⟩
  have hs : sH (fDr F m :: Fs) = sH Fs + fh F - m := by show sH Fs + (fh F - m) = _; omega
  show rR ((g, 0, 0, (fun k => if k < cn v 1205 g then fv F (fh F - cn v 1205 g + k) else 0), (fun _ => 0), 0, (fun _ => 0), fun _ => 0) :: fDr F (cn v 1205 g) :: Fs, U.1, max U.2.1 (Fs.length + 2), U.2.2) v2
  rw [hm]
  refine ⟨e1, ?_, ?_, ⟨⟨e2, e3, ?_, ?_, fun k hk8 => ?_, fun j hj => absurd hj (Nat.not_lt_zero j), fun j hj => absurd hj (Nat.not_lt_zero j)⟩, ⟨?_, ?_⟩⟩, fun k hk2 => (hk _ _ (by omega) (by omega)).trans (h5 k hk2), e7⟩
  · refine e6.trans ?_
    rw [show sH (fDr F m :: Fs) + fh (g, 0, 0, (fun k => if k < m then fv F (fh F - m + k) else 0), (fun _ => 0), 0, (fun _ => 0), fun _ => 0) = sH Fs + fh F - m from hs]
  · exact (hk _ _ (by omega) (by omega)).trans h3
  · rw [hs]; exact e4
  · exact e5
  · refine (e8 k hk8).trans ?_
    show _ = if k < m then fv F (fh F - m + k) else 0
    by_cases h9 : k < m
    · rw [if_pos h9, if_pos h9, show sH Fs + fh F - m + k = sH Fs + (fh F - m + k) from by omega]
      exact r6 _ (by omega)
    · rw [if_neg h9, if_neg h9]
  · have hF : rF v1 Fs.length (sH Fs) (sK Fs) (fDr F m) := ⟨r1, r2, r3, r4, r5, fun j hj => r6 j (by have : j < fh F - m := hj; omega), r7⟩
    exact hF.lo (hlow.le (Nat.le_refl _) (by show sH Fs + (fh F - m) ≤ _; omega) (Nat.le_refl _))
  · exact h4.lo (hlow.le (by omega) (by omega) (by omega))
end RRQ
