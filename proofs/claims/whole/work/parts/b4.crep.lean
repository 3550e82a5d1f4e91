/-- what lies on the class's stack below a function -/
def sC (v : zV) : List aF → Nat
  | [] => 0
  | F :: Fs => sC v Fs + (cn v 1205 (ff F) + cn v 1207 (ff F) + fh F)
abbrev mI (M : mKt) : Nat → Int32 := M.1
abbrev mSt (M : mKt) : Nat → Int64 := M.2.2.2.1
abbrev mRo (M : mKt) : Nat → Option Nat := M.2.2.2.2.1
abbrev mNx (M : mKt) : Nat → Int32 := M.2.2.2.2.2.1
abbrev mFl (M : mKt) : Nat → Int32 := M.2.2.2.2.2.2.1
abbrev mBy (M : mKt) : Nat → Int32 := M.2.2.2.2.2.2.2
/-- where F's values begin -/
abbrev fBz (v : zV) (F : aF) (Fs : List aF) : Nat := sC v Fs + (cn v 1205 (ff F) + cn v 1207 (ff F))
/-- the class's rows say F, the n-th open function, from h on -/
def cF (v : zV) (M : mKt) (n h : Nat) (F : aF) : Prop := mRo M n = some (200 + 12 * ff F) ∧ mNx M n = nI (fa F) ∧ mFl M n = nI h ∧ (∀ k, k < cn v 1205 (ff F) + cn v 1207 (ff F) → mSt M (h + k) = fc F k) ∧ ∀ j, j < fh F → mSt M (h + (cn v 1205 (ff F) + cn v 1207 (ff F)) + j) = fv F j
def cSz (v : zV) (M : mKt) : List aF → Prop
  | [] => True
  | F :: Fs => cF v M Fs.length (sC v Fs) F ∧ cSz v M Fs
/-- the class's machine says A -/
def cRp (v : zV) (A : aM) (M : mKt) : Prop := mI M 406 = nI (sC v A.1) ∧ mI M 407 = nI A.1.length ∧ cSz v M A.1 ∧ (∀ k, k < 1024 → mBy M k = A.2.1 k) ∧ mI M 411 = nI A.2.2.1
/-- below n and h all is the same -/
def lo7 (M M' : mKt) (n h : Nat) : Prop := (∀ k, k < n → mRo M' k = mRo M k ∧ mNx M' k = mNx M k ∧ mFl M' k = mFl M k) ∧ ∀ k, k < h → mSt M' k = mSt M k
section ZCR
variable {v : zV} {M M' : mKt} {n h : Nat} {F G : aF} {Fs : List aF} {U : aU}
theorem lo7.rf : lo7 M M n h := ⟨fun _ _ => ⟨rfl, rfl, rfl⟩, fun _ _ => rfl⟩
theorem lo7.le (q : lo7 M M' n h) {n' h' : Nat} (h1 : n' ≤ n) (h2 : h' ≤ h) : lo7 M M' n' h' := ⟨fun k hk => q.1 k (by omega), fun k hk => q.2 k (by omega)⟩
theorem cF.lo (hr : cF v M n h F) (q : lo7 M M' (n + 1) (h + (cn v 1205 (ff F) + cn v 1207 (ff F) + fh F))) : cF v M' n h F := by
  obtain ⟨r1, r2, r3, r4, r5⟩ := hr
  obtain ⟨q1, q2, q3⟩ := q.1 n (by omega)
  exact ⟨q1.trans r1, q2.trans r2, q3.trans r3, fun k hk => (q.2 _ (by omega)).trans (r4 k hk), fun j hj => (q.2 _ (by omega)).trans (r5 j hj)⟩
theorem cSz.lo : ∀ {L : List aF}, cSz v M L → lo7 M M' L.length (sC v L) → cSz v M' L
  | [], _, _ => trivial
  | F :: Fs, hr, q => ⟨hr.1.lo q, hr.2.lo (q.le (by show Fs.length ≤ Fs.length + 1; omega) (by show sC v Fs ≤ sC v Fs + _; omega))⟩
theorem cRp.H (hr : cRp v (F :: Fs, U) M) : mI M 406 = nI (fBz v F Fs + fh F) := by
  refine hr.1.trans ?_
  show nI (sC v Fs + (cn v 1205 (ff F) + cn v 1207 (ff F) + fh F)) = _
  rw [Nat.add_assoc (sC v Fs)]
theorem cRp.N (hr : cRp v (F :: Fs, U) M) : mI M 407 = nI (Fs.length + 1) := hr.2.1
theorem cRp.F1 (hr : cRp v (F :: Fs, U) M) : cF v M Fs.length (sC v Fs) F := hr.2.2.1.1
theorem cRp.va (hr : cRp v (F :: Fs, U) M) {j : Nat} (hj : j < fh F) : mSt M (fBz v F Fs + j) = fv F j := hr.F1.2.2.2.2 j hj
/-- only the ints 408, 410 or the like differ -/
theorem cRp.ot {A : aM} (hr : cRp v A M) (h1 : mI M' 406 = mI M 406) (h2 : mI M' 407 = mI M 407) (h3 : mI M' 411 = mI M 411) (h4 : M'.2.2.2 = M.2.2.2) : cRp v A M' := by
  obtain ⟨r1, r2, r3, r4, r5⟩ := hr
  have hs : mSt M' = mSt M := congrArg (fun x => x.1) h4
  have ho : mRo M' = mRo M := congrArg (fun x => x.2.1) h4
  have hn : mNx M' = mNx M := congrArg (fun x => x.2.2.1) h4
  have hl : mFl M' = mFl M := congrArg (fun x => x.2.2.2.1) h4
  have hb : mBy M' = mBy M := congrArg (fun x => x.2.2.2.2) h4
  exact ⟨h1.trans r1, h2.trans r2, r3.lo ⟨fun k _ => ⟨by rw [ho], by rw [hn], by rw [hl]⟩, fun k _ => by rw [hs]⟩, fun k hk => by rw [hb]; exact r4 k hk, h3.trans r5⟩
theorem cRp.go (hr : cRp v (F :: Fs, U) M) {k : Nat} : cRp v (fGo F k :: Fs, U) (M.1, M.2.1, M.2.2.1, M.2.2.2.1, M.2.2.2.2.1, upd M.2.2.2.2.2.1 Fs.length (nI k), M.2.2.2.2.2.2) := by
  obtain ⟨r1, r2, ⟨⟨q1, q2, q3, q4, q5⟩, r3⟩, r4, r5⟩ := hr
  exact ⟨r1, r2, ⟨⟨q1, upd_s, q3, q4, q5⟩, r3.lo ⟨fun j hj => ⟨rfl, upd_n (by omega), rfl⟩, fun _ _ => rfl⟩⟩, r4, r5⟩
theorem cRp.dr (hr : cRp v (F :: Fs, U) M) {m : Nat} (hm : m ≤ fh F) : cRp v (fDr F m :: Fs, U) (mHt M (fBz v F Fs + (fh F - m))) := by
  obtain ⟨r1, r2, ⟨⟨q1, q2, q3, q4, q5⟩, r3⟩, r4, r5⟩ := hr
  refine ⟨(show va_up M.1 406 (nI (fBz v F Fs + (fh F - m))) 406 = _ from va_up_self _ _ _).trans ?_, (show va_up M.1 406 (nI (fBz v F Fs + (fh F - m))) 407 = M.1 407 from va_up_ne _ _ (by decide)).trans r2, ⟨⟨q1, q2, q3, q4, fun j hj => q5 j (by have : j < fh F - m := hj; omega)⟩, r3.lo ⟨fun j hj => ⟨rfl, rfl, rfl⟩, fun _ _ => rfl⟩⟩, r4, (show va_up M.1 406 (nI (fBz v F Fs + (fh F - m))) 411 = M.1 411 from va_up_ne _ _ (by decide)).trans r5⟩
  show nI (fBz v F Fs + (fh F - m)) = nI (sC v Fs + (cn v 1205 (ff F) + cn v 1207 (ff F) + (fh F - m)))
  rw [← Nat.add_assoc (sC v Fs)]
theorem up_L {f : Nat → Int64} {k j : Nat} {x : Int64} (h : j ≠ k) : vp_updL f k x j = f j := if_neg h
theorem up_Ls {f : Nat → Int64} {k : Nat} {x : Int64} : vp_updL f k x k = x := if_pos rfl
theorem cRp.pu (hr : cRp v (F :: Fs, U) M) {x : Int64} : cRp v (fPu F x :: Fs, U) (mPu M (fBz v F Fs + fh F) x) := by
  obtain ⟨r1, r2, ⟨⟨q1, q2, q3, q4, q5⟩, r3⟩, r4, r5⟩ := hr
  have hfB : fBz v F Fs = sC v Fs + (cn v 1205 (ff F) + cn v 1207 (ff F)) := rfl
  refine ⟨(show va_up M.1 406 (nI (fBz v F Fs + fh F + 1)) 406 = _ from va_up_self _ _ _).trans ?_, (show va_up M.1 406 (nI (fBz v F Fs + fh F + 1)) 407 = M.1 407 from va_up_ne _ _ (by decide)).trans r2, ⟨⟨q1, q2, q3, fun k hk => (up_L (by have hk2 : k < cn v 1205 (ff F) + cn v 1207 (ff F) := hk; omega)).trans (q4 k hk), fun j hj => ?_⟩, r3.lo ⟨fun j hj => ⟨rfl, rfl, rfl⟩, fun k hk => up_L (by omega)⟩⟩, r4, (show va_up M.1 406 (nI (fBz v F Fs + fh F + 1)) 411 = M.1 411 from va_up_ne _ _ (by decide)).trans r5⟩
  · show nI (fBz v F Fs + fh F + 1) = nI (sC v Fs + (cn v 1205 (ff F) + cn v 1207 (ff F) + (fh F + 1)))
    rw [← Nat.add_assoc (sC v Fs), Nat.add_assoc]
  · have hj2 : j < fh F + 1 := hj
    show vp_updL M.2.2.2.1 (fBz v F Fs + fh F) x (sC v Fs + (cn v 1205 (ff F) + cn v 1207 (ff F)) + j) = va_up (fv F) (fh F) x j
    by_cases e : j = fh F
    · rw [e, va_up_self, up_Ls]
    · rw [va_up_ne _ _ e, up_L (by omega)]
      exact q5 j (by omega)
theorem cRp.lc (hr : cRp v (F :: Fs, U) M) {i : Nat} {x : Int64} (hi : i < cn v 1205 (ff F) + cn v 1207 (ff F)) : cRp v (fLo F i x :: Fs, U) (M.1, M.2.1, M.2.2.1, vp_updL M.2.2.2.1 (sC v Fs + i) x, M.2.2.2.2) := by
  obtain ⟨r1, r2, ⟨⟨q1, q2, q3, q4, q5⟩, r3⟩, r4, r5⟩ := hr
  refine ⟨r1, r2, ⟨⟨q1, q2, q3, fun k hk => ?_, fun j hj => (show vp_updL M.2.2.2.1 (sC v Fs + i) x (sC v Fs + (cn v 1205 (ff F) + cn v 1207 (ff F)) + j) = _ from up_L (by omega)).trans (q5 j hj)⟩, r3.lo ⟨fun j hj => ⟨rfl, rfl, rfl⟩, fun k hk => up_L (by omega)⟩⟩, r4, r5⟩
  show vp_updL M.2.2.2.1 (sC v Fs + i) x (sC v Fs + k) = va_up (fc F) i x k
  by_cases e : k = i
  · rw [e, va_up_self, up_Ls]
  · rw [va_up_ne _ _ e, up_L (by omega)]
    exact q4 k hk
/-- blocks aren't kept by the class -/
theorem cRp.bk (hr : cRp v (F :: Fs, U) M) (h1 : ff G = ff F) (h2 : fa G = fa F) (h3 : fh G = fh F) (h4 : fc G = fc F) (h5 : fv G = fv F) : cRp v (G :: Fs, U) M := by
  unfold cRp at hr ⊢
  unfold cSz cF at hr ⊢
  unfold sC at hr ⊢
  rw [h1, h2, h3, h4, h5]
  exact hr
/-- what keep leaves -/
def mKe (M M' : mKt) (b h k : Nat) : Prop := mI M' 406 = nI (b + k) ∧ (∀ id, id ≠ 406 → mI M' id = mI M id) ∧ M'.2.1 = M.2.1 ∧ M'.2.2.1 = M.2.2.1 ∧ M'.2.2.2.2 = M.2.2.2.2 ∧ (∀ j, j ≠ b ∨ k = 0 → mSt M' j = mSt M j) ∧ (k = 0 ∨ mSt M' b = mSt M (h - 1))
theorem cRp.ke (hr : cRp v (F :: Fs, U) M) {b m : Nat} (hm : m ≤ 1) (hb : b + m ≤ fh F) (hk : mKe M M' (fBz v F Fs + b) (fBz v F Fs + fh F) m) : cRp v (fKe F b m :: Fs, U) M' := by
  obtain ⟨r1, r2, ⟨⟨q1, q2, q3, q4, q5⟩, r3⟩, r4, r5⟩ := hr
  obtain ⟨k1, k2, k3, k4, k5, k6, k7⟩ := hk
  have ho : mRo M' = mRo M := congrArg (fun x => x.1) k5
  have hn : mNx M' = mNx M := congrArg (fun x => x.2.1) k5
  have hl : mFl M' = mFl M := congrArg (fun x => x.2.2.1) k5
  have hB : mBy M' = mBy M := congrArg (fun x => x.2.2.2) k5
  have hfB : fBz v F Fs = sC v Fs + (cn v 1205 (ff F) + cn v 1207 (ff F)) := rfl
  refine ⟨k1.trans ?_, (k2 _ (by decide)).trans r2, ⟨⟨by rw [ho]; exact q1, by rw [hn]; exact q2, by rw [hl]; exact q3, fun k hk => (k6 _ (Or.inl (by have hk2 : k < cn v 1205 (ff F) + cn v 1207 (ff F) := hk; show sC v Fs + k ≠ _; omega))).trans (q4 k hk), fun j hj => ?_⟩, r3.lo ⟨fun j hj => ⟨by rw [ho], by rw [hn], by rw [hl]⟩, fun k hk => k6 _ (Or.inl (by omega))⟩⟩, fun k hk => by rw [hB]; exact r4 k hk, (k2 _ (by decide)).trans r5⟩
  · show nI (fBz v F Fs + b + m) = nI (sC v Fs + (cn v 1205 (ff F) + cn v 1207 (ff F) + (b + m)))
    rw [← Nat.add_assoc (sC v Fs), Nat.add_assoc]
  · have hj2 : j < b + m := hj
    show mSt M' (fBz v F Fs + j) = (if m = 0 then fv F else va_up (fv F) b (fv F (fh F - 1))) j
    by_cases e : m = 0
    · rw [if_pos e, k6 _ (Or.inr e)]
      exact q5 j (by omega)
    · rw [if_neg e]
      by_cases e2 : j = b
      · rw [e2, va_up_self, k7.resolve_left e, show fBz v F Fs + fh F - 1 = fBz v F Fs + (fh F - 1) by omega]
        exact q5 (fh F - 1) (by omega)
      · rw [va_up_ne _ _ e2, k6 _ (Or.inl (by omega))]
        exact q5 j (by omega)
theorem cRp.mem (hr : cRp v (F :: Fs, U) M) {m : Nat → Int32} (hm : ∀ k, k < 1024 → mBy M' k = m k) (h1 : M'.1 = M.1) (h2 : mSt M' = mSt M) (h3 : mRo M' = mRo M) (h4 : mNx M' = mNx M) (h5 : mFl M' = mFl M) : cRp v (F :: Fs, m, U.2) M' := by
  obtain ⟨r1, r2, r3, r4, r5⟩ := hr
  refine ⟨by show M'.1 406 = _; rw [h1]; exact r1, by show M'.1 407 = _; rw [h1]; exact r2, r3.lo ⟨fun k _ => ⟨by rw [h3], by rw [h4], by rw [h5]⟩, fun k _ => by rw [h2]⟩, hm, by show M'.1 411 = _; rw [h1]; exact r5⟩
/-- a function is left: depth one less, the results stand on its floor -/
theorem cRp.lv (hr : cRp v (F :: Fs, U) M) {m : Nat} (hm : m ≤ 1) (hmr : cn v 1206 (ff F) = m) (hc : m ≤ fh F) (hk : mKe (va_up M.1 407 (nI Fs.length), M.2) M' (sC v Fs) (fBz v F Fs + fh F) m) : (Fs ≠ [] → cRp v (aLv v F Fs U) M') ∧ (Fs = [] → (m = 0 ∨ mSt M' 0 = fv F (fh F - 1)) ∧ mI M' 406 = nI m ∧ mI M' 407 = nI 0 ∧ (∀ k, k < 1024 → mBy M' k = U.1 k) ∧ mI M' 411 = nI U.2.1) := by
  have hva := fun (hj : 0 < fh F) => hr.va (j := fh F - 1) (by omega)
  obtain ⟨r1, r2, ⟨⟨q1, q2, q3, q4, q5⟩, r3⟩, r4, r5⟩ := hr
  obtain ⟨k1, k2, k3, k4, k5, k6, k7⟩ := hk
  have ho : mRo M' = mRo M := congrArg (fun x => x.1) k5
  have hn : mNx M' = mNx M := congrArg (fun x => x.2.1) k5
  have hl : mFl M' = mFl M := congrArg (fun x => x.2.2.1) k5
  have hB : mBy M' = mBy M := congrArg (fun x => x.2.2.2) k5
  have h7 : mI M' 407 = nI Fs.length := (k2 407 (by decide)).trans (show va_up M.1 407 (nI Fs.length) 407 = _ from va_up_self _ _ _)
  have h11 : mI M' 411 = nI U.2.1 := (k2 411 (by decide)).trans ((show va_up M.1 407 (nI Fs.length) 411 = M.1 411 from va_up_ne _ _ (by decide)).trans r5)
  have hb : ∀ k, k < 1024 → mBy M' k = U.1 k := fun k hk => by rw [hB]; exact r4 k hk
  have hv9 : m = 0 ∨ mSt M' (sC v Fs) = fv F (fh F - 1) := by
    by_cases em : m = 0
    · exact Or.inl em
    · refine Or.inr ((k7.resolve_left em).trans ?_)
      show mSt M (fBz v F Fs + fh F - 1) = _
      rw [show fBz v F Fs + fh F - 1 = fBz v F Fs + (fh F - 1) by omega]
      exact hva (by omega)
  cases Fs with
  | nil => exact ⟨fun h9 => absurd rfl h9, fun _ => ⟨hv9, k1.trans (by show nI (0 + m) = _; rw [Nat.zero_add]), h7, hb, h11⟩⟩
  | cons G Gs =>
    refine ⟨fun _ => ?_, fun h9 => absurd h9 (List.cons_ne_nil _ _)⟩
    show cRp v ((if cn v 1206 (ff F) = 0 then G else fPu G (fv F (fh F - 1))) :: Gs, U) M'
    have hlow : cSz v M' (G :: Gs) := r3.lo ⟨fun j hj => ⟨by rw [ho], by rw [hn], by rw [hl]⟩, fun k hk => k6 _ (Or.inl (by omega))⟩
    rw [hmr]
    by_cases e : m = 0
    · rw [if_pos e]
      exact ⟨k1.trans (by rw [e]; rfl), h7, hlow, hb, h11⟩
    · rw [if_neg e]
      have em : m = 1 := by omega
      refine ⟨k1.trans ?_, h7, ⟨⟨hlow.1.1, hlow.1.2.1, hlow.1.2.2.1, hlow.1.2.2.2.1, fun j hj => ?_⟩, hlow.2⟩, hb, h11⟩
      · rw [em]
        rfl
      · have hj2 : j < fh G + 1 := hj
        show mSt M' (sC v Gs + (cn v 1205 (ff G) + cn v 1207 (ff G)) + j) = va_up (fv G) (fh G) (fv F (fh F - 1)) j
        by_cases e9 : j = fh G
        · rw [e9, va_up_self, Nat.add_assoc (sC v Gs)]
          exact hv9.resolve_left e
        · rw [va_up_ne _ _ e9]
          exact hlow.1.2.2.2.2 j (by omega)
/-- what enter leaves -/
def enC (M M' : mKt) (n f h p l dp : Nat) : Prop := mI M' 406 = nI (h + l) ∧ mI M' 407 = nI (n + 1) ∧ mI M' 411 = nI (max dp (n + 1)) ∧ (∀ id, id ≠ 406 → id ≠ 407 → id ≠ 411 → mI M' id = mI M id) ∧ M'.2.1 = M.2.1 ∧ M'.2.2.1 = M.2.2.1 ∧ mRo M' n = some (200 + 12 * f) ∧ mNx M' n = nI 0 ∧ mFl M' n = nI (h - p) ∧ (∀ k, k ≠ n → mRo M' k = mRo M k ∧ mNx M' k = mNx M k ∧ mFl M' k = mFl M k) ∧ (∀ k, k < l → mSt M' (h + k) = 0) ∧ (∀ k, k < h → mSt M' k = mSt M k) ∧ mBy M' = mBy M
theorem cRp.en (hr : cRp v (F :: Fs, U) M) {g : Nat} (hp : cn v 1205 g ≤ fh F) (hE : enC M M' (Fs.length + 1) g (fBz v F Fs + fh F) (cn v 1205 g) (cn v 1207 g) U.2.1) : cRp v (aCa v F Fs U g) M' := by
  obtain ⟨r1, r2, ⟨⟨q1, q2, q3, q4, q5⟩, r3⟩, r4, r5⟩ := hr
  have hfB : fBz v F Fs = sC v Fs + (cn v 1205 (ff F) + cn v 1207 (ff F)) := rfl
  obtain ⟨e1, e2, e3, e4, e5, e6, e7, e8, e9, e10, e11, e12, e13⟩ := hE
  have hs : sC v (fDr F (cn v 1205 g) :: Fs) = fBz v F Fs + fh F - cn v 1205 g := by
    show sC v Fs + (cn v 1205 (ff F) + cn v 1207 (ff F) + (fh F - cn v 1205 g)) = _
    omega
  have hlow : lo7 M M' (Fs.length + 1) (fBz v F Fs + fh F) := ⟨fun k hk => e10 k (by omega), fun k hk => e12 k hk⟩
  have hF9 : cF v M Fs.length (sC v Fs) (fDr F (cn v 1205 g)) := ⟨q1, q2, q3, q4, fun j hj => q5 j (by have : j < fh F - cn v 1205 g := hj; omega)⟩
  refine ⟨e1.trans ?_, e2, ⟨⟨e7, e8, ?_, fun k hk => ?_, fun j hj => absurd hj (Nat.not_lt_zero j)⟩, hF9.lo (hlow.le (Nat.le_refl _) ?_), r3.lo (hlow.le (by omega) (by omega))⟩, fun k hk => by rw [e13]; exact r4 k hk, e3⟩
  · show nI (fBz v F Fs + fh F + cn v 1207 g) = nI (sC v (fDr F (cn v 1205 g) :: Fs) + (cn v 1205 g + cn v 1207 g + 0))
    rw [hs]
    congr 1
    omega
  · refine e9.trans ?_
    rw [hs]
  · show mSt M' (sC v (fDr F (cn v 1205 g) :: Fs) + k) = if k < cn v 1205 g then fv F (fh F - cn v 1205 g + k) else 0
    have hk2 : k < cn v 1205 g + cn v 1207 g := hk
    rw [hs]
    by_cases e : k < cn v 1205 g
    · rw [if_pos e, e12 _ (by omega), show fBz v F Fs + fh F - cn v 1205 g + k = fBz v F Fs + (fh F - cn v 1205 g + k) by omega]
      exact q5 _ (by omega)
    · rw [if_neg e, show fBz v F Fs + fh F - cn v 1205 g + k = fBz v F Fs + fh F + (k - cn v 1205 g) by omega]
      exact e11 _ (by omega)
  · show sC v Fs + (cn v 1205 (ff F) + cn v 1207 (ff F) + (fh F - cn v 1205 g)) ≤ _
    omega
theorem cRp.st {f : Nat} {x y : Int64} (hE : enC M M' 0 f (cn v 1205 f) (cn v 1205 f) (cn v 1207 f) 0) (hm : ∀ k, k < 1024 → mBy M k = mG v 24 k) (ha : ∀ k, k < cn v 1205 f → mSt M k = if k = 0 then x else if k = 1 then y else 0) : cRp v (aBe v f x y) M' := by
  obtain ⟨e1, e2, e3, e4, e5, e6, e7, e8, e9, e10, e11, e12, e13⟩ := hE
  rw [Nat.sub_self] at e9
  refine ⟨e1.trans ?_, e2, ⟨⟨e7, e8, e9, fun k hk => ?_, fun j hj => absurd hj (Nat.not_lt_zero j)⟩, trivial⟩, fun k hk => by rw [e13]; exact hm k hk, e3⟩
  · show _ = nI (0 + (cn v 1205 f + cn v 1207 f + 0))
    congr 1
    omega
  · show mSt M' (0 + k) = if k < cn v 1205 f then (if k = 0 then x else if k = 1 then y else 0) else 0
    have hk2 : k < cn v 1205 f + cn v 1207 f := hk
    rw [Nat.zero_add]
    by_cases e : k < cn v 1205 f
    · rw [if_pos e, e12 _ e]
      exact ha k e
    · rw [if_neg e, show k = cn v 1205 f + (k - cn v 1205 f) by omega]
      exact e11 _ (by omega)
/-- bounds -/
theorem sC_b {Ss : List Nat} (hs : sOK v Ss) : ∀ (L : List aF) (r : Nat), lOK v r L → sC v L ≤ 68 * L.length
  | [], _, _ => Nat.zero_le _
  | F :: Fs, r, h => by
    have h1 := sC_b hs Fs _ h.2
    have h2 := h.1.2.2.1
    have h4 := h.1.2.1
    have h5 := hs.sz h.1.1
    have h6 := (rg_1205 hs.1 h.1.1.1).2
    have h7 := (rg_1207 hs.1 h.1.1.1).2
    show sC v Fs + (cn v 1205 (ff F) + cn v 1207 (ff F) + fh F) ≤ 68 * (Fs.length + 1)
    omega
end ZCR
