/-- where the block that p opens ends; where its ELSE is -/
def clE (v : zV) (f p : Nat) : Nat := (fnd (fun e => decide (p < e) && decide (kw v f e = 27) && decide (kn (kq v f e) = kn (kq v f p) + 1)) (cn v 1208 f)).getD 0
theorem clE_c {v : zV} {f p : Nat} (h : cOK v f) (hp : p < cn v 1208 f) (hw : 23 ≤ kw v f p ∧ kw v f p ≤ 25) : kCl v f p (clE v f p) := by
  obtain ⟨e, hc⟩ := kCl_ex h hp hw
  have hT := bhT.e h hc
  have hf : fnd (fun e => decide (p < e) && decide (kw v f e = 27) && decide (kn (kq v f e) = kn (kq v f p) + 1)) (cn v 1208 f) = some e := fnd_iff.mpr ⟨hc.2.1, by
    rw [decide_eq_true hc.1, decide_eq_true hc.2.2.1, decide_eq_true hc.2.2.2.1]
    rfl, fun y hy => by
    by_cases h1 : p < y
    · by_cases h2 : kw v f y = 27
      · by_cases h3 : kn (kq v f y) = kn (kq v f p) + 1
        · exact absurd ⟨h3, Or.inl h2⟩ (hT.2.2.2.1 y h1 hy)
        · rw [decide_eq_false h3, Bool.and_false]
      · rw [decide_eq_false h2, Bool.and_false, Bool.false_and]
    · rw [decide_eq_false h1, Bool.false_and, Bool.false_and]⟩
  unfold clE
  rw [hf]
  exact hc
def clX (v : zV) (f p : Nat) : Option Nat := ke (kq v f (clE v f p)) (kn (kq v f p))
/-- an open function: which, its next word, how many values, its locals, its values; its blocks: how many, openers, heights -/
abbrev aF : Type := Nat × Nat × Nat × (Nat → Int64) × (Nat → Int64) × Nat × (Nat → Nat) × (Nat → Nat)
abbrev ff (F : aF) : Nat := F.1
abbrev fa (F : aF) : Nat := F.2.1
abbrev fh (F : aF) : Nat := F.2.2.1
abbrev fc (F : aF) : Nat → Int64 := F.2.2.2.1
abbrev fv (F : aF) : Nat → Int64 := F.2.2.2.2.1
abbrev fn (F : aF) : Nat := F.2.2.2.2.2.1
abbrev fo (F : aF) : Nat → Nat := F.2.2.2.2.2.2.1
abbrev fb (F : aF) : Nat → Nat := F.2.2.2.2.2.2.2
abbrev fGo (F : aF) (k : Nat) : aF := (ff F, k, F.2.2)
abbrev fDr (F : aF) (n : Nat) : aF := (ff F, fa F, fh F - n, F.2.2.2)
abbrev fPu (F : aF) (x : Int64) : aF := (ff F, fa F, fh F + 1, fc F, va_up (fv F) (fh F) x, F.2.2.2.2.2)
abbrev fLo (F : aF) (i : Nat) (x : Int64) : aF := (ff F, fa F, fh F, va_up (fc F) i x, F.2.2.2.2)
abbrev fKe (F : aF) (b m : Nat) : aF := (ff F, fa F, b + m, fc F, (if m = 0 then fv F else va_up (fv F) b (fv F (fh F - 1))), F.2.2.2.2.2)
abbrev fOp (F : aF) (p : Nat) : aF := (ff F, fa F, fh F, fc F, fv F, fn F + 1, va_up (fo F) (fn F) p, va_up (fb F) (fn F) (fh F))
abbrev fCu (F : aF) (n : Nat) : aF := (ff F, fa F, fh F, fc F, fv F, n, F.2.2.2.2.2.2)
/-- memory, deepest, the last value -/
abbrev aU : Type := (Nat → Int32) × Nat × Int64
abbrev aM : Type := List aF × aU
/-- g is called -/
abbrev aCa (v : zV) (F : aF) (Fs : List aF) (U : aU) (g : Nat) : aM := ((g, 0, 0, (fun k => if k < cn v 1205 g then fv F (fh F - cn v 1205 g + k) else 0), (fun _ => 0), 0, (fun _ => 0), fun _ => 0) :: fDr F (cn v 1205 g) :: Fs, U.1, max U.2.1 (Fs.length + 2), U.2.2)
/-- the upper function is left -/
def aLv (v : zV) (F : aF) (Fs : List aF) (U : aU) : aM := match Fs with
  | [] => ([], U.1, U.2.1, if cn v 1206 (ff F) = 0 then 0 else fv F (fh F - 1))
  | G :: Gs => ((if cn v 1206 (ff F) = 0 then G else fPu G (fv F (fh F - 1))) :: Gs, U)
/-- behind a jump out of a blocks: the function's end stands for the function itself -/
def aBr (v : zV) (F : aF) (a : Nat) : aF := if a = fn F then fGo F (cn v 1208 (ff F)) else if kw v (ff F) (fo F (fn F - 1 - a)) = 24 then fGo (fKe (fCu F (fn F - 1 - a + 1)) (fb F (fn F - 1 - a)) 0) (fo F (fn F - 1 - a) + 1) else fGo (fKe (fCu F (fn F - 1 - a)) (fb F (fn F - 1 - a)) (ka v (ff F) (fo F (fn F - 1 - a)))) (clE v (ff F) (fo F (fn F - 1 - a)) + 1)
/-- where an IF goes that isn't taken -/
abbrev clT (v : zV) (f p : Nat) : Nat := match clX v f p with
  | some x => x
  | none => clE v f p
/-- a call, if there is room -/
abbrev aCl (v : zV) (F : aF) (Fs : List aF) (U : aU) (g : Nat) : Nat × aM := if Fs.length + 1 = 40 then (6, F :: Fs, U) else (0, aCa v F Fs U g)
/-- a word w with number a (as an int: c) of F; F1 = F, a word on -/
def aSw (v : zV) (Ss : List Nat) (w a : Nat) (c : Int32) (F F1 : aF) (Fs : List aF) (U : aU) : Nat × aM :=
  if 3 ≤ w ∧ w ≤ 16 then (if badQ w (fv F (fh F - 2)) (fv F (fh F - 1)) then (2, F :: Fs, U) else (0, fPu (fDr F1 2) (wkd w (fv F (fh F - 2)) (fv F (fh F - 1))) :: Fs, U))
  else if w = 0 then (0, fPu F1 c.toInt64 :: Fs, U)
  else if w = 1 then (0, fPu F1 (fc F a) :: Fs, U)
  else if w = 2 then (0, fLo (fDr F1 1) a (fv F (fh F - 1)) :: Fs, U)
  else if w = 17 then (0, fPu (fDr F1 3) (if fv F (fh F - 1) = 0 then fv F (fh F - 2) else fv F (fh F - 3)) :: Fs, U)
  else if w = 18 then (0, fDr F1 1 :: Fs, U)
  else if w = 19 then (if outP (fv F (fh F - 1)) a 8 then (3, F :: Fs, U) else (0, fPu (fDr F1 1) (ldR U.1 ((fv F (fh F - 1)).toInt.toNat + a) 8 8) :: Fs, U))
  else if w = 21 then (if outP (fv F (fh F - 1)) a 1 then (3, F :: Fs, U) else (0, fPu (fDr F1 1) (ldR U.1 ((fv F (fh F - 1)).toInt.toNat + a) 1 1) :: Fs, U))
  else if w = 20 then (if outP (fv F (fh F - 2)) a 8 then (3, F :: Fs, U) else (0, fDr F1 2 :: Fs, pB U.1 ((fv F (fh F - 2)).toInt.toNat + a) (fv F (fh F - 1)) 8, U.2))
  else if w = 22 then (if outP (fv F (fh F - 2)) a 1 then (3, F :: Fs, U) else (0, fDr F1 2 :: Fs, pB U.1 ((fv F (fh F - 2)).toInt.toNat + a) (fv F (fh F - 1)) 1, U.2))
  else if w = 23 ∨ w = 24 then (0, fOp F1 (fa F) :: Fs, U)
  else if w = 25 then (0, (if fv F (fh F - 1) = 0 then (match clX v (ff F) (fa F) with
      | some x => fGo (fOp (fDr F1 1) (fa F)) (x + 1)
      | none => fGo (fDr F1 1) (clE v (ff F) (fa F) + 1)) else fOp (fDr F1 1) (fa F)) :: Fs, U)
  else if w = 26 then (0, fGo F (clE v (ff F) (fo F (fn F - 1))) :: Fs, U)
  else if w = 27 then (0, fCu F1 (fn F - 1) :: Fs, U)
  else if w = 28 then (0, aBr v F1 a :: Fs, U)
  else if w = 29 then (0, (if fv F (fh F - 1) = 0 then fDr F1 1 else aBr v (fDr F1 1) a) :: Fs, U)
  else if w = 30 then (0, fGo F (cn v 1208 (ff F)) :: Fs, U)
  else if w = 31 then (match fO v (16 * (ff F / 8) + a) with
    | none => (7, F :: Fs, U)
    | some g => aCl v F1 Fs U g)
  else if w = 32 then (if fv F (fh F - 1) < 1 ∨ (Ss.length : Int) < (fv F (fh F - 1)).toInt then (4, F :: Fs, U) else if sh v (Ss.getD ((fv F (fh F - 1)).toInt.toNat - 1) 0) = a then aCl v (fDr F1 1) Fs U (Ss.getD ((fv F (fh F - 1)).toInt.toNat - 1) 0) else (5, F :: Fs, U))
  else if w = 33 then (0, fPu F1 (nI (aO v (16 * (ff F / 8) + a))).toInt64 :: Fs, U)
  else if w = 34 then (0, fPu F1 (nI (slN Ss (fO v (16 * (ff F / 8) + a)))).toInt64 :: Fs, U)
  else (0, fPu F1 1024 :: Fs, U)
abbrev aSp (v : zV) (Ss : List Nat) (F : aF) (Fs : List aF) (U : aU) : Nat × aM := aSw v Ss (kw v (ff F) (fa F)) (ka v (ff F) (fa F)) (v.1 1210 (60 * ff F + fa F)) F (fGo F (fa F + 1)) Fs U
/-- what a run answers: its end, its value, the fuel that is left, deepest, memory -/
abbrev aR : Type := Nat × Int64 × Nat × Nat × (Nat → Int32)
/-- one move with n fuel: left -/
def aMi (v : zV) (Ss : List Nat) (n : Nat) (A : aM) : aR ⊕ (Nat × aM) := match A.1 with
  | [] => .inl (0, A.2.2.2, n, A.2.2.1, A.2.1)
  | F :: Fs => if cn v 1208 (ff F) ≤ fa F then .inr (n, aLv v F Fs A.2) else if n = 0 then .inl (1, 0, 0, A.2.2.1, A.2.1) else if (aSp v Ss F Fs A.2).1 = 0 then .inr (n - 1, (aSp v Ss F Fs A.2).2) else .inl ((aSp v Ss F Fs A.2).1, 0, n - 1, A.2.2.1, A.2.1)
def aIt (v : zV) (Ss : List Nat) : Nat → Nat → aM → Option aR
  | 0, _, _ => none
  | t + 1, n, A => match aMi v Ss n A with
    | .inl R => some R
    | .inr B => aIt v Ss t B.1 B.2
/-- a run ends with R -/
def aRn (v : zV) (Ss : List Nat) (n : Nat) (A : aM) (R : aR) : Prop := ∃ t, aIt v Ss t n A = some R
section ARN
variable {v : zV} {Ss : List Nat} {n n' : Nat} {A A' : aM} {R R' : aR}
theorem aRn.dn (h : aMi v Ss n A = .inl R) : aRn v Ss n A R := ⟨1, by unfold aIt; rw [h]⟩
theorem aRn.st (h : aMi v Ss n A = .inr (n', A')) (h2 : aRn v Ss n' A' R) : aRn v Ss n A R := by
  obtain ⟨t, ht⟩ := h2
  exact ⟨t + 1, by unfold aIt; rw [h]; exact ht⟩
theorem aIt_1 : ∀ (t n : Nat) (A : aM) (R : aR), aIt v Ss t n A = some R → aIt v Ss (t + 1) n A = some R
  | 0, n, A, R, h => by cases h
  | t + 1, n, A, R, h => by
    unfold aIt at h ⊢
    cases hm : aMi v Ss n A with
    | inl R1 => rw [hm] at h; exact h
    | inr B => rw [hm] at h; exact aIt_1 t B.1 B.2 R h
theorem aIt_m {t : Nat} (h : aIt v Ss t n A = some R) : ∀ d, aIt v Ss (t + d) n A = some R
  | 0 => h
  | d + 1 => aIt_1 (t + d) n A R (aIt_m h d)
theorem aRn.un (h : aRn v Ss n A R) (h2 : aRn v Ss n A R') : R = R' := by
  obtain ⟨t, ht⟩ := h
  obtain ⟨s, hs⟩ := h2
  have h1 := aIt_m ht s
  have h3 := aIt_m hs t
  rw [Nat.add_comm] at h3
  exact Option.some.inj (h1.symm.trans h3)
end ARN
