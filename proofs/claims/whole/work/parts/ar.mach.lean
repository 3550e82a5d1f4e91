/-- where the block that p opens ends; where its ELSE is -/
def clE (v : zV) (f p : Nat) : Nat := (fnd (fun e => decide (p < e) && decide (kw v f e = 27) && decide (kn (kq v f e) = kn (kq v f p) + 1)) (cn v 1208 f)).getD 0
theorem clE_c {v : zV} {f p : Nat} (h : cOK v f) (hp : p < cn v 1208 f) (hw : 23 ≤ kw v f p ∧ kw v f p ≤ 25) : kCl v f p (clE v f p) := by
  obtain ⟨e, hc⟩ := kCl_ex h hp hw
  have hT := bhT.e h hc
  have hf : fnd (fun e => decide (p < e) && decide (kw v f e = 27) && decide (kn (kq v f e) = kn (kq v f p) + 1)) (cn v 1208 f) = some e := fnd_iff.mpr ⟨hc.2.1, by
    rw [decide_eq_true hc.1, decide_eq_true hc.2.2.1, decide_eq_true hc.2.2.2.1]
    rfl, fun y hy => by
    by_cases h1 : p < y
    · by_cases h2 : kw v f y = 27
      · by_cases h3 : kn (kq v f y) = kn (kq v f p) + 1
        · exact absurd ⟨h3, Or.inl h2⟩ (hT.2.2.2.1 y h1 hy)
        · rw [decide_eq_false h3, Bool.and_false]
      · rw [decide_eq_false h2, Bool.and_false, Bool.false_and]
    · rw [decide_eq_false h1, Bool.false_and, Bool.false_and]⟩
  unfold clE
  rw [hf]
  exact hc
def clX (v : zV) (f p : Nat) : Option Nat := ke (kq v f (clE v f p)) (kn (kq v f p))
/-- an open function: which, its next word, how many values, its locals, its values -/
abbrev aF : Type := Nat × Nat × Nat × (Nat → Int64) × (Nat → Int64)
abbrev ff (F : aF) : Nat := F.1
abbrev fa (F : aF) : Nat := F.2.1
abbrev fh (F : aF) : Nat := F.2.2.1
abbrev fc (F : aF) : Nat → Int64 := F.2.2.2.1
abbrev fv (F : aF) : Nat → Int64 := F.2.2.2.2
abbrev fGo (F : aF) (k : Nat) : aF := (ff F, k, F.2.2)
abbrev fDr (F : aF) (n : Nat) : aF := (ff F, fa F, fh F - n, F.2.2.2)
abbrev fPu (F : aF) (x : Int64) : aF := (ff F, fa F, fh F + 1, fc F, va_up (fv F) (fh F) x)
abbrev fLo (F : aF) (i : Nat) (x : Int64) : aF := (ff F, fa F, fh F, va_up (fc F) i x, fv F)
abbrev fKe (F : aF) (b m : Nat) : aF := (ff F, fa F, b + m, fc F, if m = 0 then fv F else va_up (fv F) b (fv F (fh F - 1)))
/-- the machine: open functions, memory -/
abbrev aM : Type := Nat × (Nat → aF) × (Nat → Int32)
abbrev aN (A : aM) : Nat := A.1
abbrev aTp (A : aM) : aF := A.2.1 (A.1 - 1)
abbrev aSt (A : aM) (F : aF) : aM := (A.1, va_up A.2.1 (A.1 - 1) F, A.2.2)
/-- g is called -/
def aCa (v : zV) (A : aM) (F : aF) (g : Nat) : aM := (A.1 + 1, va_up (va_up A.2.1 (A.1 - 1) (fDr F (cn v 1205 g))) A.1 (g, 0, 0, fun k => if k < cn v 1205 g then fv F (fh F - cn v 1205 g + k) else 0, fun _ => 0), A.2.2)
/-- the upper function is left -/
def aLv (v : zV) (A : aM) : aM := (A.1 - 1, if cn v 1206 (ff (aTp A)) = 0 then A.2.1 else va_up A.2.1 (A.1 - 2) (fPu (A.2.1 (A.1 - 2)) (fv (aTp A) (fh (aTp A) - 1))), A.2.2)
/-- behind a jump out of a blocks: the function's end stands for the function itself -/
def aBr (v : zV) (F : aF) (a : Nat) : aF := if kn (kq v (ff F) (fa F)) - 1 - a = 0 then fGo F (cn v 1208 (ff F)) else if kw v (ff F) (ko (kq v (ff F) (fa F)) (kn (kq v (ff F) (fa F)) - 1 - a)) = 24 then fGo (fKe F (kb (kq v (ff F) (fa F)) (kn (kq v (ff F) (fa F)) - 1 - a)) 0) (ko (kq v (ff F) (fa F)) (kn (kq v (ff F) (fa F)) - 1 - a) + 1) else fGo (fKe F (kb (kq v (ff F) (fa F)) (kn (kq v (ff F) (fa F)) - 1 - a)) (ka v (ff F) (ko (kq v (ff F) (fa F)) (kn (kq v (ff F) (fa F)) - 1 - a)))) (clE v (ff F) (ko (kq v (ff F) (fa F)) (kn (kq v (ff F) (fa F)) - 1 - a)) + 1)
/-- what is known of an open function's place; r: what the function above it will leave -/
def fOK (v : zV) (F : aF) (r : Nat) : Prop := ff F < 48 ∧ ff F % 8 < cn v 1202 (ff F / 8) ∧ cOK v (ff F) ∧ fa F ≤ cn v 1208 (ff F) ∧ fh F + r ≤ 60 ∧ (fa F < cn v 1208 (ff F) → (∀ b, b < kn (kq v (ff F) (fa F)) → kdd (kq v (ff F) (fa F)) b = false) ∧ fh F + r = kh (kq v (ff F) (fa F))) ∧ (fa F = cn v 1208 (ff F) → cn v 1206 (ff F) ≤ fh F + r)
/-- all open functions are in order -/
def aOK (v : zV) (A : aM) : Prop := A.1 ≤ 40 ∧ ∀ i, i < A.1 → fOK v (A.2.1 i) (if i + 1 < A.1 then cn v 1206 (ff (A.2.1 (i + 1))) else 0)
