/-- the machine's state: its ints by field, its value, its slots; stack, routines, nexts, floors, bytes -/
abbrev mKt : Type := (Nat → Int32) × Int64 × Option Nat × (Nat → Int64) × (Nat → Option Nat) × (Nat → Int32) × (Nat → Int32) × (Nat → Int32)
/-- W with the machine's state M -/
def mW (W : zO) (M : mKt) : zO := fun c => if c = 14 then ((W 14).1, M.1, va_up (W 14).2.2.1 405 M.2.2.1, va_up (W 14).2.2.2.1 409 M.2.1, (W 14).2.2.2.2) else if c = 50 then eRj (W 50) M.2.2.2.1 else if c = 52 then eRq (W 52) M.2.2.2.2.1 else if c = 54 then eRi (W 54) M.2.2.2.2.2.1 else if c = 56 then eRi (W 56) M.2.2.2.2.2.2.1 else if c = 58 then eRi (W 58) M.2.2.2.2.2.2.2 else W c
section ZMW
variable {W : zO} {M : mKt} {c : Nat}
theorem mW_n (h : c ≠ 14 ∧ c ≠ 50 ∧ c ≠ 52 ∧ c ≠ 54 ∧ c ≠ 56 ∧ c ≠ 58) : mW W M c = W c := by
  unfold mW
  rw [if_neg h.1, if_neg h.2.1, if_neg h.2.2.1, if_neg h.2.2.2.1, if_neg h.2.2.2.2.1, if_neg h.2.2.2.2.2]
theorem mW_14 : mW W M 14 = ((W 14).1, M.1, va_up (W 14).2.2.1 405 M.2.2.1, va_up (W 14).2.2.2.1 409 M.2.1, (W 14).2.2.2.2) := if_pos rfl
theorem mW_50 : mW W M 50 = eRj (W 50) M.2.2.2.1 := rfl
theorem mW_52 : mW W M 52 = eRq (W 52) M.2.2.2.2.1 := rfl
theorem mW_54 : mW W M 54 = eRi (W 54) M.2.2.2.2.2.1 := rfl
theorem mW_56 : mW W M 56 = eRi (W 56) M.2.2.2.2.2.2.1 := rfl
theorem mW_58 : mW W M 58 = eRi (W 58) M.2.2.2.2.2.2.2 := rfl
theorem mW_a : oa (mW W M) c ↔ oa W c := by
  show (mW W M c).1 ↔ _
  unfold mW
  by_cases h : c = 14
  · rw [if_pos h, h]
  · rw [if_neg h]
    by_cases h1 : c = 50
    · rw [if_pos h1, h1]
    · rw [if_neg h1]
      by_cases h2 : c = 52
      · rw [if_pos h2, h2]
      · rw [if_neg h2]
        by_cases h3 : c = 54
        · rw [if_pos h3, h3]
        · rw [if_neg h3]
          by_cases h4 : c = 56
          · rw [if_pos h4, h4]
          · rw [if_neg h4]
            by_cases h5 : c = 58
            · rw [if_pos h5, h5]
            · rw [if_neg h5]
theorem mW_len : onn (mW W M) c = onn W c := by
  show (mW W M c).2.2.2.2.1 = _
  unfold mW
  by_cases h : c = 14
  · rw [if_pos h, h]
  · rw [if_neg h]
    by_cases h1 : c = 50
    · rw [if_pos h1, h1]
    · rw [if_neg h1]
      by_cases h2 : c = 52
      · rw [if_pos h2, h2]
      · rw [if_neg h2]
        by_cases h3 : c = 54
        · rw [if_pos h3, h3]
        · rw [if_neg h3]
          by_cases h4 : c = 56
          · rw [if_pos h4, h4]
          · rw [if_neg h4]
            by_cases h5 : c = 58
            · rw [if_pos h5, h5]
            · rw [if_neg h5]
theorem mW_q {id : Nat} (h : c ≠ 14 ∨ id ≠ 405) : oq (mW W M) c id = oq W c id := by
  show (mW W M c).2.2.1 id = _
  unfold mW
  by_cases h0 : c = 14
  · rw [if_pos h0, h0]
    exact va_up_ne _ _ (h.resolve_left (fun h9 => h9 h0))
  · rw [if_neg h0]
    by_cases h1 : c = 50
    · rw [if_pos h1, h1]
    · rw [if_neg h1]
      by_cases h2 : c = 52
      · rw [if_pos h2, h2]
      · rw [if_neg h2]
        by_cases h3 : c = 54
        · rw [if_pos h3, h3]
        · rw [if_neg h3]
          by_cases h4 : c = 56
          · rw [if_pos h4, h4]
          · rw [if_neg h4]
            by_cases h5 : c = 58
            · rw [if_pos h5, h5]
            · rw [if_neg h5]
theorem mW_wr (h : wr W) : wr (mW W M) := fun id hid d hd hk => by
  have hne : id ≠ 405 := (show ∀ id ∈ wL, id ≠ 405 by decide) id hid
  obtain ⟨g1, g2, g3, g4⟩ := h id hid d (mW_a.mp hd) hk
  exact ⟨(mW_q (Or.inr hne)).trans g1, mW_a.mpr g2, fun h9 => mW_len.trans (g3 h9), g4⟩
/-- what the machine's state is -/
theorem mW_me (W : zO) : mW W ((W 14).2.1, (W 14).2.2.2.1 409, (W 14).2.2.1 405, orj W 50, orq W 52, ori W 54, ori W 56, ori W 58) = W := by
  funext d
  unfold mW
  by_cases h : d = 14
  · rw [if_pos h, h]
    have e1 : va_up (W 14).2.2.1 405 ((W 14).2.2.1 405) = (W 14).2.2.1 := by
      funext j
      by_cases e : j = 405
      · rw [e, va_up_self]
      · rw [va_up_ne _ _ e]
    have e2 : va_up (W 14).2.2.2.1 409 ((W 14).2.2.2.1 409) = (W 14).2.2.2.1 := by
      funext j
      by_cases e : j = 409
      · rw [e, va_up_self]
      · rw [va_up_ne _ _ e]
    show ((W 14).1, (W 14).2.1, va_up (W 14).2.2.1 405 ((W 14).2.2.1 405), va_up (W 14).2.2.2.1 409 ((W 14).2.2.2.1 409), (W 14).2.2.2.2) = W 14
    rw [e1, e2]
  · rw [if_neg h]
    by_cases h1 : d = 50
    · rw [if_pos h1, h1]
    · rw [if_neg h1]
      by_cases h2 : d = 52
      · rw [if_pos h2, h2]
      · rw [if_neg h2]
        by_cases h3 : d = 54
        · rw [if_pos h3, h3]
        · rw [if_neg h3]
          by_cases h4 : d = 56
          · rw [if_pos h4, h4]
          · rw [if_neg h4]
            by_cases h5 : d = 58
            · rw [if_pos h5, h5]
            · rw [if_neg h5]
theorem mW_ext {W1 W2 : zO} (h14 : W1 14 = W2 14) (h50 : W1 50 = W2 50) (h52 : W1 52 = W2 52) (h54 : W1 54 = W2 54) (h56 : W1 56 = W2 56) (h58 : W1 58 = W2 58) (ho : ∀ d, d ≠ 14 ∧ d ≠ 50 ∧ d ≠ 52 ∧ d ≠ 54 ∧ d ≠ 56 ∧ d ≠ 58 → W1 d = W2 d) : W1 = W2 := by
  funext d
  by_cases h : d = 14
  · rw [h]; exact h14
  · by_cases h1 : d = 50
    · rw [h1]; exact h50
    · by_cases h2 : d = 52
      · rw [h2]; exact h52
      · by_cases h3 : d = 54
        · rw [h3]; exact h54
        · by_cases h4 : d = 56
          · rw [h4]; exact h56
          · by_cases h5 : d = 58
            · rw [h5]; exact h58
            · exact ho d ⟨h, h1, h2, h3, h4, h5⟩
theorem mW_pi {id : Nat} {x : Int32} : oI (mW W M) 14 id x = mW W (va_up M.1 id x, M.2) := by
  refine mW_ext ?_ (va_up_ne _ _ (by decide)) (va_up_ne _ _ (by decide)) (va_up_ne _ _ (by decide)) (va_up_ne _ _ (by decide)) (va_up_ne _ _ (by decide)) (fun d h => (va_up_ne _ _ h.1).trans ((mW_n h).trans (mW_n h).symm))
  rw [show oI (mW W M) 14 id x 14 = eI (mW W M 14) id x from va_up_self _ _ _, mW_14, mW_14]
theorem mW_pj {g : Nat → Int64} : oRj (mW W M) 50 g = mW W (M.1, M.2.1, M.2.2.1, g, M.2.2.2.2) := by
  refine mW_ext (va_up_ne _ _ (by decide)) ?_ (va_up_ne _ _ (by decide)) (va_up_ne _ _ (by decide)) (va_up_ne _ _ (by decide)) (va_up_ne _ _ (by decide)) (fun d h => (va_up_ne _ _ h.2.1).trans ((mW_n h).trans (mW_n h).symm))
  rw [show oRj (mW W M) 50 g 50 = eRj (mW W M 50) g from va_up_self _ _ _, mW_50, mW_50]
end ZMW
