/-- every entry is a stored byte -/
def aB (L : List Int32) : Prop := ∀ y, y ∈ L → ∃ x, y = bv x
theorem aB.nil : aB [] := fun y hy => by cases hy
theorem aB.cons {x : Int32} {L : List Int32} (h : aB L) : aB (bv x :: L) := fun y hy => by
  rcases List.mem_cons.mp hy with e | e
  · exact ⟨x, e⟩
  · exact h y e
theorem aB.app {L M : List Int32} (h : aB L) (h2 : aB M) : aB (L ++ M) := fun y hy => by
  rcases List.mem_append.mp hy with e | e
  · exact h y e
  · exact h2 y e
theorem aB.hb {L : List Int32} (h : aB L) : ∀ k, k < L.length → ∃ x, L.getD k 0 = bv x := fun k hk => by
  rw [List.getD_eq_getElem?_getD, List.getElem?_eq_getElem hk]
  exact h _ (List.getElem_mem hk)
theorem aB_unsF : ∀ k n, aB (unsF k n)
  | 0, n => aB.nil.cons
  | k + 1, n => by
    unfold unsF
    split
    · exact aB.nil.cons
    · exact (aB_unsF k (n / 128)).cons
theorem aB_uns (n : Nat) : aB (uns n) := aB_unsF 4 n
theorem aB_sgnF : ∀ k z, aB (sgnF k z)
  | 0, z => aB.nil.cons
  | k + 1, z => by
    unfold sgnF
    split
    · exact (aB_sgnF k (z / 128)).cons
    · exact aB.nil.cons
theorem aB_sgn (x : Int32) : aB (sgn x) := aB_sgnF 4 x.toInt
theorem aB_wid (n : Nat) : aB (wid n) := aB.nil.cons.cons.cons.cons.cons
theorem aB_szd {L : List Int32} {t : Nat} (h : aB L) : aB (szd L t) := aB.app (fun y hy => h y (List.mem_of_mem_take hy)) (aB.app (aB_uns _) (fun y hy => h y (List.mem_of_mem_drop hy)))
theorem wR_ok (v : zV) (Ts Ss : List Nat) (w : Nat) (a : Int32) (t : Option Nat) (d : Nat) : aB (wR v Ts Ss w a t d) ∧ (wR v Ts Ss w a t d).length ≤ 6 := by
  have hu := uns_b a.toNatClampNeg
  have hs := sgn_b a
  have hs2 := sgn_b (nI 1024)
  unfold wR
  by_cases h1 : w = 0
  · rw [if_pos h1]; exact ⟨aB_sgn _, by omega⟩
  · rw [if_neg h1]
    by_cases h2 : w = 1 ∨ w = 2 ∨ w = 28 ∨ w = 29
    · rw [if_pos h2]; exact ⟨aB_uns _, by omega⟩
    · rw [if_neg h2]
      by_cases h3 : 14 ≤ w ∧ w ≤ 16
      · rw [if_pos h3]; exact ⟨aB.nil.cons, by decide⟩
      · rw [if_neg h3]
        by_cases h4 : w = 19 ∨ w = 20
        · rw [if_pos h4]; exact ⟨(aB_uns _).cons, by rw [List.length_cons]; omega⟩
        · rw [if_neg h4]
          by_cases h5 : w = 21 ∨ w = 22
          · rw [if_pos h5]; exact ⟨(aB_uns _).cons, by rw [List.length_cons]; omega⟩
          · rw [if_neg h5]
            by_cases h6 : 23 ≤ w ∧ w ≤ 25
            · rw [if_pos h6]; exact ⟨aB.nil.cons, by rw [List.length_singleton]; omega⟩
            · rw [if_neg h6]
              by_cases h7 : w = 31
              · rw [if_pos h7]
                cases t with
                | none => exact ⟨aB.nil, Nat.zero_le _⟩
                | some z => exact ⟨aB_wid _, by rw [wid_l]; omega⟩
              · rw [if_neg h7]
                by_cases h8 : w = 32
                · rw [if_pos h8]; exact ⟨(aB_wid _).app aB.nil.cons, by rw [List.length_append, wid_l]; exact Nat.le_refl _⟩
                · rw [if_neg h8]
                  by_cases h9 : w = 33
                  · rw [if_pos h9]; exact ⟨aB_wid _, by rw [wid_l]; omega⟩
                  · rw [if_neg h9]
                    by_cases ha : w = 34
                    · rw [if_pos ha]; exact ⟨aB_wid _, by rw [wid_l]; omega⟩
                    · rw [if_neg ha]
                      by_cases hb : w = 35
                      · rw [if_pos hb]; exact ⟨aB_sgn _, by omega⟩
                      · rw [if_neg hb]; exact ⟨aB.nil, Nat.zero_le _⟩
theorem wB_ok (v : zV) (Ts Ss : List Nat) (o w : Nat) (a : Int32) : aB (wB v Ts Ss o w a) ∧ (wB v Ts Ss o w a).length ≤ 8 := by
  obtain ⟨h1, h2⟩ := wR_ok v Ts Ss w a (fO v (16 * o + a.toNatClampNeg)) (aO v (16 * o + a.toNatClampNeg))
  have h3 : aB (wP w) ∧ (wP w).length ≤ 1 := by
    unfold wP
    split
    · exact ⟨aB.nil.cons, Nat.le_refl _⟩
    · exact ⟨aB.nil, Nat.zero_le _⟩
  unfold wB
  refine ⟨h3.1.app h1.cons, ?_⟩
  rw [List.length_append, List.length_cons]
  have h4 := h3.2
  omega
/-- the first k words of a function; its body; it as written -/
def wLs (v : zV) (Ts Ss : List Nat) (f : Nat) : Nat → List Int32
  | 0 => []
  | k + 1 => wLs v Ts Ss f k ++ wB v Ts Ss (f / 8) (cn v 1209 (60 * f + k)) (v.1 1210 (60 * f + k))
theorem wLs_ok (v : zV) (Ts Ss : List Nat) (f : Nat) : ∀ k, aB (wLs v Ts Ss f k) ∧ (wLs v Ts Ss f k).length ≤ 8 * k
  | 0 => ⟨aB.nil, Nat.le_refl _⟩
  | k + 1 => by
    obtain ⟨h1, h2⟩ := wLs_ok v Ts Ss f k
    obtain ⟨h3, h4⟩ := wB_ok v Ts Ss (f / 8) (cn v 1209 (60 * f + k)) (v.1 1210 (60 * f + k))
    refine ⟨h1.app h3, ?_⟩
    show (wLs v Ts Ss f k ++ wB v Ts Ss (f / 8) (cn v 1209 (60 * f + k)) (v.1 1210 (60 * f + k))).length ≤ 8 * (k + 1)
    rw [List.length_append]
    omega
def lcB (v : zV) (f : Nat) : List Int32 := if 0 < cn v 1207 f then [bv (nI 1), bv (nI (cn v 1207 f)), bv (nI 126)] else [bv (nI 0)]
def fnB (v : zV) (Ts Ss : List Nat) (f : Nat) : List Int32 := lcB v f ++ (wLs v Ts Ss f (cn v 1208 f) ++ [bv (nI 11)])
def fnW (v : zV) (Ts Ss : List Nat) (f : Nat) : List Int32 := uns (fnB v Ts Ss f).length ++ fnB v Ts Ss f
