/-- what the code check knows before word k -/
def kq (v : zV) (f k : Nat) : ckS := (kRun v f k).getD (kBeg v f)
/-- the code of f is good -/
def cOK (v : zV) (f : Nat) : Prop := (∀ k, k ≤ cn v 1208 f → kRun v f k = some (kq v f k)) ∧ kn (kq v f (cn v 1208 f)) = 1 ∧ (kC (kq v f (cn v 1208 f))).isSome = true
theorem cOK.of {v : zV} {f : Nat} (h : wpl v f = none) : cOK v f := by
  unfold wpl at h
  split at h
  · cases h
  · rename_i hf
    have hall : ∀ k, k < cn v 1208 f → (kRun v f (k + 1)).isNone = false := fnd_none.mp hf
    have hs : ∀ k, k ≤ cn v 1208 f → kRun v f k = some (kq v f k) := fun k hk => by
      unfold kq
      cases k with
      | zero => rfl
      | succ k =>
        have h9 := hall k (by omega)
        cases hr : kRun v f (k + 1) with
        | none => rw [hr] at h9; cases h9
        | some q => rfl
    refine ⟨hs, ?_⟩
    rw [hs _ (Nat.le_refl _)] at h
    have h2 : (if kn (kq v f (cn v 1208 f)) = 1 ∧ (kC (kq v f (cn v 1208 f))).isSome then none else some (cn v 1208 f)) = none := h
    by_cases h3 : kn (kq v f (cn v 1208 f)) = 1 ∧ (kC (kq v f (cn v 1208 f))).isSome = true
    · exact h3
    · rw [if_neg h3] at h2
      cases h2
abbrev kw (v : zV) (f k : Nat) : Nat := cn v 1209 (60 * f + k)
abbrev ka (v : zV) (f k : Nat) : Nat := (v.1 1210 (60 * f + k)).toNatClampNeg
theorem kq_s {v : zV} {f k : Nat} (h : cOK v f) (hk : k < cn v 1208 f) : kSt v f k (kq v f k) = some (kq v f (k + 1)) := by
  have h1 := h.1 (k + 1) (by omega)
  have h2 : kRun v f (k + 1) = (kRun v f k).bind (kSt v f k) := rfl
  rw [h2, h.1 k (by omega)] at h1
  exact h1
/-- one word on: the blocks -/
def kOne (w a k : Nat) (x : Nat) (q q' : ckS) : Prop := (23 ≤ w ∧ w ≤ 25 → q' = kOp (setH q x) k a) ∧ (w = 26 → q' = kElse (setH q (kb q (kn q - 1))) k) ∧ (w = 27 → ¬ kn q = 1 ∧ q' = kEnd (setH q (kb q (kn q - 1)))) ∧ (w = 28 ∨ w = 30 → ∃ y, q' = kDie (setH q y)) ∧ (¬ (23 ≤ w ∧ w ≤ 28) → ¬ w = 30 → ∃ y, q' = setH q y)
theorem kq_1 {v : zV} {f k : Nat} (h : cOK v f) (hk : k < cn v 1208 f) : kOne (kw v f k) (ka v f k) k (kX (kq v f k) (pTb.getD (kw v f k) 0)) (kq v f k) (kq v f (k + 1)) := by
  have hs := kq_s h hk
  rw [kSt_x v f k (kq v f k) rfl rfl] at hs
  have hy : kY (kq v f k) (pp v (f / 8) (cn v 1209 (60 * f + k)) (v.1 1210 (60 * f + k))) := by
    by_cases h9 : kY (kq v f k) (pp v (f / 8) (cn v 1209 (60 * f + k)) (v.1 1210 (60 * f + k)))
    · exact h9
    · rw [if_neg h9] at hs
      cases hs
  rw [if_pos hy] at hs
  show kOne (cn v 1209 (60 * f + k)) (v.1 1210 (60 * f + k)).toNatClampNeg k (kX (kq v f k) (pTb.getD (cn v 1209 (60 * f + k)) 0)) (kq v f k) (kq v f (k + 1))
  generalize hw : cn v 1209 (60 * f + k) = w at hs hy
  generalize kq v f (k + 1) = q' at hs
  generalize kq v f k = q at hs hy
  refine ⟨fun h1 => ?_, fun h1 => ?_, fun h1 => ?_, fun h1 => ?_, fun h1 h2 => ?_⟩
  · rw [(pp_t (w := w) (by omega) (by omega)).1, (pp_t (w := w) (by omega) (by omega)).2, kS2_o h1] at hs
    have e : puTb.getD w 0 = 0 := (show ∀ w : Nat, w < 36 → 23 ≤ w ∧ w ≤ 25 → puTb.getD w 0 = 0 by decide) w (by omega) h1
    rw [e] at hs
    exact (Option.some.inj hs).symm
  · subst h1
    rw [kS2_e] at hs
    split at hs
    · exact (Option.some.inj hs).symm
    · cases hs
  · subst h1
    rw [kS2_n] at hs
    split at hs
    · rename_i h9
      exact ⟨h9.1, (Option.some.inj hs).symm⟩
    · cases hs
  · rcases h1 with h1 | h1
    · subst h1
      rw [kS2_b (Or.inl rfl) rfl] at hs
      split at hs
      · have h9 := (Option.some.inj hs).symm
        exact ⟨_, h9.trans (if_pos rfl)⟩
      · cases hs
    · subst h1
      rw [kS2_r] at hs
      split at hs
      · exact ⟨_, (Option.some.inj hs).symm⟩
      · cases hs
  · by_cases h3 : w = 29
    · subst h3
      rw [kS2_b (Or.inr rfl) rfl] at hs
      split at hs
      · have h9 := (Option.some.inj hs).symm
        exact ⟨_, h9.trans (if_neg (by decide))⟩
      · cases hs
    · rw [kS2_d (by omega)] at hs
      exact ⟨_, (Option.some.inj hs).symm⟩
section ZKO
variable {v : zV} {f k w a x : Nat} {q q' : ckS}
theorem kOne.n (h : kOne w a k x q q') : (23 ≤ w ∧ w ≤ 25 → kn q' = kn q + 1) ∧ (w = 27 → ¬ kn q = 1 ∧ kn q' = kn q - 1) ∧ (¬ (23 ≤ w ∧ w ≤ 25) → ¬ w = 27 → kn q' = kn q) := by
  refine ⟨fun h1 => by rw [h.1 h1]; rfl, fun h1 => ⟨(h.2.2.1 h1).1, by rw [(h.2.2.1 h1).2]; rfl⟩, fun h1 h2 => ?_⟩
  by_cases h3 : w = 26
  · rw [h.2.1 h3]; rfl
  · by_cases h4 : w = 28 ∨ w = 30
    · obtain ⟨y, e⟩ := h.2.2.2.1 h4
      rw [e]; rfl
    · obtain ⟨y, e⟩ := h.2.2.2.2 (by omega) (by omega)
      rw [e]
/-- blocks below the upper one stay as they are -/
theorem kOne.lo (h : kOne w a k x q q') {b : Nat} (hb : b + 1 < kn q) : ko q' b = ko q b ∧ kl q' b = kl q b ∧ kb q' b = kb q b ∧ kdd q' b = kdd q b ∧ ke q' b = ke q b := by
  by_cases h1 : 23 ≤ w ∧ w ≤ 25
  · rw [h.1 h1]
    exact ⟨va_up_ne _ _ (show b ≠ kn q by omega), va_up_ne _ _ (show b ≠ kn q by omega), va_up_ne _ _ (show b ≠ kn q by omega), va_up_ne _ _ (show b ≠ kn q by omega), va_up_ne _ _ (show b ≠ kn q by omega)⟩
  · by_cases h2 : w = 26
    · rw [h.2.1 h2]
      exact ⟨rfl, rfl, rfl, va_up_ne _ _ (show b ≠ kn q - 1 by omega), va_up_ne _ _ (show b ≠ kn q - 1 by omega)⟩
    · by_cases h3 : w = 27
      · rw [(h.2.2.1 h3).2]
        exact ⟨rfl, rfl, rfl, rfl, rfl⟩
      · by_cases h4 : w = 28 ∨ w = 30
        · obtain ⟨y, e⟩ := h.2.2.2.1 h4
          rw [e]
          exact ⟨rfl, rfl, rfl, va_up_ne _ _ (show b ≠ kn q - 1 by omega), rfl⟩
        · obtain ⟨y, e⟩ := h.2.2.2.2 (by omega) (by omega)
          rw [e]
          exact ⟨rfl, rfl, rfl, rfl, rfl⟩
/-- the upper block -/
theorem kOne.up (h : kOne w a k x q q') (hn : 1 ≤ kn q) : ko q' (kn q - 1) = ko q (kn q - 1) ∧ kl q' (kn q - 1) = kl q (kn q - 1) ∧ kb q' (kn q - 1) = kb q (kn q - 1) ∧ (w = 26 → kdd q' (kn q - 1) = false ∧ ke q' (kn q - 1) = some k) ∧ (w = 28 ∨ w = 30 → kdd q' (kn q - 1) = true) ∧ (¬ w = 26 → ke q' (kn q - 1) = ke q (kn q - 1)) ∧ (¬ w = 26 → ¬ (w = 28 ∨ w = 30) → kdd q' (kn q - 1) = kdd q (kn q - 1)) := by
  by_cases h1 : 23 ≤ w ∧ w ≤ 25
  · rw [h.1 h1]
    have hne : kn q - 1 ≠ kn q := by omega
    exact ⟨va_up_ne _ _ hne, va_up_ne _ _ hne, va_up_ne _ _ hne, fun h9 => absurd h9 (by omega), fun h9 => absurd h9 (by omega), fun _ => va_up_ne _ _ hne, fun _ _ => va_up_ne _ _ hne⟩
  · by_cases h2 : w = 26
    · rw [h.2.1 h2]
      exact ⟨rfl, rfl, rfl, fun _ => ⟨va_up_self _ _ _, va_up_self _ _ _⟩, fun h9 => absurd h9 (by omega), fun h9 => absurd h2 h9, fun h9 => absurd h2 h9⟩
    · by_cases h3 : w = 27
      · rw [(h.2.2.1 h3).2]
        exact ⟨rfl, rfl, rfl, fun h9 => absurd h9 h2, fun h9 => absurd h9 (by omega), fun _ => rfl, fun _ _ => rfl⟩
      · by_cases h4 : w = 28 ∨ w = 30
        · obtain ⟨y, e⟩ := h.2.2.2.1 h4
          rw [e]
          exact ⟨rfl, rfl, rfl, fun h9 => absurd h9 h2, fun _ => va_up_self _ _ _, fun _ => rfl, fun _ h9 => absurd h4 h9⟩
        · obtain ⟨y, e⟩ := h.2.2.2.2 (by omega) (by omega)
          rw [e]
          exact ⟨rfl, rfl, rfl, fun h9 => absurd h9 h2, fun h9 => absurd h9 h4, fun _ => rfl, fun _ _ => rfl⟩
theorem kOne.op (h : kOne w a k x q q') (h1 : 23 ≤ w ∧ w ≤ 25) : ko q' (kn q) = k ∧ kl q' (kn q) = a ∧ kb q' (kn q) = x ∧ kdd q' (kn q) = false ∧ ke q' (kn q) = none ∧ kh q' = x := by
  rw [h.1 h1]
  exact ⟨va_up_self _ _ _, va_up_self _ _ _, va_up_self _ _ _, va_up_self _ _ _, va_up_self _ _ _, rfl⟩
end ZKO
/-- block b is open from p on up to k -/
def kOpn (v : zV) (f p b k : Nat) : Prop := p < k ∧ (23 ≤ kw v f p ∧ kw v f p ≤ 25) ∧ kn (kq v f p) = b ∧ 1 ≤ b ∧ kb (kq v f k) b = kX (kq v f p) (pTb.getD (kw v f p) 0) ∧ kl (kq v f k) b = ka v f p ∧ (∀ b', b' < b → ko (kq v f k) b' = ko (kq v f p) b' ∧ kl (kq v f k) b' = kl (kq v f p) b' ∧ kb (kq v f k) b' = kb (kq v f p) b' ∧ kdd (kq v f k) b' = kdd (kq v f p) b' ∧ ke (kq v f k) b' = ke (kq v f p) b') ∧ (∀ j, p < j → j ≤ k → b < kn (kq v f j) ∧ ko (kq v f j) b = p) ∧ (ke (kq v f k) b = none → ∀ j, p < j → j < k → ¬ (kw v f j = 26 ∧ kn (kq v f j) = b + 1)) ∧ ∀ x, ke (kq v f k) b = some x → p < x ∧ x < k ∧ kw v f x = 26 ∧ kn (kq v f x) = b + 1 ∧ ∀ j, p < j → j < x → ¬ (kw v f j = 26 ∧ kn (kq v f j) = b + 1)
theorem kOpn_all {v : zV} {f : Nat} (h : cOK v f) : ∀ k, k ≤ cn v 1208 f → 1 ≤ kn (kq v f k) ∧ ∀ b, 1 ≤ b → b < kn (kq v f k) → kOpn v f (ko (kq v f k) b) b k
  | 0, _ => by
    have e : kq v f 0 = kBeg v f := rfl
    rw [e]
    exact ⟨Nat.le_refl _, fun b h1 h2 => absurd h2 (by show ¬ b < 1; omega)⟩
  | k + 1, hk => by
    obtain ⟨hn, ih⟩ := kOpn_all h k (by omega)
    have h1 := kq_1 h (show k < cn v 1208 f by omega)
    obtain ⟨n1, n2, n3⟩ := h1.n
    have hn' : 1 ≤ kn (kq v f (k + 1)) := by
      by_cases c1 : 23 ≤ kw v f k ∧ kw v f k ≤ 25
      · rw [n1 c1]; omega
      · by_cases c2 : kw v f k = 27
        · have := n2 c2; omega
        · rw [n3 c1 c2]; exact hn
    refine ⟨hn', fun b hb1 hb2 => ?_⟩
    by_cases hbo : b < kn (kq v f k)
    · -- it was open before
      have hold := ih b hb1 hbo
      have hlow : ∀ b', b' < b → ko (kq v f (k + 1)) b' = ko (kq v f k) b' ∧ kl (kq v f (k + 1)) b' = kl (kq v f k) b' ∧ kb (kq v f (k + 1)) b' = kb (kq v f k) b' ∧ kdd (kq v f (k + 1)) b' = kdd (kq v f k) b' ∧ ke (kq v f (k + 1)) b' = ke (kq v f k) b' := fun b' hb' => h1.lo (by omega)
      have hme : ko (kq v f (k + 1)) b = ko (kq v f k) b ∧ kl (kq v f (k + 1)) b = kl (kq v f k) b ∧ kb (kq v f (k + 1)) b = kb (kq v f k) b ∧ ((ke (kq v f (k + 1)) b = ke (kq v f k) b ∧ ¬ (kw v f k = 26 ∧ kn (kq v f k) = b + 1)) ∨ (kw v f k = 26 ∧ kn (kq v f k) = b + 1 ∧ ke (kq v f (k + 1)) b = some k)) := by
        by_cases e : b + 1 < kn (kq v f k)
        · obtain ⟨q1, q2, q3, q4, q5⟩ := h1.lo e
          exact ⟨q1, q2, q3, Or.inl ⟨q5, fun h9 => by omega⟩⟩
        · have eb : b = kn (kq v f k) - 1 := by omega
          obtain ⟨q1, q2, q3, q4, q5, q6, q7⟩ := h1.up hn
          rw [← eb] at q1 q2 q3 q4 q5 q6 q7
          refine ⟨q1, q2, q3, ?_⟩
          by_cases c : kw v f k = 26
          · exact Or.inr ⟨c, by omega, (q4 c).2⟩
          · exact Or.inl ⟨q6 c, fun h9 => c h9.1⟩
      rw [hme.1]
      obtain ⟨o1, o2, o3, o4, o5, o6, o7, o8, o9, o10⟩ := hold
      refine ⟨by omega, o2, o3, o4, hme.2.2.1.trans o5, hme.2.1.trans o6, fun b' hb' => ?_, fun j j1 j2 => ?_, fun h9 j j1 j2 => ?_, fun x hx => ?_⟩
      · obtain ⟨q1, q2, q3, q4, q5⟩ := hlow b' hb'
        obtain ⟨r1, r2, r3, r4, r5⟩ := o7 b' hb'
        exact ⟨q1.trans r1, q2.trans r2, q3.trans r3, q4.trans r4, q5.trans r5⟩
      · rcases Nat.lt_or_ge j (k + 1) with h9 | h9
        · exact o8 j j1 (by omega)
        · rw [show j = k + 1 by omega]
          exact ⟨hb2, hme.1⟩
      · rcases hme.2.2.2 with ⟨e1, e2⟩ | ⟨e1, e2, e3⟩
        · rcases Nat.lt_or_ge j k with h8 | h8
          · exact o9 (e1.symm.trans h9) j j1 h8
          · rw [show j = k by omega]; exact e2
        · rw [e3] at h9; cases h9
      · rcases hme.2.2.2 with ⟨e1, e2⟩ | ⟨e1, e2, e3⟩
        · obtain ⟨x1, x2, x3, x4, x5⟩ := o10 x (e1.symm.trans hx)
          exact ⟨x1, by omega, x3, x4, x5⟩
        · rw [e3] at hx
          cases hx
          refine ⟨o1, by omega, e1, e2, fun j j1 j2 => ?_⟩
          cases he : ke (kq v f k) b with
          | none => exact o9 he j j1 j2
          | some z =>
            exfalso
            have hs := kq_s h (show k < cn v 1208 f by omega)
            rw [kSt_x v f k (kq v f k) rfl rfl] at hs
            rw [show cn v 1209 (60 * f + k) = 26 from e1] at hs
            split at hs
            · rw [kS2_e] at hs
              split at hs
              · rename_i h9
                have h8 : ke (kq v f k) (kn (kq v f k) - 1) = none := h9.2.1
                rw [show kn (kq v f k) - 1 = b by omega, he] at h8
                cases h8
              · cases hs
            · cases hs
    · -- it is opened here
      have c1 : 23 ≤ kw v f k ∧ kw v f k ≤ 25 := by
        by_cases c1 : 23 ≤ kw v f k ∧ kw v f k ≤ 25
        · exact c1
        · by_cases c2 : kw v f k = 27
          · have := n2 c2; omega
          · have := n3 c1 c2; omega
      have eb : b = kn (kq v f k) := by have := n1 c1; omega
      obtain ⟨p1, p2, p3, p4, p5, p6⟩ := h1.op c1
      rw [← eb] at p1 p2 p3 p4 p5
      rw [p1]
      refine ⟨by omega, c1, eb.symm, hb1, p3, p2, fun b' hb' => ?_, fun j j1 j2 => ?_, fun _ j j1 j2 => absurd j2 (by omega), fun x hx => ?_⟩
      · by_cases e : b' + 1 < kn (kq v f k)
        · exact h1.lo e
        · have e2 : b' = kn (kq v f k) - 1 := by omega
          obtain ⟨q1, q2, q3, q4, q5, q6, q7⟩ := h1.up hn
          rw [← e2] at q1 q2 q3 q4 q5 q6 q7
          exact ⟨q1, q2, q3, q7 (by omega) (by omega), q6 (by omega)⟩
      · rw [show j = k + 1 by omega]
        exact ⟨hb2, p1⟩
      · rw [p5] at hx; cases hx
