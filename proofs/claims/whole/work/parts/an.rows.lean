/-- e ends the block that p opens -/
def kCl (v : zV) (f p e : Nat) : Prop := p < e ∧ e < cn v 1208 f ∧ kw v f e = 27 ∧ kn (kq v f e) = kn (kq v f p) + 1 ∧ kOpn v f p (kn (kq v f p)) e
theorem kCl_ex {v : zV} {f p : Nat} (h : cOK v f) (hp : p < cn v 1208 f) (hw : 23 ≤ kw v f p ∧ kw v f p ≤ 25) : ∃ e, kCl v f p e := by
  have hb1 := (kOpn_all h p (by omega)).1
  have key : ∀ k, p < k → k ≤ cn v 1208 f → (∃ e, kCl v f p e) ∨ (kn (kq v f p) < kn (kq v f k) ∧ ko (kq v f k) (kn (kq v f p)) = p) := by
    intro k
    induction k with
    | zero => intro h9; exact absurd h9 (Nat.not_lt_zero p)
    | succ k ih =>
      intro h1 h2
      have hq := kq_1 h (show k < cn v 1208 f by omega)
      obtain ⟨n1, n2, n3⟩ := hq.n
      rcases Nat.lt_or_ge p k with h3 | h3
      · rcases ih h3 (by omega) with h4 | ⟨h4, h5⟩
        · exact Or.inl h4
        · have hop := (kOpn_all h k (by omega)).2 (kn (kq v f p)) hb1 h4
          rw [h5] at hop
          by_cases c : kw v f k = 27 ∧ kn (kq v f k) = kn (kq v f p) + 1
          · exact Or.inl ⟨k, h3, by omega, c.1, c.2, hop⟩
          · refine Or.inr ⟨?_, ?_⟩
            · by_cases c1 : 23 ≤ kw v f k ∧ kw v f k ≤ 25
              · rw [n1 c1]; omega
              · by_cases c2 : kw v f k = 27
                · have := (n2 c2).2
                  have : ¬ kn (kq v f k) = kn (kq v f p) + 1 := fun h9 => c ⟨c2, h9⟩
                  omega
                · rw [n3 c1 c2]; exact h4
            · by_cases e : kn (kq v f p) + 1 < kn (kq v f k)
              · exact (hq.lo e).1.trans h5
              · have e2 : kn (kq v f p) = kn (kq v f k) - 1 := by omega
                have h6 := (hq.up (by omega)).1
                rw [← e2] at h6
                exact h6.trans h5
      · have e : p = k := by omega
        subst e
        exact Or.inr ⟨by rw [n1 hw]; omega, (hq.op hw).1⟩
  rcases key (cn v 1208 f) hp (Nat.le_refl _) with h9 | ⟨h9, -⟩
  · exact h9
  · have := h.2.1
    omega
theorem kCl.n {v : zV} {f p e : Nat} (h : cOK v f) (hc : kCl v f p e) : kn (kq v f (e + 1)) = kn (kq v f p) := by
  have h1 := ((kq_1 h hc.2.1).n.2.1 hc.2.2.1).2
  have := hc.2.2.2.1
  omega
/-- no block of p is open behind its end -/
theorem kCl.un {v : zV} {f p e b m : Nat} (h : cOK v f) (hc : kCl v f p e) (ho : kOpn v f p b m) : b = kn (kq v f p) ∧ m ≤ e := by
  have hb := ho.2.2.1
  refine ⟨hb.symm, ?_⟩
  rcases Nat.lt_or_ge e m with h9 | h9
  · have h8 := (ho.2.2.2.2.2.2.2.1 (e + 1) (by have := hc.1; omega) (by omega)).1
    have := hc.n h
    omega
  · exact h9
theorem kCl.eq {v : zV} {f p e e2 : Nat} (h : cOK v f) (hc : kCl v f p e) (hc2 : kCl v f p e2) : e = e2 := by
  have h1 := (hc.un h hc2.2.2.2.2).2
  have h2 := (hc2.un h hc.2.2.2.2).2
  omega
/-- the word that closes the upper block -/
theorem kCl_of {v : zV} {f e : Nat} (h : cOK v f) (he : e < cn v 1208 f) (hw : kw v f e = 27) : 2 ≤ kn (kq v f e) ∧ kCl v f (ko (kq v f e) (kn (kq v f e) - 1)) e := by
  have h1 := (kq_1 h he).n.2.1 hw
  have h0 := (kOpn_all h e (by omega)).1
  have ho := (kOpn_all h e (by omega)).2 (kn (kq v f e) - 1) (by omega) (by omega)
  have hb := ho.2.2.1
  refine ⟨by omega, ho.1, he, hw, by omega, ?_⟩
  rw [hb]
  exact ho
/-- an ELSE stands once in its block -/
theorem kEl_1 {v : zV} {f p e b x j : Nat} (h : cOK v f) (ho : kOpn v f p b e) (hx : ke (kq v f e) b = some x) (hj : p < j) (hje : j < e) (he : e ≤ cn v 1208 f) (hw : kw v f j = 26) (hn : kn (kq v f j) = b + 1) : j = x := by
  obtain ⟨x1, x2, x3, x4, x5⟩ := ho.2.2.2.2.2.2.2.2.2 x hx
  rcases Nat.lt_trichotomy j x with h1 | h1 | h1
  · exact absurd ⟨hw, hn⟩ (x5 j hj h1)
  · exact h1
  · exfalso
    have hoj := (ho.2.2.2.2.2.2.2.1 j hj (by omega))
    have hopj := (kOpn_all h j (by omega)).2 b ho.2.2.2.1 hoj.1
    rw [hoj.2] at hopj
    have hnone : ke (kq v f j) b = none := by
      have hs := kq_s h (show j < cn v 1208 f by omega)
      rw [kSt_x v f j (kq v f j) rfl rfl, show cn v 1209 (60 * f + j) = 26 from hw] at hs
      split at hs
      · rw [kS2_e] at hs
        split at hs
        · rename_i h9
          have h8 : ke (kq v f j) (kn (kq v f j) - 1) = none := h9.2.1
          rw [show kn (kq v f j) - 1 = b by omega] at h8
          exact h8
        · cases hs
      · cases hs
    exact hopj.2.2.2.2.2.2.2.2.1 hnone x x1 h1 ⟨x3, x4⟩
/-- an ELSE's block -/
theorem kEl_2 {v : zV} {f j : Nat} (h : cOK v f) (hj : j < cn v 1208 f) (hw : kw v f j = 26) : 2 ≤ kn (kq v f j) ∧ kw v f (ko (kq v f j) (kn (kq v f j) - 1)) = 25 ∧ kOpn v f (ko (kq v f j) (kn (kq v f j) - 1)) (kn (kq v f j) - 1) j ∧ kOpn v f (ko (kq v f j) (kn (kq v f j) - 1)) (kn (kq v f j) - 1) (j + 1) ∧ ke (kq v f (j + 1)) (kn (kq v f j) - 1) = some j := by
  have h0 := (kOpn_all h j (by omega)).1
  have hb : bw v f (kq v f j) (kn (kq v f j) - 1) = 25 := by
    have hs := kq_s h hj
    rw [kSt_x v f j (kq v f j) rfl rfl, show cn v 1209 (60 * f + j) = 26 from hw] at hs
    split at hs
    · rw [kS2_e] at hs
      split at hs
      · rename_i h9
        exact h9.1
      · cases hs
    · cases hs
  have h2 : 2 ≤ kn (kq v f j) := by
    rcases Nat.lt_or_ge (kn (kq v f j)) 2 with h9 | h9
    · rw [show kn (kq v f j) - 1 = 0 by omega] at hb
      unfold bw at hb
      rw [if_pos rfl] at hb
      cases hb
    · exact h9
  unfold bw at hb
  rw [if_neg (by omega)] at hb
  have ho := (kOpn_all h j (by omega)).2 (kn (kq v f j) - 1) (by omega) (by omega)
  have hq := kq_1 h hj
  have hu := hq.up (by omega)
  have hn := hq.n.2.2 (by omega) (by omega)
  have ho2 := (kOpn_all h (j + 1) (by omega)).2 (kn (kq v f j) - 1) (by omega) (by omega)
  rw [hu.1] at ho2
  exact ⟨h2, hb, ho, ho2, (hu.2.2.2.1 hw).2⟩
section ZXR
variable {v : zV} {f : Nat} {E G B : Nat → Int32}
theorem xE_q (h : cOK v f) {m : Nat} (hm : m ≤ cn v 1208 f) : xE v f E (m + 1) = sE (kw v f m) (kq v f m) m (xE v f E m) := by
  show (match kRun v f m with | some q => _ | none => _) = _
  rw [h.1 m hm]
theorem xG_q (h : cOK v f) {m : Nat} (hm : m ≤ cn v 1208 f) : xG v f G (m + 1) = sG (kw v f m) (ka v f m) (kq v f m) m (xG v f G m) := by
  show (match kRun v f m with | some q => _ | none => _) = _
  rw [h.1 m hm]
theorem xB_q (h : cOK v f) {m : Nat} (hm : m ≤ cn v 1208 f) : xB v f B (m + 1) = sB (kw v f m) (kq v f m) m (xB v f B m) := by
  show (match kRun v f m with | some q => _ | none => _) = _
  rw [h.1 m hm]
theorem upd_s {g : Nat → Int32} {j : Nat} {w : Int32} : upd g j w j = w := if_pos rfl
theorem upd_n {g : Nat → Int32} {j i : Nat} {w : Int32} (h : i ≠ j) : upd g j w i = g i := if_neg h
/-- where a block's row stays -/
theorem xE_k (h : cOK v f) {i t : Nat} (hno : ∀ m, t ≤ m → m < cn v 1208 f → kw v f m = 27 → ¬ ko (kq v f m) (kn (kq v f m) - 1) = i ∧ ¬ ke (kq v f m) (kn (kq v f m) - 1) = some i) : ∀ n, t ≤ n → n ≤ cn v 1208 f → xE v f E n i = xE v f E t i := by
  intro n
  induction n with
  | zero => intro h1 _; rw [Nat.le_zero.mp h1]
  | succ n ih =>
    intro h1 h2
    rcases Nat.lt_or_ge t (n + 1) with h3 | h3
    · rw [xE_q h (by omega), ← ih (by omega) (by omega)]
      unfold sE
      by_cases c : kw v f n = 27
      · rw [if_pos c]
        obtain ⟨q1, q2⟩ := hno n (by omega) (by omega) c
        unfold fE
        cases hz : ke (kq v f n) (kn (kq v f n) - 1) with
        | none => exact upd_n (fun e => q1 e.symm)
        | some z =>
          show upd (upd (xE v f E n) (ko (kq v f n) (kn (kq v f n) - 1)) (nI n)) z (nI n) i = _
          rw [upd_n (fun e => q2 (by rw [hz, e])), upd_n (fun e => q1 e.symm)]
      · rw [if_neg c]
    · rw [show t = n + 1 by omega]
theorem xG_k (h : cOK v f) {i t : Nat} (hno : ∀ m, t ≤ m → m < cn v 1208 f → (kw v f m = 26 ∨ kw v f m = 27 → ¬ (ko (kq v f m) (kn (kq v f m) - 1) = i ∧ (kw v f m = 27 → ke (kq v f m) (kn (kq v f m) - 1) = none))) ∧ (kw v f m = 28 ∨ kw v f m = 29 → ¬ m = i)) : ∀ n, t ≤ n → n ≤ cn v 1208 f → xG v f G n i = xG v f G t i := by
  intro n
  induction n with
  | zero => intro h1 _; rw [Nat.le_zero.mp h1]
  | succ n ih =>
    intro h1 h2
    rcases Nat.lt_or_ge t (n + 1) with h3 | h3
    · rw [xG_q h (by omega), ← ih (by omega) (by omega)]
      obtain ⟨q1, q2⟩ := hno n (by omega) (by omega)
      unfold sG
      by_cases c : kw v f n = 26
      · rw [if_pos c]
        exact upd_n (fun e => q1 (Or.inl c) ⟨e.symm, fun h9 => absurd h9 (by omega)⟩)
      · rw [if_neg c]
        by_cases c2 : kw v f n = 27
        · rw [if_pos c2]
          unfold fG
          cases hz : ke (kq v f n) (kn (kq v f n) - 1) with
          | none => exact upd_n (fun e => q1 (Or.inr c2) ⟨e.symm, fun _ => hz⟩)
          | some z => rfl
        · rw [if_neg c2]
          by_cases c3 : kw v f n = 28 ∨ kw v f n = 29
          · rw [if_pos c3]
            exact upd_n (fun e => q2 c3 e.symm)
          · rw [if_neg c3]
    · rw [show t = n + 1 by omega]
theorem xB_k (h : cOK v f) {i : Nat} : ∀ n, i + 1 ≤ n → n ≤ cn v 1208 f → xB v f B n i = xB v f B (i + 1) i := by
  intro n
  induction n with
  | zero => intro h1 _; exact absurd h1 (by omega)
  | succ n ih =>
    intro h1 h2
    rcases Nat.lt_or_ge (i + 1) (n + 1) with h3 | h3
    · rw [xB_q h (by omega), ← ih (by omega) (by omega)]
      unfold sB
      by_cases c : 23 ≤ kw v f n ∧ kw v f n ≤ 25
      · rw [if_pos c]
        exact upd_n (by omega)
      · rw [if_neg c]
    · rw [show i + 1 = n + 1 by omega]
/-- of BLOCK, LOOP and IF: where the END is, how many values are below -/
theorem xE_p (h : cOK v f) {p e : Nat} (hc : kCl v f p e) : xE v f E (cn v 1208 f) p = nI e := by
  have he := hc.2.1
  have hpe : kn (kq v f e) - 1 = kn (kq v f p) := by have := hc.2.2.2.1; omega
  have hko : ko (kq v f e) (kn (kq v f e) - 1) = p := by rw [hpe]; exact (hc.2.2.2.2.2.2.2.2.2.2.2.1 e hc.1 (Nat.le_refl _)).2
  rw [xE_k h (t := e + 1) (fun m h1 h2 h3 => ?_) _ (by omega) (Nat.le_refl _), xE_q h (by omega)]
  · unfold sE
    rw [if_pos hc.2.2.1]
    unfold fE
    cases hz : ke (kq v f e) (kn (kq v f e) - 1) with
    | none =>
      show upd (xE v f E e) (ko (kq v f e) (kn (kq v f e) - 1)) (nI e) p = _
      rw [hko]; exact upd_s
    | some z =>
      show upd (upd (xE v f E e) (ko (kq v f e) (kn (kq v f e) - 1)) (nI e)) z (nI e) p = _
      have hz2 := (hc.2.2.2.2.2.2.2.2.2.2.2.2.2 z (by rw [← hpe]; exact hz))
      have hwp := hc.2.2.2.2.2.1
      rw [upd_n (fun e9 => by rw [e9] at hwp; have := hz2.2.2.1; omega), hko]
      exact upd_s
  · have hcm := (kCl_of h h2 h3).2
    refine ⟨fun e9 => ?_, fun e9 => ?_⟩
    · rw [e9] at hcm
      have := hc.eq h hcm
      omega
    · have hz2 := hcm.2.2.2.2.2.2.2.2.2.2.2.2.2 p (by
        have : kn (kq v f m) - 1 = kn (kq v f (ko (kq v f m) (kn (kq v f m) - 1))) := by have := hcm.2.2.2.1; omega
        rw [← this]; exact e9)
      have := hc.2.2.2.2.2.1
      have := hz2.2.2.1
      omega
theorem xB_p (h : cOK v f) {p : Nat} (hp : p < cn v 1208 f) (hw : 23 ≤ kw v f p ∧ kw v f p ≤ 25) : xB v f B (cn v 1208 f) p = nI (kX (kq v f p) (pTb.getD (kw v f p) 0)) := by
  rw [xB_k h _ (by omega) (Nat.le_refl _), xB_q h (by omega)]
  unfold sB
  rw [if_pos hw]
  exact upd_s
/-- of ELSE: where the END is -/
theorem xE_x (h : cOK v f) {p e x : Nat} (hc : kCl v f p e) (hx : ke (kq v f e) (kn (kq v f p)) = some x) : xE v f E (cn v 1208 f) x = nI e := by
  have he := hc.2.1
  have hpe : kn (kq v f e) - 1 = kn (kq v f p) := by have := hc.2.2.2.1; omega
  have hx2 := hc.2.2.2.2.2.2.2.2.2.2.2.2.2 x hx
  rw [xE_k h (t := e + 1) (fun m h1 h2 h3 => ?_) _ (by omega) (Nat.le_refl _), xE_q h (by omega)]
  · unfold sE
    rw [if_pos hc.2.2.1]
    unfold fE
    rw [hpe, hx]
    exact upd_s
  · have hcm := (kCl_of h h2 h3).2
    have hbm : kn (kq v f m) - 1 = kn (kq v f (ko (kq v f m) (kn (kq v f m) - 1))) := by have := hcm.2.2.2.1; omega
    refine ⟨fun e9 => ?_, fun e9 => ?_⟩
    · have := hcm.2.2.2.2.2.1
      rw [e9] at this
      have := hx2.2.2.1
      omega
    · have hz2 := hcm.2.2.2.2.2.2.2.2.2.2.2.2.2 x (by rw [← hbm]; exact e9)
      have hb2 : kn (kq v f (ko (kq v f m) (kn (kq v f m) - 1))) = kn (kq v f p) := by have := hz2.2.2.2.1; have := hx2.2.2.2.1; omega
      have o1 := (hcm.2.2.2.2.2.2.2.2.2.2.2.1 x hz2.1 (by omega)).2
      have o2 := (hc.2.2.2.2.2.2.2.2.2.2.2.1 x hx2.1 (by omega)).2
      rw [hb2] at o1
      rw [← o1, o2] at hcm
      have := hc.eq h hcm
      omega
/-- of IF: where 0 goes -/
theorem xG_p (h : cOK v f) {p e : Nat} (hc : kCl v f p e) : xG v f G (cn v 1208 f) p = nI (match ke (kq v f e) (kn (kq v f p)) with | some x => x + 1 | none => e + 1) := by
  have he := hc.2.1
  have hpe : kn (kq v f e) - 1 = kn (kq v f p) := by have := hc.2.2.2.1; omega
  have hko : ko (kq v f e) (kn (kq v f e) - 1) = p := by rw [hpe]; exact (hc.2.2.2.2.2.2.2.2.2.2.2.1 e hc.1 (Nat.le_refl _)).2
  have hwp := hc.2.2.2.2.2.1
  have hlate : ∀ m, e + 1 ≤ m → m < cn v 1208 f → (kw v f m = 26 ∨ kw v f m = 27 → ¬ ko (kq v f m) (kn (kq v f m) - 1) = p) := fun m h1 h2 h3 h4 => by
    rcases h3 with h3 | h3
    · have ho := (kEl_2 h h2 h3).2.2.1
      rw [h4] at ho
      have := (hc.un h ho).2
      omega
    · have hcm := (kCl_of h h2 h3).2
      rw [h4] at hcm
      have := hc.eq h hcm
      omega
  cases hx : ke (kq v f e) (kn (kq v f p)) with
  | none =>
    show _ = nI (e + 1)
    rw [xG_k h (t := e + 1) (fun m h1 h2 => ⟨fun h3 h4 => hlate m h1 h2 h3 h4.1, fun h3 h4 => by rw [h4] at h3; omega⟩) _ (by omega) (Nat.le_refl _), xG_q h (by omega)]
    unfold sG
    rw [if_neg (by rw [hc.2.2.1]; decide), if_pos hc.2.2.1]
    unfold fG
    rw [hpe, hx, ← hpe, hko]
    exact upd_s
  | some x =>
    show _ = nI (x + 1)
    have hx2 := hc.2.2.2.2.2.2.2.2.2.2.2.2.2 x hx
    have hxo := (hc.2.2.2.2.2.2.2.2.2.2.2.1 x hx2.1 (by omega)).2
    rw [xG_k h (t := x + 1) (fun m h1 h2 => ⟨fun h3 h4 => ?_, fun h3 h4 => by rw [h4] at h3; omega⟩) _ (by omega) (Nat.le_refl _), xG_q h (by omega)]
    · unfold sG
      rw [if_pos hx2.2.2.1, show kn (kq v f x) - 1 = kn (kq v f p) by have := hx2.2.2.2.1; omega, hxo]
      exact upd_s
    · rcases Nat.lt_or_ge m (e + 1) with h5 | h5
      · rcases h3 with h3 | h3
        · have ho := (kEl_2 h h2 h3)
          have hbm := ho.2.2.1.2.2.1
          rw [h4.1] at hbm
          have hme : m < e := by
            rcases Nat.lt_or_ge m e with h6 | h6
            · exact h6
            · rw [show m = e by omega, hc.2.2.1] at h3; cases h3
          have := kEl_1 h hc.2.2.2.2 hx (j := m) (by omega) hme (by omega) h3 (by have := ho.1; omega)
          omega
        · have hcm := (kCl_of h h2 h3).2
          rw [h4.1] at hcm
          have e9 := hc.eq h hcm
          subst e9
          have h8 := h4.2 h3
          rw [hpe, hx] at h8
          cases h8
      · exact hlate m h5 h2 h3 h4.1
/-- of BR and BRIF: whither -/
theorem xG_b (h : cOK v f) {k : Nat} (hk : k < cn v 1208 f) (hw : kw v f k = 28 ∨ kw v f k = 29) : xG v f G (cn v 1208 f) k = if kn (kq v f k) - 1 - ka v f k = 0 then -1 else nI (ko (kq v f k) (kn (kq v f k) - 1 - ka v f k)) := by
  rw [xG_k h (t := k + 1) (fun m h1 h2 => ⟨fun h3 h4 => ?_, fun h3 h4 => by omega⟩) _ (by omega) (Nat.le_refl _), xG_q h (by omega)]
  · unfold sG
    rw [if_neg (by omega), if_neg (by omega), if_pos hw]
    exact upd_s
  · have hwk : 23 ≤ kw v f (ko (kq v f m) (kn (kq v f m) - 1)) ∧ kw v f (ko (kq v f m) (kn (kq v f m) - 1)) ≤ 25 := by
      rcases h3 with h3 | h3
      · exact (kEl_2 h h2 h3).2.2.1.2.1
      · exact (kCl_of h h2 h3).2.2.2.2.2.2.1
    rw [h4.1] at hwk
    omega
end ZXR
