/-- tables as before but for those of the blocks -/
def vX (v v1 : zV) : Prop := (∀ id k, ¬ (1232 ≤ id ∧ id ≤ 1238) → v1.1 id k = v.1 id k) ∧ v1.2 = v.2
section ZVX
variable {v v1 : zV}
theorem vX.rf : vX v v := ⟨fun _ _ _ => rfl, rfl⟩
theorem vX.u (h : vX v v1) {id k : Nat} {x : Int32} (hid : 1232 ≤ id ∧ id ≤ 1238) : vX v (u1 v1 id k x) := ⟨fun j m hj => (z2_n _ _ (Or.inl (fun e => hj (by rw [e]; exact hid)))).trans (h.1 j m hj), h.2⟩
theorem vX.c (h : vX v v1) {id k : Nat} (hid : ¬ (1232 ≤ id ∧ id ≤ 1238)) : cn v1 id k = cn v id k := by
  unfold cn
  rw [h.1 id k hid]
theorem zmB_r : ∀ t ∈ zmB, ¬ (1232 ≤ t.1 ∧ t.1 ≤ 1238) := by decide
theorem vX.rg (h : vX v v1) (hv : vRg v) : vRg v1 := fun t ht k hk => by
  unfold ok1
  rw [h.c (zmB_r t ht), h.1 _ _ (zmB_r t ht)]
  exact hv t ht k hk
theorem vX.A (h : vX v v1) (hA : vA v) : vA v1 := fun o h1 h2 => by
  rw [h.c (by omega)] at h1
  rw [h.c (by omega), h.c (by omega), h.c (by omega)]
  exact hA o h1 h2
theorem vX.D (h : vX v v1) (hD : vD v) : vD v1 := fun y hy ht => by
  rw [h.c (by omega)] at ht
  have h9 := hD y hy ht
  rw [h.1 1215 y (by omega), h.1 1217 y (by omega), h.c (id := 1218) (by omega), h.c (id := 1202) (by omega), h.c (id := 1203) (by omega)]
  exact h9
theorem vX.esh (h : vX v v1) (f : Nat) : sh v1 f = sh v f := by
  unfold sh
  rw [h.c (by omega), h.c (by omega)]
theorem vX.esg (h : vX v v1) (y : Nat) : sg v1 y = sg v y := by
  unfold sg
  rw [h.1 1217 y (by omega), h.c (id := 1218) (by omega), h.c (id := 1217) (by omega), h.esh]
theorem vX.epp (h : vX v v1) (o w : Nat) (a : Int32) : pp v1 o w a = pp v o w a := by
  unfold pp
  rw [h.esg]
theorem vX.epu (h : vX v v1) (o w : Nat) (a : Int32) : pu v1 o w a = pu v o w a := by
  unfold pu
  rw [h.esg]
end ZVX
/-- the reference's tables of blocks say what q says -/
def kR (v : zV) (f : Nat) (q : ckS) (v1 : zV) : Prop := v1.1 1232 0 = nI (kn q) ∧ v1.1 1238 0 = nI (kh q) ∧ ∀ b, b < kn q → v1.1 1233 b = nI (bw v f q b) ∧ v1.1 1234 b = nI (kl q b) ∧ v1.1 1235 b = nI (kb q b) ∧ v1.1 1236 b = (if kdd q b then 1 else 0) ∧ v1.1 1237 b = (if (ke q b).isSome then 1 else 0)
/-- what holds of it behind k words -/
def kI (k H : Nat) (q : ckS) : Prop := 1 ≤ kn q ∧ kn q ≤ k + 1 ∧ kh q ≤ H ∧ (∀ b, b < kn q → kl q b ≤ 1 ∧ (1 ≤ b → ko q b < k)) ∧ (∀ b, b + 1 < kn q → kb q b ≤ kb q (b + 1)) ∧ kb q (kn q - 1) ≤ kh q
section ZKR
variable {v v1 : zV} {f k H : Nat} {q q1 : ckS}
theorem kI.mono (h : kI k H q) {b : Nat} (hb : b < kn q) : kb q b ≤ kb q (kn q - 1) := by
  obtain ⟨h1, -, -, -, h5, -⟩ := h
  have key : ∀ d, b + d < kn q → kb q b ≤ kb q (b + d) := fun d => by
    induction d with
    | zero => intro _; exact Nat.le_refl _
    | succ d ih => intro hd; exact Nat.le_trans (ih (by omega)) (h5 (b + d) (by omega))
  have h9 := key (kn q - 1 - b) (by omega)
  rw [show b + (kn q - 1 - b) = kn q - 1 by omega] at h9
  exact h9
theorem kI.bh (h : kI k H q) {b : Nat} (hb : b < kn q) : kb q b ≤ kh q := Nat.le_trans (h.mono hb) h.2.2.2.2.2
theorem kI.sH (h : kI k H q) {x K : Nat} (h1 : kb q (kn q - 1) ≤ x) (h2 : x ≤ K) : kI k K (setH q x) := ⟨h.1, h.2.1, h2, h.2.2.2.1, h.2.2.2.2.1, h1⟩
theorem kI.up (h : kI k H q) {K : Nat} (hK : H ≤ K) : kI (k + 1) K q := ⟨h.1, by have := h.2.1; omega, by have := h.2.2.1; omega, fun b hb => ⟨(h.2.2.2.1 b hb).1, fun h1 => by have := (h.2.2.2.1 b hb).2 h1; omega⟩, h.2.2.2.2.1, h.2.2.2.2.2⟩
theorem kR.sH (h : kR v f q v1) (x : Nat) : kR v f (setH q x) (u1 v1 1238 0 (nI x)) := ⟨h.1, rfl, fun b hb => h.2.2 b hb⟩
theorem kP_eq (q : ckS) (m : Nat) : kP q m = if m ≤ kh q - kb q (kn q - 1) ∨ kdd q (kn q - 1) = true then some (setH q (if m ≤ kh q - kb q (kn q - 1) then kh q - m else kb q (kn q - 1))) else none := by
  unfold kP
  by_cases h1 : m ≤ kh q - kb q (kn q - 1)
  · rw [if_pos h1, if_pos (Or.inl h1), if_pos h1]
  · by_cases h2 : kdd q (kn q - 1) = true
    · rw [if_neg h1, if_pos h2, if_pos (Or.inr h2), if_neg h1]
    · rw [if_neg h1, if_neg h2, if_neg (by intro h9; rcases h9 with h9 | h9; exact h1 h9; exact h2 h9)]
theorem kx_b (h : kI k H q) (m : Nat) : kb q (kn q - 1) ≤ (if m ≤ kh q - kb q (kn q - 1) then kh q - m else kb q (kn q - 1)) ∧ (if m ≤ kh q - kb q (kn q - 1) then kh q - m else kb q (kn q - 1)) ≤ kh q := by
  have := h.2.2.2.2.2
  by_cases h1 : m ≤ kh q - kb q (kn q - 1)
  · rw [if_pos h1]; omega
  · rw [if_neg h1]; omega
theorem kI.op (h : kI k H q) {a : Nat} (ha : a ≤ 1) : kI (k + 1) H (kOp q k a) := by
  obtain ⟨h1, h2, h3, h4, h5, h6⟩ := h
  refine ⟨by show 1 ≤ kn q + 1; omega, by show kn q + 1 ≤ _; omega, by show kh q ≤ _; omega, fun b hb => ?_, fun b hb => ?_, ?_⟩
  · show va_up (kl q) (kn q) a b ≤ 1 ∧ (1 ≤ b → va_up (ko q) (kn q) k b < k + 1)
    by_cases e : b = kn q
    · subst e
      rw [va_up_self, va_up_self]
      exact ⟨ha, fun _ => by omega⟩
    · have hb2 : b < kn q := by have : b < kn q + 1 := hb; omega
      rw [va_up_ne _ _ e, va_up_ne _ _ e]
      exact ⟨(h4 b hb2).1, fun h9 => by have := (h4 b hb2).2 h9; omega⟩
  · show va_up (kb q) (kn q) (kh q) b ≤ va_up (kb q) (kn q) (kh q) (b + 1)
    have hb2 : b + 1 < kn q + 1 := hb
    rw [va_up_ne _ _ (by omega)]
    by_cases e : b + 1 = kn q
    · rw [e, va_up_self]
      rw [show b = kn q - 1 by omega]
      exact h6
    · rw [va_up_ne _ _ e]
      exact h5 b (by omega)
  · show va_up (kb q) (kn q) (kh q) (kn q + 1 - 1) ≤ kh q
    rw [show kn q + 1 - 1 = kn q by omega, va_up_self]
    exact Nat.le_refl _
theorem kI.die (h : kI k H q) : kI k H (kDie q) := ⟨h.1, h.2.1, Nat.le_trans h.2.2.2.2.2 h.2.2.1, h.2.2.2.1, h.2.2.2.2.1, Nat.le_refl _⟩
theorem kI.els (h : kI k H q) (j : Nat) : kI k H (kElse q j) := ⟨h.1, h.2.1, h.2.2.1, h.2.2.2.1, h.2.2.2.2.1, h.2.2.2.2.2⟩
/-- the top block goes, its values on top of what is below it -/
theorem kI.fin (h : kI k H q) (hn : ¬ kn q = 1) : kI (k + 1) (H + 1) (kEnd (setH q (kb q (kn q - 1)))) := by
  obtain ⟨h1, h2, h3, h4, h5, h6⟩ := h
  have h7 := (h4 (kn q - 1) (by omega)).1
  refine ⟨by show 1 ≤ kn q - 1; omega, by show kn q - 1 ≤ _; omega, by show kb q (kn q - 1) + kl q (kn q - 1) ≤ _; omega, fun b hb => ?_, fun b hb => h5 b (by have : b + 1 < kn q - 1 := hb; omega), ?_⟩
  · have hb2 : b < kn q - 1 := hb
    exact ⟨(h4 b (by omega)).1, fun h9 => by have := (h4 b (by omega)).2 h9; show ko q b < k + 1; omega⟩
  · show kb q (kn q - 1 - 1) ≤ kb q (kn q - 1) + kl q (kn q - 1)
    have := h5 (kn q - 1 - 1) (by omega)
    rw [show kn q - 1 - 1 + 1 = kn q - 1 by omega] at this
    omega
theorem kR.op (h : kR v f q v1) (h0 : 1 ≤ kn q) {a : Nat} {x y : Int32} (hx : x = nI (cn v 1209 (60 * f + k))) (hy : y = nI a) : kR v f (kOp q k a) (u1 (u1 (u1 (u1 (u1 (u1 v1 1233 (kn q) x) 1234 (kn q) y) 1235 (kn q) (v1.1 1238 0)) 1236 (kn q) 0) 1237 (kn q) 0) 1232 0 (nI (kn q + 1))) := by
  refine ⟨rfl, h.2.1, fun b hb => ?_⟩
  show z2 v1.1 1233 (kn q) x 1233 b = _ ∧ z2 v1.1 1234 (kn q) y 1234 b = _ ∧ z2 v1.1 1235 (kn q) (v1.1 1238 0) 1235 b = _ ∧ z2 v1.1 1236 (kn q) 0 1236 b = _ ∧ z2 v1.1 1237 (kn q) 0 1237 b = _
  show z2 v1.1 1233 (kn q) x 1233 b = nI (if b = 0 then 0 else cn v 1209 (60 * f + va_up (ko q) (kn q) k b)) ∧ z2 v1.1 1234 (kn q) y 1234 b = nI (va_up (kl q) (kn q) a b) ∧ z2 v1.1 1235 (kn q) (v1.1 1238 0) 1235 b = nI (va_up (kb q) (kn q) (kh q) b) ∧ z2 v1.1 1236 (kn q) 0 1236 b = (if va_up (kdd q) (kn q) false b then 1 else 0) ∧ z2 v1.1 1237 (kn q) 0 1237 b = (if (va_up (ke q) (kn q) none b).isSome then 1 else 0)
  by_cases e : b = kn q
  · subst e
    rw [z2_s, z2_s, z2_s, z2_s, z2_s, va_up_self, va_up_self, va_up_self, va_up_self, va_up_self, if_neg (by omega), hx, hy, h.2.1]
    exact ⟨rfl, rfl, rfl, rfl, rfl⟩
  · rw [z2_n _ _ (Or.inr e), z2_n _ _ (Or.inr e), z2_n _ _ (Or.inr e), z2_n _ _ (Or.inr e), z2_n _ _ (Or.inr e), va_up_ne _ _ e, va_up_ne _ _ e, va_up_ne _ _ e, va_up_ne _ _ e, va_up_ne _ _ e]
    exact h.2.2 b (by have : b < kn q + 1 := hb; omega)
theorem kR.die (h : kR v f q v1) : kR v f (kDie q) (u1 (u1 v1 1238 0 (nI (kb q (kn q - 1)))) 1236 (kn q - 1) 1) := by
  refine ⟨h.1, rfl, fun b hb => ?_⟩
  obtain ⟨h1, h2, h3, h4, h5⟩ := h.2.2 b hb
  refine ⟨h1, h2, h3, ?_, h5⟩
  show z2 v1.1 1236 (kn q - 1) 1 1236 b = (if va_up (kdd q) (kn q - 1) true b then 1 else 0)
  by_cases e : b = kn q - 1
  · subst e
    rw [z2_s, va_up_self]
    rfl
  · rw [z2_n _ _ (Or.inr e), va_up_ne _ _ e]
    exact h4
theorem kR.els (h : kR v f q v1) (j : Nat) : kR v f (kElse q j) (u1 (u1 v1 1237 (kn q - 1) 1) 1236 (kn q - 1) 0) := by
  refine ⟨h.1, h.2.1, fun b hb => ?_⟩
  obtain ⟨h1, h2, h3, h4, h5⟩ := h.2.2 b hb
  refine ⟨h1, h2, h3, ?_, ?_⟩
  · show z2 v1.1 1236 (kn q - 1) 0 1236 b = (if va_up (kdd q) (kn q - 1) false b then 1 else 0)
    by_cases e : b = kn q - 1
    · subst e
      rw [z2_s, va_up_self]
      rfl
    · rw [z2_n _ _ (Or.inr e), va_up_ne _ _ e]
      exact h4
  · show z2 v1.1 1237 (kn q - 1) 1 1237 b = (if (va_up (ke q) (kn q - 1) (some j) b).isSome then 1 else 0)
    by_cases e : b = kn q - 1
    · subst e
      rw [z2_s, va_up_self]
      rfl
    · rw [z2_n _ _ (Or.inr e), va_up_ne _ _ e]
      exact h5
theorem kR.fin (h : kR v f q v1) : kR v f (kEnd q) (u1 (u1 v1 1232 0 (nI (kn q - 1))) 1238 0 (nI (kh q + kl q (kn q - 1)))) := ⟨rfl, rfl, fun b hb => h.2.2 b (by have : b < kn q - 1 := hb; omega)⟩
theorem kRun_le {v : zV} {f k : Nat} {q : ckS} (h : kRun v f k = some q) : ∀ j, j ≤ k → ∃ q2, kRun v f j = some q2 := by
  induction k generalizing q with
  | zero => intro j hj; exact ⟨q, by rw [show j = 0 by omega]; exact h⟩
  | succ k ih =>
    intro j hj
    have h2 : (kRun v f k).bind (kSt v f k) = some q := h
    cases hk : kRun v f k with
    | none => rw [hk] at h2; cases h2
    | some q3 =>
      rcases Nat.lt_or_ge j (k + 1) with h9 | h9
      · exact ih hk j (by omega)
      · exact ⟨q, by rw [show j = k + 1 by omega]; exact h⟩
theorem wpl_k {v : zV} {f k : Nat} {q : ckS} (hk : k < cn v 1208 f) (h : kRun v f k = some q) (hs : kSt v f k q = none) : wpl v f = some k := by
  have h9 : fnd (fun k => (kRun v f (k + 1)).isNone) (cn v 1208 f) = some k := fnd_iff.mpr ⟨hk, by
    show ((kRun v f k).bind (kSt v f k)).isNone = true
    rw [h]
    show (kSt v f k q).isNone = true
    rw [hs]
    rfl, fun y hy => by
    obtain ⟨q2, h2⟩ := kRun_le h (y + 1) (by omega)
    rw [h2]
    rfl⟩
  unfold wpl
  rw [h9]
theorem wpl_e {v : zV} {f : Nat} {q : ckS} (h : kRun v f (cn v 1208 f) = some q) : wpl v f = if kn q = 1 ∧ (kC q).isSome then none else some (cn v 1208 f) := by
  have h9 : fnd (fun k => (kRun v f (k + 1)).isNone) (cn v 1208 f) = none := fnd_none.mpr (fun y hy => by
    obtain ⟨q2, h2⟩ := kRun_le h (y + 1) (by omega)
    rw [h2]
    rfl)
  unfold wpl
  rw [h9, h]
theorem kRun_s {v : zV} {f k : Nat} {q q1 : ckS} (h : kRun v f k = some q) (hs : kSt v f k q = some q1) : kRun v f (k + 1) = some q1 := by
  show (kRun v f k).bind (kSt v f k) = _
  rw [h]
  exact hs
theorem pp_le {v : zV} (hv : vRg v) (hD : vD v) {o w : Nat} {a : Int32} (ho : o < 6) (hw : w < 36) (h31 : w = 31 → ∃ j, a = nI j ∧ j < cn v 1204 o) (h32 : w = 32 → ∃ j, a = nI j ∧ j ≤ 9) : pp v o w a ≤ 40 ∧ pu v o w a ≤ 1 := by
  unfold pp pu
  by_cases e1 : w = 31
  · rw [if_pos e1, if_pos e1]
    obtain ⟨j, ej, hj⟩ := h31 e1
    have hy2 := (rg_1204 hv (k := o) ho).2
    have := sg_le hv hD (y := 16 * o + j) (by omega) (by rw [show (16 * o + j) / 16 = o by omega]; omega)
    rw [ej, nI_clamp (by omega)]
    omega
  · rw [if_neg e1, if_neg e1]
    by_cases e2 : w = 32
    · rw [if_pos e2, if_pos e2]
      obtain ⟨j, ej, hj⟩ := h32 e2
      rw [ej, nI_clamp (by omega)]
      omega
    · rw [if_neg e2, if_neg e2]
      exact (show ∀ w : Nat, w < 36 → pTb.getD w 0 ≤ 40 ∧ puTb.getD w 0 ≤ 1 from by decide) w hw
end ZKR
