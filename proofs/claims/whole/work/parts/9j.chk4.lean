section ZTAB
variable {p : Program} {l : Launch} {e : Env} {R : Room} {s : State} {m : MethodId} {args : Array Value} {below : List Frame} {meth : Method} {c : Code} {Q : State → Prop} {N0 t0 : Nat} {D : va_G} {cy : Nat → ClassId} {cc : ByteArray} {nL cells slots : Nat} {Ts : List Cond} {own : String} {S : zS} {lv : List (Nat × Value)} {pc : Nat} {rest : List Value}
theorem r_getTab (F : CallFix p m c cc nL s args Ts own) (G : zG N0 t0 D cy s s.heap) {q : String × List Int32} (hq : q ∈ zTab) {idx : Nat} (hlk : Cond.fieldLink own idx RX10 q.1 "[I" ∈ Ts) (hdg : decode cc pc = .ok (.getstatic idx, 3)) (kk : ∀ a : Nat, va_T .int a 36 (fun j => .int (q.2.getD j 0)) (zN N0) s s.heap → zW p l e R s m args below meth c Q N0 D cy nL cells slots S lv (pc + 3) (.ref a :: rest)) : zW p l e R s m args below meth c Q N0 D cy nL cells slots S lv (pc) (rest) := by
  intro H locs ls hP hD hS hl
  obtain ⟨a, hZ, hT⟩ := G.2.2.2.2.2.2.2.2.2.2.2.2.2.1 q hq
  exact va_gets F.1 F.2.1 hZ hS F.2.2.2.1 (F.2.2.2.2 _ hlk) (fun _ h9 => h9) hdg (kk a hT H locs ls hP hD hS hl)
theorem r_tabI (F : CallFix p m c cc nL s args Ts own) {f : Nat → Value} {a n : Nat} {x : Int32} (hT : va_T .int a 36 f (zN N0) s s.heap) (hn : n < 36) (hx : f n = .int x) (hdg : decode cc pc = .ok (.iaload, 1)) (kk : zW p l e R s m args below meth c Q N0 D cy nL cells slots S lv (pc + 1) (.int x :: rest)) : zW p l e R s m args below meth c Q N0 D cy nL cells slots S lv (pc) (.int (nI n) :: .ref a :: rest) := by
  intro H locs ls hP hD hS hl
  exact va_ti F.1 F.2.1 hT hS (vp_in_nI hn (by omega)) (by rw [nI_clamp (by omega)]; exact hx) hdg (kk H locs ls hP hD hS hl)
end ZTAB
theorem Bld.ext {v : zV} {W W' : zO} (h : Bld v W) (hO : cn v 1201 0 ≤ 6) (hw : wr W') (hs : ∀ c, 100 ≤ c → (∀ f, f < 48 → c ≠ 200 + 12 * f + 6 ∧ c ≠ 200 + 12 * f + 8 ∧ c ≠ 200 + 12 * f + 10) → W' c = W c) : Bld v W' := by
  refine ⟨hw, fun o ho => (h.2.1 o ho).same (fun _ _ => rfl) (fun k hk => hs _ (by omega) (fun f hf => ⟨by omega, by omega, by omega⟩)), fun f hf ht => (h.2.2.1 f hf ht).same (fun _ _ => rfl) (fun _ _ => ⟨rfl, rfl⟩) (fun k hk => hs _ (by omega) (fun g hg => ⟨by omega, by omega, by omega⟩)), fun g hg ht => (h.2.2.2.1 g hg ht).same rfl rfl (fun _ _ => rfl) (hs _ (by omega) (fun f hf => ⟨by omega, by omega, by omega⟩)) (hs _ (by omega) (fun f hf => ⟨by omega, by omega, by omega⟩)), fun y hy ht => (h.2.2.2.2 y hy ht).same (fun _ _ => rfl) (hs _ (by omega) (fun f hf => ⟨by omega, by omega, by omega⟩))⟩
theorem Bld.k {v : zV} {W : zO} {K : kS} (h : Bld v W) (hO : cn v 1201 0 ≤ 6) : Bld v (wK W K) := h.ext hO (wK_wr h.1) (fun c hc _ => wK_n ⟨by omega, by omega, by omega, by omega, by omega, by omega⟩)
theorem Bld.rt {v : zV} {W W' : zO} {f : Nat} {E G B : Nat → Int32} (h : Bld v W) (hO : cn v 1201 0 ≤ 6) (hf : f < 48) (hrt : rtX W W' f E G B) : Bld v W' := h.ext hO (hrt.wr h.1) (fun c _ hc => hrt.1 c (hc f hf).1 (hc f hf).2.1 (hc f hf).2.2)
/-- the values behind m taken -/
def kX (q : ckS) (m : Nat) : Nat := if m ≤ kh q - kb q (kn q - 1) then kh q - m else kb q (kn q - 1)
/-- m can be taken -/
abbrev kY (q : ckS) (m : Nat) : Prop := m ≤ kh q - kb q (kn q - 1) ∨ kdd q (kn q - 1) = true
theorem kP_x (q : ckS) (m : Nat) : kP q m = if kY q m then some (setH q (kX q m)) else none := kP_eq q m
theorem kY_le {q : ckS} {m n : Nat} (h : n ≤ m) (hm : kY q m) : kY q n := hm.elim (fun h9 => Or.inl (by omega)) Or.inr
theorem kX_b {k H : Nat} {q : ckS} (h : kI k H q) (m : Nat) : kb q (kn q - 1) ≤ kX q m ∧ kX q m ≤ kh q := kx_b h m
theorem kX_0 (q : ckS) : kX q 0 = kh q := by unfold kX; rw [if_pos (Nat.zero_le _)]; rfl
/-- m, then n -/
theorem kY_add {k H : Nat} {q : ckS} (hI : kI k H q) {m n : Nat} (hm : kY q m) : kY (setH q (kX q m)) n ↔ kY q (m + n) := by
  have hb := hI.2.2.2.2.2
  show (n ≤ kX q m - kb q (kn q - 1) ∨ kdd q (kn q - 1) = true) ↔ (m + n ≤ kh q - kb q (kn q - 1) ∨ kdd q (kn q - 1) = true)
  by_cases hd : kdd q (kn q - 1) = true
  · exact ⟨fun _ => Or.inr hd, fun _ => Or.inr hd⟩
  · have h1 : m ≤ kh q - kb q (kn q - 1) := hm.elim id (fun h9 => absurd h9 hd)
    unfold kX
    rw [if_pos h1]
    exact ⟨fun h9 => h9.elim (fun h8 => Or.inl (by omega)) Or.inr, fun h9 => h9.elim (fun h8 => Or.inl (by omega)) Or.inr⟩
theorem kX_add {k H : Nat} {q : ckS} (hI : kI k H q) {m n : Nat} : kX (setH q (kX q m)) n = kX q (m + n) := by
  have hb := hI.2.2.2.2.2
  show (if n ≤ kX q m - kb q (kn q - 1) then kX q m - n else kb q (kn q - 1)) = (if m + n ≤ kh q - kb q (kn q - 1) then kh q - (m + n) else kb q (kn q - 1))
  unfold kX
  by_cases h1 : m ≤ kh q - kb q (kn q - 1)
  · rw [if_pos h1]
    by_cases h2 : m + n ≤ kh q - kb q (kn q - 1)
    · rw [if_pos h2, if_pos (by omega)]; omega
    · rw [if_neg h2, if_neg (by omega)]
  · rw [if_neg h1, if_neg (show ¬ m + n ≤ kh q - kb q (kn q - 1) by omega)]
    by_cases h2 : n ≤ kb q (kn q - 1) - kb q (kn q - 1)
    · rw [if_pos h2]; omega
    · rw [if_neg h2]
theorem kSt_x (v : zV) (f k : Nat) (q : ckS) {w : Nat} {a : Int32} (hw : cn v 1209 (60 * f + k) = w) (ha : v.1 1210 (60 * f + k) = a) : kSt v f k q = if kY q (pp v (f / 8) w a) then kS2 v f k w a (setH q (kX q (pp v (f / 8) w a) + pu v (f / 8) w a)) else none := by
  unfold kSt
  rw [hw, ha, kP_x]
  by_cases h : kY q (pp v (f / 8) w a)
  · rw [if_pos h, if_pos h]; rfl
  · rw [if_neg h, if_neg h]; rfl
theorem kS2_o {v : zV} {f k w : Nat} {a : Int32} {c : ckS} (h : 23 ≤ w ∧ w ≤ 25) : kS2 v f k w a c = some (kOp c k a.toNatClampNeg) := by
  unfold kS2
  rw [if_pos h]
theorem kS2_e {v : zV} {f k : Nat} {a : Int32} {c : ckS} : kS2 v f k 26 a c = if bw v f c (kn c - 1) = 25 ∧ ke c (kn c - 1) = none ∧ (kh c - kb c (kn c - 1) = kl c (kn c - 1) ∨ (kdd c (kn c - 1) = true ∧ kh c - kb c (kn c - 1) < kl c (kn c - 1))) then some (kElse (setH c (kb c (kn c - 1))) k) else none := by
  unfold kS2 kC
  rw [if_neg (by decide), if_pos rfl]
  by_cases h1 : bw v f c (kn c - 1) = 25 ∧ ke c (kn c - 1) = none
  · rw [if_pos h1]
    by_cases h2 : kh c - kb c (kn c - 1) = kl c (kn c - 1) ∨ (kdd c (kn c - 1) = true ∧ kh c - kb c (kn c - 1) < kl c (kn c - 1))
    · rw [if_pos h2, if_pos ⟨h1.1, h1.2, h2⟩]; rfl
    · rw [if_neg h2, if_neg (fun h9 => h2 h9.2.2)]; rfl
  · rw [if_neg h1, if_neg (fun h9 => h1 ⟨h9.1, h9.2.1⟩)]
theorem kS2_n {v : zV} {f k : Nat} {a : Int32} {c : ckS} : kS2 v f k 27 a c = if ¬ kn c = 1 ∧ ¬ (bw v f c (kn c - 1) = 25 ∧ ke c (kn c - 1) = none ∧ 0 < kl c (kn c - 1)) ∧ (kh c - kb c (kn c - 1) = kl c (kn c - 1) ∨ (kdd c (kn c - 1) = true ∧ kh c - kb c (kn c - 1) < kl c (kn c - 1))) then some (kEnd (setH c (kb c (kn c - 1)))) else none := by
  unfold kS2 kC
  rw [if_neg (by decide), if_neg (by decide), if_pos rfl]
  by_cases h1 : kn c = 1 ∨ (bw v f c (kn c - 1) = 25 ∧ ke c (kn c - 1) = none ∧ 0 < kl c (kn c - 1))
  · rw [if_pos h1, if_neg (fun h9 => h1.elim h9.1 h9.2.1)]
  · rw [if_neg h1]
    by_cases h2 : kh c - kb c (kn c - 1) = kl c (kn c - 1) ∨ (kdd c (kn c - 1) = true ∧ kh c - kb c (kn c - 1) < kl c (kn c - 1))
    · rw [if_pos h2, if_pos ⟨fun h9 => h1 (Or.inl h9), fun h9 => h1 (Or.inr h9), h2⟩]; rfl
    · rw [if_neg h2, if_neg (fun h9 => h2 h9.2.2)]; rfl
theorem kS2_b {v : zV} {f k w : Nat} {a : Int32} {c : ckS} {j : Nat} (hw : w = 28 ∨ w = 29) (ha : a.toNatClampNeg = j) : kS2 v f k w a c = if ¬ kn c ≤ j ∧ (ktk v f c j ≤ kh c - kb c (kn c - 1) ∨ kdd c (kn c - 1) = true) then some ((fun c1 => if w = 28 then kDie c1 else setH c1 (kh c1 + ktk v f c j)) (setH c (if ktk v f c j ≤ kh c - kb c (kn c - 1) then kh c - ktk v f c j else kb c (kn c - 1)))) else none := by
  unfold kS2
  rw [if_neg (by omega), if_neg (by omega), if_neg (by omega), if_pos hw, ha, kP_eq]
  by_cases h1 : kn c ≤ j
  · rw [if_pos h1, if_neg (fun h9 => h9.1 h1)]
  · rw [if_neg h1]
    by_cases h2 : ktk v f c j ≤ kh c - kb c (kn c - 1) ∨ kdd c (kn c - 1) = true
    · refine Eq.trans ?_ (if_pos (show ¬ kn c ≤ j ∧ (ktk v f c j ≤ kh c - kb c (kn c - 1) ∨ kdd c (kn c - 1) = true) from ⟨h1, h2⟩)).symm
      rw [if_pos h2]; rfl
    · rw [if_neg h2, if_neg (fun h9 => h2 h9.2)]; rfl
theorem kS2_r {v : zV} {f k : Nat} {a : Int32} {c : ckS} : kS2 v f k 30 a c = if kY c (cn v 1206 f) then some (kDie (setH c (kX c (cn v 1206 f)))) else none := by
  unfold kS2
  rw [if_neg (by decide), if_neg (by decide), if_neg (by decide), if_neg (by decide), if_pos rfl, kP_x]
  by_cases h : kY c (cn v 1206 f)
  · rw [if_pos h, if_pos h]; rfl
  · rw [if_neg h, if_neg h]; rfl
theorem kS2_d {v : zV} {f k w : Nat} {a : Int32} {c : ckS} (h : ¬ (23 ≤ w ∧ w ≤ 30)) : kS2 v f k w a c = some c := by
  unfold kS2
  rw [if_neg (by omega), if_neg (by omega), if_neg (by omega), if_neg (by omega), if_neg (by omega)]
theorem ki_some {o : Option ckS} {C : Prop} {d : Decidable C} {q2 : ckS} {r : Int32} (he : o = if C then some q2 else none) (hz : zbo r C) : zbo r (o.isSome = true) ∧ ∀ q', o = some q' → C ∧ q' = q2 := by
  by_cases h : C
  · rw [if_pos h] at he
    subst he
    exact ⟨hz.iff ⟨fun _ => rfl, fun _ => h⟩, fun q' h9 => ⟨h, (Option.some.inj h9).symm⟩⟩
  · rw [if_neg h] at he
    subst he
    exact ⟨hz.iff ⟨fun h9 => absurd h9 h, fun h9 => absurd h9 (by decide)⟩, fun q' h9 => by cases h9⟩
theorem if_if {A : Type} {P Q : Prop} {dp : Decidable P} {dq : Decidable Q} {x y : A} (hp : P) : (if P then (if Q then x else y) else y) = if Q then x else y := if_pos hp
/-- where the code goes: what a word writes into the rows -/
def sE (w : Nat) (q : ckS) (k : Nat) (E : Nat → Int32) : Nat → Int32 := if w = 27 then fE q k E else E
def sG (w a : Nat) (q : ckS) (k : Nat) (G : Nat → Int32) : Nat → Int32 := if w = 26 then upd G (ko q (kn q - 1)) (nI (k + 1)) else if w = 27 then fG q k G else if w = 28 ∨ w = 29 then upd G k (if kn q - 1 - a = 0 then -1 else nI (ko q (kn q - 1 - a))) else G
def sB (w : Nat) (q : ckS) (k : Nat) (B : Nat → Int32) : Nat → Int32 := if 23 ≤ w ∧ w ≤ 25 then upd B k (nI (kX q (pTb.getD w 0))) else B
theorem pp_t {v : zV} {o w : Nat} {a : Int32} (h1 : ¬ w = 31) (h2 : ¬ w = 32) : pp v o w a = pTb.getD w 0 ∧ pu v o w a = puTb.getD w 0 := by
  unfold pp pu
  rw [if_neg h1, if_neg h2, if_neg h1, if_neg h2]
  exact ⟨rfl, rfl⟩
theorem cR.sH {q : ckS} {K : kS} (h : cR q K) (x : Nat) : cR (setH q x) (K.1, nI x, K.2.2) := ⟨h.1, rfl, h.2.2⟩
theorem cR.die {q : ckS} {K : kS} (h : cR q K) : cR (kDie q) (K.1, nI (kb q (kn q - 1)), K.2.2.1, K.2.2.2.1, K.2.2.2.2.1, K.2.2.2.2.2.1, upd K.2.2.2.2.2.2 (kn q - 1) 1) := by
  refine ⟨h.1, rfl, fun b hb => ?_⟩
  obtain ⟨g1, g2, g3, g4, g5⟩ := h.2.2 b hb
  refine ⟨g1, g2, g3, g4, ?_⟩
  show upd K.2.2.2.2.2.2 (kn q - 1) 1 b = (if va_up (kdd q) (kn q - 1) true b then 1 else 0)
  by_cases e : b = kn q - 1
  · subst e
    rw [va_up_self]
    exact if_pos rfl
  · rw [va_up_ne _ _ e]
    exact (if_neg e).trans g5
theorem cR.op {q : ckS} {K : kS} {k a : Nat} (h : cR q K) (h1 : 1 ≤ kn q) : cR (kOp q k a) (nI (kn q), K.2.1, upd K.2.2.1 (kn q) (nI k), upd K.2.2.2.1 (kn q) (-1), upd K.2.2.2.2.1 (kn q) K.2.1, upd K.2.2.2.2.2.1 (kn q) (nI a), upd K.2.2.2.2.2.2 (kn q) 0) := by
  refine ⟨rfl, h.2.1, fun b hb => ?_⟩
  show upd K.2.2.1 (kn q) (nI k) b = (if b = 0 then -1 else nI (va_up (ko q) (kn q) k b)) ∧ upd K.2.2.2.1 (kn q) (-1) b = enc (va_up (ke q) (kn q) none b) ∧ upd K.2.2.2.2.1 (kn q) K.2.1 b = nI (va_up (kb q) (kn q) (kh q) b) ∧ upd K.2.2.2.2.2.1 (kn q) (nI a) b = nI (va_up (kl q) (kn q) a b) ∧ upd K.2.2.2.2.2.2 (kn q) 0 b = (if va_up (kdd q) (kn q) false b then 1 else 0)
  by_cases e : b = kn q
  · subst e
    rw [va_up_self, va_up_self, va_up_self, va_up_self, va_up_self, if_neg (by omega)]
    exact ⟨if_pos rfl, if_pos rfl, (if_pos rfl).trans h.2.1, if_pos rfl, if_pos rfl⟩
  · rw [va_up_ne _ _ e, va_up_ne _ _ e, va_up_ne _ _ e, va_up_ne _ _ e, va_up_ne _ _ e]
    obtain ⟨g1, g2, g3, g4, g5⟩ := h.2.2 b (by have : b < kn q + 1 := hb; omega)
    exact ⟨(if_neg e).trans g1, (if_neg e).trans g2, (if_neg e).trans g3, (if_neg e).trans g4, (if_neg e).trans g5⟩
/-- elses lie below k -/
def kEl (q : ckS) (k : Nat) : Prop := ∀ b, b < kn q → ∀ z, ke q b = some z → z < k
/-- one word on -/
theorem kSt_I {v : zV} {f k H : Nat} {q q' : ckS} (hv : vRg v) (hI : kI k H q) (hE : kEl q k) (hpu : pu v (f / 8) (cn v 1209 (60 * f + k)) (v.1 1210 (60 * f + k)) ≤ 1) (hb : 23 ≤ cn v 1209 (60 * f + k) ∧ cn v 1209 (60 * f + k) ≤ 25 → (v.1 1210 (60 * f + k)).toNatClampNeg ≤ 1) (hs : kSt v f k q = some q') : kI (k + 1) (H + 2) q' ∧ kEl q' (k + 1) := by
  rw [kSt_x v f k q rfl rfl] at hs
  by_cases hy : kY q (pp v (f / 8) (cn v 1209 (60 * f + k)) (v.1 1210 (60 * f + k)))
  · rw [if_pos hy] at hs
    have hx := kX_b hI (pp v (f / 8) (cn v 1209 (60 * f + k)) (v.1 1210 (60 * f + k)))
    generalize kX q (pp v (f / 8) (cn v 1209 (60 * f + k)) (v.1 1210 (60 * f + k))) = x at hs hx
    generalize pu v (f / 8) (cn v 1209 (60 * f + k)) (v.1 1210 (60 * f + k)) = u at hs hpu
    have hhH := hI.2.2.1
    have hJ : kI k (H + 1) (setH q (x + u)) := hI.sH (by omega) (by omega)
    have hE1 : kEl (setH q (x + u)) (k + 1) := fun b hb z hz => Nat.lt_succ_of_lt (hE b hb z hz)
    generalize setH q (x + u) = c at hs hJ hE1
    generalize cn v 1209 (60 * f + k) = w at hs hb
    by_cases e1 : 23 ≤ w ∧ w ≤ 25
    · rw [kS2_o e1] at hs
      cases hs
      refine ⟨(fun hh : kI (k + 1) (H + 1) _ => ⟨hh.1, hh.2.1, Nat.le_succ_of_le hh.2.2.1, hh.2.2.2.1, hh.2.2.2.2.1, hh.2.2.2.2.2⟩) (hJ.op (hb e1)), fun b hb z hz => ?_⟩
      have hz2 : va_up (ke c) (kn c) none b = some z := hz
      by_cases e : b = kn c
      · rw [e, va_up_self] at hz2; cases hz2
      · rw [va_up_ne _ _ e] at hz2
        exact hE1 b (by have : b < kn c + 1 := hb; omega) z hz2
    · by_cases e2 : w = 26
      · subst e2
        rw [kS2_e] at hs
        split at hs
        · cases hs
          refine ⟨((hJ.sH (Nat.le_refl _) (Nat.le_trans hJ.2.2.2.2.2 hJ.2.2.1)).els k).up (by omega), fun b hb z hz => ?_⟩
          have hz2 : va_up (ke c) (kn c - 1) (some k) b = some z := hz
          by_cases e : b = kn c - 1
          · rw [e, va_up_self] at hz2
            cases hz2
            omega
          · rw [va_up_ne _ _ e] at hz2
            exact hE1 b hb z hz2
        · cases hs
      · by_cases e3 : w = 27
        · subst e3
          rw [kS2_n] at hs
          split at hs
          · rename_i hc
            cases hs
            exact ⟨hJ.fin hc.1, fun b hb z hz => hE1 b (by have : b < kn c - 1 := hb; omega) z hz⟩
          · cases hs
        · by_cases e4 : w = 28 ∨ w = 29
          · rw [kS2_b e4 rfl] at hs
            split at hs
            · rename_i hc
              cases hs
              generalize (v.1 1210 (60 * f + k)).toNatClampNeg = j at hc
              have htk : ktk v f c j ≤ 1 := by
                have h1 := (hJ.2.2.2.1 (kn c - 1 - j) (by have := hJ.1; omega)).1
                unfold ktk
                split
                · omega
                · exact h1
              have h2 := kx_b hJ (ktk v f c j)
              have h3 := hJ.2.2.1
              by_cases e5 : w = 28
              · show kI (k + 1) (H + 2) (if w = 28 then _ else _) ∧ kEl (if w = 28 then _ else _) (k + 1)
                rw [if_pos e5]
                exact ⟨(hJ.sH h2.1 (Nat.le_trans h2.2 h3)).die.up (by omega), hE1⟩
              · show kI (k + 1) (H + 2) (if w = 28 then _ else _) ∧ kEl (if w = 28 then _ else _) (k + 1)
                rw [if_neg e5]
                refine ⟨(hJ.sH (K := H + 2) (x := (if ktk v f c j ≤ kh c - kb c (kn c - 1) then kh c - ktk v f c j else kb c (kn c - 1)) + ktk v f c j) (by omega) (by omega)).up (Nat.le_refl _), hE1⟩
            · cases hs
          · by_cases e5 : w = 30
            · subst e5
              rw [kS2_r] at hs
              split at hs
              · cases hs
                have h2 := kX_b hJ (cn v 1206 f)
                exact ⟨(hJ.sH h2.1 (Nat.le_trans h2.2 hJ.2.2.1)).die.up (by omega), hE1⟩
              · cases hs
            · rw [kS2_d (by omega)] at hs
              cases hs
              exact ⟨hJ.up (by omega), hE1⟩
  · rw [if_neg hy] at hs
    cases hs
