/-- what was told (tables up to 1218) is the same -/
def vL (v v1 : zV) : Prop := ∀ id k, 1200 < id ∧ id ≤ 1218 → v1.1 id k = v.1 id k
section ZVL
variable {v v1 : zV}
theorem vL.rf : vL v v := fun _ _ _ => rfl
theorem vL.tr {v2 : zV} (h : vL v v1) (h2 : vL v1 v2) : vL v v2 := fun id k hk => (h2 id k hk).trans (h id k hk)
theorem vL.u (h : vL v v1) {id k : Nat} {x : Int32} (hid : 1218 < id) : vL v (u1 v1 id k x) := fun j m hj => (u1_n (Or.inl (by omega))).trans (h j m hj)
theorem vM.L (h : vM v v1) : vL v v1 := fun id k hk => h.1 id k (by omega) (by omega)
theorem vL.c (h : vL v v1) {id k : Nat} (hid : 1200 < id ∧ id ≤ 1218) : cn v1 id k = cn v id k := by
  unfold cn
  rw [h id k hid]
theorem zmB_l : ∀ t ∈ zmB, 1200 < t.1 ∧ t.1 ≤ 1218 := by decide
theorem vL.rg (h : vL v v1) (hv : vRg v) : vRg v1 := fun t ht k hk => by
  unfold ok1
  rw [h.c (zmB_l t ht), h _ _ (zmB_l t ht)]
  exact hv t ht k hk
theorem vL.A (h : vL v v1) (hA : vA v) : vA v1 := fun o h1 h2 => by
  rw [h.c (by omega)] at h1
  rw [h.c (by omega), h.c (by omega), h.c (by omega)]
  exact hA o h1 h2
theorem vL.D (h : vL v v1) (hD : vD v) : vD v1 := fun y hy ht => by
  rw [h.c (by omega)] at ht
  have h9 := hD y hy ht
  rw [h 1215 y (by omega), h 1217 y (by omega), h.c (id := 1218) (by omega), h.c (id := 1202) (by omega), h.c (id := 1203) (by omega)]
  exact h9
theorem vL.esh (h : vL v v1) (f : Nat) : sh v1 f = sh v f := by
  unfold sh
  rw [h.c (by omega), h.c (by omega)]
theorem vL.esg (h : vL v v1) (y : Nat) : sg v1 y = sg v y := by
  unfold sg
  rw [h 1217 y (by omega), h.c (id := 1218) (by omega), h.c (id := 1217) (by omega), h.esh]
theorem vL.egW (h : vL v v1) (f w : Nat) (a : Int32) : gW v1 f w a = gW v f w a := by
  unfold gW
  rw [h.c (id := 1205) (by omega), h.c (id := 1207) (by omega), h.c (id := 1204) (by omega)]
  simp only [h 1215 _ (by omega)]
theorem vL.emng (h : vL v v1) (y : Nat) : mng v1 y = mng v y := by
  have e1 : ∀ nm, ySt v1 nm = ySt v nm := fun nm => by
    funext z
    unfold ySt
    rw [h.c (by omega), h 1216 z (by omega), h 1214 z (by omega), h 1217 z (by omega)]
  have e2 : ∀ nm, yWk v1 nm = yWk v nm := fun nm => by
    funext z
    unfold yWk
    rw [h.c (by omega), h 1216 z (by omega), h 1214 z (by omega), h 1217 z (by omega)]
  unfold mng
  rw [e1, e2, h 1216 y (by omega), h 1214 y (by omega), h 1217 y (by omega)]
theorem vL.efO (h : vL v v1) (y : Nat) : fO v1 y = fO v y := by
  unfold fO
  rw [h.emng]
  congr 1
  funext z
  rw [h.c (by omega)]
theorem vL.eaS (h : vL v v1) : ∀ k, aS v1 k = aS v k
  | 0 => rfl
  | k + 1 => by
    show (if k % 4 < cn v1 1203 (k / 4) then rs (aS v1 k) (cn v1 1212 k) + cn v1 1211 k else aS v1 k) = _
    rw [h.eaS k, h.c (id := 1203) (by omega), h.c (id := 1212) (by omega), h.c (id := 1211) (by omega)]
    rfl
theorem vL.eaO (h : vL v v1) (y : Nat) : aO v1 y = aO v y := by
  unfold aO
  rw [h.emng]
  cases mng v y with
  | none => rfl
  | some z =>
    show rs (aS v1 (4 * (z / 16) + cn v1 1217 z)) (cn v1 1212 (4 * (z / 16) + cn v1 1217 z)) + cn v1 1218 z = rs (aS v (4 * (z / 16) + cn v 1217 z)) (cn v 1212 (4 * (z / 16) + cn v 1217 z)) + cn v 1218 z
    rw [h.c (id := 1217) (by omega), h.eaS, h.c (id := 1212) (by omega), h.c (id := 1218) (by omega)]
theorem vL.epS (h : vL v v1) {t : Nat} (ht : 1200 < t ∧ t ≤ 1218) : ∀ o, pS v1 t o = pS v t o
  | 0 => rfl
  | o + 1 => by
    show pS v1 t o + cn v1 t o = pS v t o + cn v t o
    rw [h.epS ht o, h.c ht]
end ZVL
/-- a list without doubles of numbers below N -/
def nD (Ts : List Nat) (N : Nat) : Prop := Ts.Nodup ∧ ∀ x, x ∈ Ts → x < N
theorem nD_len : ∀ N Ts, nD Ts N → Ts.length ≤ N
  | 0, Ts, h => by
    cases Ts with
    | nil => exact Nat.le_refl _
    | cons a t => exact absurd (h.2 a (List.mem_cons_self)) (Nat.not_lt_zero a)
  | N + 1, Ts, h => by
    by_cases hm : N ∈ Ts
    · have h1 : nD (Ts.erase N) N := ⟨h.1.erase N, fun x hx => by
        have h2 := (h.1.mem_erase_iff).mp hx
        have h3 := h.2 x h2.2
        have h4 := h2.1
        omega⟩
      have h5 := nD_len N _ h1
      rw [List.length_erase_of_mem hm] at h5
      omega
    · have h1 : nD Ts N := ⟨h.1, fun x hx => by
        have h3 := h.2 x hx
        have h4 : x ≠ N := fun e => hm (e ▸ hx)
        omega⟩
      exact Nat.le_succ_of_le (nD_len N _ h1)
theorem getD_mem {Ts : List Nat} {k : Nat} (hk : k < Ts.length) : Ts.getD k 0 ∈ Ts := by
  rw [List.getD_eq_getElem?_getD, List.getElem?_eq_getElem hk]
  exact List.getElem_mem hk
theorem plc_mem {Ts : List Nat} {x : Nat} : plc Ts (some x) = none ↔ x ∉ Ts := by
  unfold plc
  rw [fnd_none]
  refine ⟨fun h hm => ?_, fun h k hk => decide_eq_false (fun h9 => h (by cases h9; exact getD_mem hk))⟩
  obtain ⟨k, hk, he⟩ := List.getElem_of_mem hm
  have h1 := of_decide_eq_false (h k hk)
  exact h1 (by rw [List.getD_eq_getElem?_getD, List.getElem?_eq_getElem hk, ← he]; rfl)
theorem nD.add {Ts : List Nat} {N x : Nat} (h : nD Ts N) (hx : x < N) : nD (addT Ts x) N := by
  unfold addT
  by_cases h1 : plc Ts (some x) = none
  · rw [if_pos h1]
    have h2 := plc_mem.mp h1
    refine ⟨?_, fun y hy => ?_⟩
    · rw [List.nodup_append]
      exact ⟨h.1, by simp, fun a ha b hb e => h2 (by rw [List.mem_singleton.mp hb] at e; rw [← e]; exact ha)⟩
    · rcases List.mem_append.mp hy with h3 | h3
      · exact h.2 y h3
      · rw [List.mem_singleton.mp h3]; exact hx
  · rw [if_neg h1]; exact h
theorem nD.nil {N : Nat} : nD [] N := ⟨List.nodup_nil, fun x hx => by cases hx⟩
/-- types of the functions; then types and slots by the words -/
def tyF (v : zV) : Nat → List Nat
  | 0 => []
  | f + 1 => if f % 8 < cn v 1202 (f / 8) then addT (tyF v f) (sh v f) else tyF v f
def adO (Ss : List Nat) : Option Nat → List Nat
  | none => Ss
  | some g => addT Ss g
def wdS (v : zV) (f k : Nat) (p : List Nat × List Nat) : List Nat × List Nat := (if cn v 1209 (60 * f + k) = 32 then addT p.1 (cn v 1210 (60 * f + k)) else p.1, if cn v 1209 (60 * f + k) = 34 then adO p.2 (fO v (16 * (f / 8) + cn v 1210 (60 * f + k))) else p.2)
def wdK (v : zV) (f : Nat) (p : List Nat × List Nat) : Nat → List Nat × List Nat
  | 0 => p
  | k + 1 => wdS v f k (wdK v f p k)
def wdF (v : zV) : Nat → List Nat × List Nat
  | 0 => (tyF v 48, [])
  | f + 1 => if f % 8 < cn v 1202 (f / 8) then wdK v f (wdF v f) (cn v 1208 f) else wdF v f
