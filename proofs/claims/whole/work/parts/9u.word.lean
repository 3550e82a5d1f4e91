/-- the opcodes -/
def opc : List Nat := [66, 32, 33, 124, 125, 126, 127, 129, 131, 132, 133, 134, 135, 136, 81, 83, 84, 27, 26, 41, 55, 49, 60, 2, 3, 4, 5, 11, 12, 13, 15, 16, 17, 66, 66, 66]
/-- a slot's number, 0 for none -/
def slN (Ss : List Nat) (x : Option Nat) : Nat := match plc Ss x with
  | some k => k + 1
  | none => 0
def wP (w : Nat) : List Int32 := if w = 17 ∨ w = 25 ∨ w = 29 ∨ w = 32 then [bv (nI 167)] else []
def wO (w : Nat) (t : Option Nat) : Int32 := bv (nI (if w = 31 ∧ t = none then 0 else opc.getD w 0))
/-- what stands behind the opcode; t: the function that the symbol means, d: the symbol's address -/
def wR (v : zV) (Ts Ss : List Nat) (w : Nat) (a : Int32) (t : Option Nat) (d : Nat) : List Int32 :=
  if w = 0 then sgn a
  else if w = 1 ∨ w = 2 ∨ w = 28 ∨ w = 29 then uns a.toNatClampNeg
  else if 14 ≤ w ∧ w ≤ 16 then [bv (nI 173)]
  else if w = 19 ∨ w = 20 then bv (nI 3) :: uns a.toNatClampNeg
  else if w = 21 ∨ w = 22 then bv (nI 0) :: uns a.toNatClampNeg
  else if 23 ≤ w ∧ w ≤ 25 then [bv (nI (if a = 0 then 64 else 126))]
  else if w = 31 then (match t with | some z => wid (pN v 1202 8 z) | none => [])
  else if w = 32 then wid ((plc Ts (some a.toNatClampNeg)).getD 0) ++ [bv (nI 0)]
  else if w = 33 then wid d
  else if w = 34 then wid (slN Ss t)
  else if w = 35 then sgn (nI 1024)
  else []
def wB (v : zV) (Ts Ss : List Nat) (o w : Nat) (a : Int32) : List Int32 := wP w ++ wO w (fO v (16 * o + a.toNatClampNeg)) :: wR v Ts Ss w a (fO v (16 * o + a.toNatClampNeg)) (aO v (16 * o + a.toNatClampNeg))
theorem wid_l (n : Nat) : (wid n).length = 5 := rfl
section ZWB
variable {v : zV} {Ts Ss : List Nat} {o w : Nat} {a : Int32}
theorem wB_0 : wB v Ts Ss o 0 a = bv (nI 66) :: sgn a := rfl
theorem wB_1 (h : w = 1 ∨ w = 2) : wB v Ts Ss o w a = bv (nI (31 + w)) :: uns a.toNatClampNeg := by
  rcases h with e | e <;> subst e <;> rfl
theorem wB_3 (h : 3 ≤ w ∧ w ≤ 6) : wB v Ts Ss o w a = [bv (nI (121 + w))] := by
  rcases (show w = 3 ∨ w = 4 ∨ w = 5 ∨ w = 6 by omega) with e | e | e | e <;> subst e <;> rfl
theorem wB_7 : wB v Ts Ss o 7 a = [bv (nI 129)] := rfl
theorem wB_8 (h : 8 ≤ w ∧ w ≤ 13) : wB v Ts Ss o w a = [bv (nI (123 + w))] := by
  rcases (show w = 8 ∨ w = 9 ∨ w = 10 ∨ w = 11 ∨ w = 12 ∨ w = 13 by omega) with e | e | e | e | e | e <;> subst e <;> rfl
theorem wB_14 : wB v Ts Ss o 14 a = [bv (nI 81), bv (nI 173)] := rfl
theorem wB_15 : wB v Ts Ss o 15 a = [bv (nI 83), bv (nI 173)] := rfl
theorem wB_16 : wB v Ts Ss o 16 a = [bv (nI 84), bv (nI 173)] := rfl
theorem wB_17 : wB v Ts Ss o 17 a = [bv (nI 167), bv (nI 27)] := rfl
theorem wB_18 : wB v Ts Ss o 18 a = [bv (nI 26)] := rfl
theorem wB_19 : wB v Ts Ss o 19 a = bv (nI 41) :: bv (nI 3) :: uns a.toNatClampNeg := rfl
theorem wB_20 : wB v Ts Ss o 20 a = bv (nI 55) :: bv (nI 3) :: uns a.toNatClampNeg := rfl
theorem wB_21 : wB v Ts Ss o 21 a = bv (nI 49) :: bv (nI 0) :: uns a.toNatClampNeg := rfl
theorem wB_22 : wB v Ts Ss o 22 a = bv (nI 60) :: bv (nI 0) :: uns a.toNatClampNeg := rfl
theorem wB_23 (h : w = 23 ∨ w = 24) : wB v Ts Ss o w a = [bv (nI (w - 21)), bv (nI (if a = 0 then 64 else 126))] := by
  rcases h with e | e <;> subst e <;> rfl
theorem wB_25 : wB v Ts Ss o 25 a = [bv (nI 167), bv (nI 4), bv (nI (if a = 0 then 64 else 126))] := rfl
theorem wB_26 : wB v Ts Ss o 26 a = [bv (nI 5)] := rfl
theorem wB_27 : wB v Ts Ss o 27 a = [bv (nI 11)] := rfl
theorem wB_28 : wB v Ts Ss o 28 a = bv (nI 12) :: uns a.toNatClampNeg := rfl
theorem wB_29 : wB v Ts Ss o 29 a = bv (nI 167) :: bv (nI 13) :: uns a.toNatClampNeg := rfl
theorem wB_30 : wB v Ts Ss o 30 a = [bv (nI 15)] := rfl
theorem wB_31n (h : fO v (16 * o + a.toNatClampNeg) = none) : wB v Ts Ss o 31 a = [bv (nI 0)] := by
  unfold wB
  rw [h]
  rfl
theorem wB_31s {z : Nat} (h : fO v (16 * o + a.toNatClampNeg) = some z) : wB v Ts Ss o 31 a = bv (nI 16) :: wid (pN v 1202 8 z) := by
  unfold wB
  rw [h]
  rfl
theorem wB_32 : wB v Ts Ss o 32 a = bv (nI 167) :: bv (nI 17) :: (wid ((plc Ts (some a.toNatClampNeg)).getD 0) ++ [bv (nI 0)]) := rfl
theorem wB_33 : wB v Ts Ss o 33 a = bv (nI 66) :: wid (aO v (16 * o + a.toNatClampNeg)) := rfl
theorem wB_34 : wB v Ts Ss o 34 a = bv (nI 66) :: wid (slN Ss (fO v (16 * o + a.toNatClampNeg))) := rfl
theorem wB_35 : wB v Ts Ss o 35 a = bv (nI 66) :: sgn (nI 1024) := rfl
end ZWB
set_option maxRecDepth 100000 in
set_option maxHeartbeats 4000000 in
theorem mm_two {l : Launch} {N0 t0 : Nat} {D : va_G} {cy : Nat → ClassId} {S : zS} {S0 : zS} {g : Nat} {qa : Nat → Nat} {v : zV} {T : Nat → Int32} {L : List Int32} (hm : mT S0 g qa v T L S) {x y : Int32} (hb : L.length + 1 < 40000) : zMv l yX12_two (zws yX12_two cX12_two 3 none) { frames := 1, cells := 0, slots := 0, locals := 21 } N0 t0 D cy S [.ref g, .int x, .int y] (fun S' => mT S0 g qa v T (L ++ [bv x, bv y]) S') 0 0 := by
  refine zMv.of (cc := cX12_two) (maxL := 3) (ret := none) (by decide) rfl (Nat.le_of_ble_eq_true rfl) ?_
  intro p e s m args below meth c F G hr hlk hnm
  have hm0 := hm
  obtain ⟨v1, hS, hX, hB⟩ := hm
  refine r_aload_n F dX12_two_0 rfl ?_
  refine r_iload_n F dX12_two_1 rfl ?_
  refine c_Vv (ci := 12) F G (mm_put hm0 (x := x) (by omega)) (cwV 1 F.2.2.2.2 (zgV km_X12_235 ki_X12_put ke_X12_X12_put kn_X12 ko_X12_put) rfl rfl rfl ⟨rfl, hd_yX12_put⟩ ⟨Nat.le_of_ble_eq_true rfl, Nat.le_of_ble_eq_true rfl⟩) rfl (by decide) hS.al rfl rfl (Nat.le_of_ble_eq_true rfl) dX12_two_2 ⟨Nat.le_of_ble_eq_true rfl, Nat.le_of_ble_eq_true rfl⟩ (fun S2 hm2 => ?_)
  have hm3 := hm2
  obtain ⟨v2, hS, hX2, hB2⟩ := hm2
  refine r_aload_n F dX12_two_5 rfl ?_
  refine r_iload_n F dX12_two_6 rfl ?_
  refine c_Vv (ci := 12) F G (mm_put hm3 (x := y) (by rw [List.length_append]; exact hb)) (cwV 1 F.2.2.2.2 (zgV km_X12_235 ki_X12_put ke_X12_X12_put kn_X12 ko_X12_put) rfl rfl rfl ⟨rfl, hd_yX12_put⟩ ⟨Nat.le_of_ble_eq_true rfl, Nat.le_of_ble_eq_true rfl⟩) rfl (by decide) hS.al rfl rfl (Nat.le_of_ble_eq_true rfl) dX12_two_7 ⟨Nat.le_of_ble_eq_true rfl, Nat.le_of_ble_eq_true rfl⟩ (fun S7 hm7 => ?_)
  exact e_vret F hr hlk (by rw [List.append_assoc] at hm7; exact hm7) (by decide) (by decide) dX12_two_10
