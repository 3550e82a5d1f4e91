theorem u1_s {v : zV} {i k : Nat} {x : Int32} : (u1 v i k x).1 i k = x := z2_s v.1 i k x
theorem u1_n {v : zV} {i j k b : Nat} {x : Int32} (h : j ≠ i ∨ b ≠ k) : (u1 v i k x).1 j b = v.1 j b := z2_n v.1 x h
theorem enc_eq {a : Nat} {o : Option Nat} (ha : a < 2 ^ 31) (ho : ∀ z, o = some z → z < 2 ^ 31) : nI a = enc o ↔ o = some a := by
  cases o with
  | none => exact ⟨fun h => absurd (show (-1 : Int32) < 0 by decide) (by rw [show (-1 : Int32) = nI a from h.symm]; exact nI_pos ha), fun h => by cases h⟩
  | some z => exact ⟨fun h => by rw [(nI_eq ha (ho z rfl)).mp h], fun h => by cases h; rfl⟩
/-- the first place of x in a list -/
def plc (Ts : List Nat) (x : Option Nat) : Option Nat := fnd (fun k => decide (x = some (Ts.getD k 0))) Ts.length
/-- a list in the reference's tables: its row t, its count c -/
def tQ (v : zV) (t c : Nat) (Ts : List Nat) : Prop := v.1 c 0 = nI Ts.length ∧ ∀ k, k < Ts.length → v.1 t k = nI (Ts.getD k 0)
def addT (Ts : List Nat) (x : Nat) : List Nat := if plc Ts (some x) = none then Ts ++ [x] else Ts
theorem plc_hit {Ts : List Nat} {x : Option Nat} {k : Nat} (hk : k < Ts.length) (h : x = some (Ts.getD k 0)) (hn : ∀ j, j < k → ¬ x = some (Ts.getD j 0)) : plc Ts x = some k := fnd_iff.mpr ⟨hk, decide_eq_true h, fun y hy => decide_eq_false (hn y hy)⟩
theorem plc_none {Ts : List Nat} {x : Option Nat} (hn : ∀ j, j < Ts.length → ¬ x = some (Ts.getD j 0)) : plc Ts x = none := fnd_none.mpr (fun y hy => decide_eq_false (hn y hy))
theorem tQ.add {v : zV} {t c x : Nat} {Ts : List Nat} (h : tQ v t c Ts) (htc : t ≠ c) : tQ (u1 (u1 v t Ts.length (nI x)) c 0 (nI (Ts.length + 1))) t c (Ts ++ [x]) := by
  refine ⟨?_, fun k hk => ?_⟩
  · rw [List.length_append]
    show z2 (z2 v.1 t Ts.length (nI x)) c 0 (nI (Ts.length + 1)) c 0 = nI (Ts.length + 1)
    rw [z2_s]
  · rw [List.length_append] at hk
    have hk2 : k < Ts.length + 1 := hk
    show z2 (z2 v.1 t Ts.length (nI x)) c 0 (nI (Ts.length + 1)) t k = _
    rw [z2_n _ _ (Or.inl htc)]
    by_cases e : k = Ts.length
    · rw [e, z2_s, List.getD_eq_getElem?_getD, List.getElem?_append_right (Nat.le_refl _), Nat.sub_self]
      rfl
    · rw [z2_n _ _ (Or.inr e), h.2 k (by omega), List.getD_eq_getElem?_getD, List.getD_eq_getElem?_getD, List.getElem?_append_left (by omega)]
set_option maxRecDepth 100000 in
set_option maxHeartbeats 4000000 in
theorem mm_slotOf {l : Launch} {N0 t0 : Nat} {D : va_G} {cy : Nat → ClassId} {S : zS} {S0 : zS} {g : Nat} {qa : Nat → Nat} {v : zV} (hS : zmR S0 g qa v S) {Ts : List Nat} {x : Option Nat} (hT : tQ v 1224 1225 Ts) (hb : Ts.length < 49) (h31 : ∀ k, k < Ts.length → Ts.getD k 0 < 2 ^ 31) (hx : ∀ z, x = some z → z < 2 ^ 31) : zMi l yX12_slotOf (zws yX12_slotOf cX12_slotOf 3 (some .int)) { frames := 0, cells := 0, slots := 0, locals := 0 } N0 t0 D cy S [.ref g, .int (enc x)] (fun r S' => S' = S ∧ ((∃ k, plc Ts x = some k ∧ k < Ts.length ∧ r = nI (k + 1)) ∨ (plc Ts x = none ∧ r = 0))) 0 0 := by
  refine zMi.of (cc := cX12_slotOf) (maxL := 3) (ret := (some .int)) (by decide) rfl (Nat.le_of_ble_eq_true rfl) ?_
  intro p e s m args below meth c F G hr hlk hnm
  refine r_iconst (v := 0) F dX12_slotOf_0 (by decide) ?_
  refine r_istore_n F dX12_slotOf_1 (by decide) ?_
  refine z_loop (fun n S9 lv => ∃ k, k + n = Ts.length ∧ S = S9 ∧ (∀ j, j < k → ¬ x = some (Ts.getD j 0)) ∧ lv = [(2, .int (nI k)), (0, .ref g), (1, .int (enc x))]) Ts.length ?_ ⟨0, by omega, rfl, fun j hj => absurd hj (Nat.not_lt_zero j), rfl⟩
  rintro n S9 lv ⟨k, hkn, rfl, hst, rfl⟩ ih
  refine r_iload_n F dX12_slotOf_2 rfl ?_
  refine r_aload_n F dX12_slotOf_3 rfl ?_
  refine gi_slots F G hS dX12_slotOf_4 ?_
  rw [hT.1]
  refine r_icmp_ge (tgt := 30) F dX12_slotOf_7 (by decide) (fun c7 => ?_) (fun c7 => ?_)
  · have hke : k = Ts.length := by rw [nI_leI (by omega) (by omega)] at c7; omega
    have hnone := plc_none (fun j hj => hst j (by omega))
    refine r_iconst (v := 0) F dX12_slotOf_30 (by decide) ?_
    exact e_iret F hr hlk ⟨rfl, Or.inr ⟨hnone, rfl⟩⟩ (by decide) (by decide) dX12_slotOf_31
  · have hk : k < Ts.length := by rw [nI_leI (by omega) (by omega)] at c7; omega
    refine r_aload_n F dX12_slotOf_10 rfl ?_
    refine gq_slot F G hS dX12_slotOf_11 ?_
    refine r_iload_n F dX12_slotOf_14 rfl ?_
    refine al_slot F G hS (k) rfl (by omega) dX12_slotOf_15 ?_
    rw [hT.2 k hk]
    refine r_iload_n F dX12_slotOf_16 rfl ?_
    refine r_icmp_ne (tgt := 24) F dX12_slotOf_17 (by decide) (fun c17 => ?_) (fun c17 => ?_)
    · refine r_iinc F dX12_slotOf_24 rfl (by decide) ?_
      refine r_goto (tgt := 2) F dX12_slotOf_27 (by decide) ?_
      exact ih (n - 1) _ _ (by omega) ⟨k + 1, by omega, rfl, fun j hj h9 => by
        rcases Nat.lt_or_ge j k with h8 | h8
        · exact hst j h8 h9
        · rw [show j = k by omega] at h9
          exact c17 ((enc_eq (h31 k hk) hx).mpr h9), by rw [show nI k + Int32.ofInt 1 = nI (k + 1) from nI_add k 1]; rfl⟩
    · refine r_iload_n F dX12_slotOf_20 rfl ?_
      refine r_iconst (v := 1) F dX12_slotOf_21 (by decide) ?_
      refine r_iadd F dX12_slotOf_22 ?_
      exact e_iret F hr hlk ⟨rfl, Or.inl ⟨k, plc_hit hk ((enc_eq (h31 k hk) hx).mp c17) hst, hk, nI_add k 1⟩⟩ (by decide) (by decide) dX12_slotOf_23
set_option maxRecDepth 100000 in
set_option maxHeartbeats 4000000 in
theorem mm_typeOf {l : Launch} {N0 t0 : Nat} {D : va_G} {cy : Nat → ClassId} {S : zS} {S0 : zS} {g : Nat} {qa : Nat → Nat} {v : zV} (hS : zmR S0 g qa v S) {Ts : List Nat} {t : Nat} (hT : tQ v 1226 1227 Ts) (hb : Ts.length < 60) (h31 : ∀ k, k < Ts.length → Ts.getD k 0 < 2 ^ 31) (ht : t < 2 ^ 31) : zMi l yX12_typeOf (zws yX12_typeOf cX12_typeOf 3 (some .int)) { frames := 0, cells := 0, slots := 0, locals := 0 } N0 t0 D cy S [.ref g, .int (nI t)] (fun r S' => (∃ k, plc Ts (some t) = some k ∧ k < Ts.length ∧ r = nI k ∧ S' = S) ∨ (plc Ts (some t) = none ∧ r = nI Ts.length ∧ zmR S0 g qa (u1 (u1 v 1226 Ts.length (nI t)) 1227 0 (nI (Ts.length + 1))) S')) 0 0 := by
  refine zMi.of (cc := cX12_typeOf) (maxL := 3) (ret := (some .int)) (by decide) rfl (Nat.le_of_ble_eq_true rfl) ?_
  intro p e s m args below meth c F G hr hlk hnm
  have hx : ∀ z, some t = some z → z < 2 ^ 31 := fun z hz => by cases hz; exact ht
  refine r_iconst (v := 0) F dX12_typeOf_0 (by decide) ?_
  refine r_istore_n F dX12_typeOf_1 (by decide) ?_
  refine z_loop (fun n S9 lv => ∃ k, k + n = Ts.length ∧ S = S9 ∧ (∀ j, j < k → ¬ some t = some (Ts.getD j 0)) ∧ lv = [(2, .int (nI k)), (0, .ref g), (1, .int (nI t))]) Ts.length ?_ ⟨0, by omega, rfl, fun j hj => absurd hj (Nat.not_lt_zero j), rfl⟩
  rintro n S9 lv ⟨k, hkn, rfl, hst, rfl⟩ ih
  refine r_iload_n F dX12_typeOf_2 rfl ?_
  refine r_aload_n F dX12_typeOf_3 rfl ?_
  refine gi_types F G hS dX12_typeOf_4 ?_
  rw [hT.1]
  refine r_icmp_ge (tgt := 28) F dX12_typeOf_7 (by decide) (fun c7 => ?_) (fun c7 => ?_)
  · have hke : k = Ts.length := by rw [nI_leI (by omega) (by omega)] at c7; omega
    have hnone := plc_none (fun j hj => hst j (by omega))
    refine r_aload_n F dX12_typeOf_28 rfl ?_
    refine gq_type F G hS dX12_typeOf_29 ?_
    refine r_aload_n F dX12_typeOf_32 rfl ?_
    refine gi_types F G hS dX12_typeOf_33 ?_
    refine r_iload_n F dX12_typeOf_36 rfl ?_
    refine as_type F G hS Ts.length hT.1 (by omega) dX12_typeOf_37 (fun S hS => ?_)
    refine r_aload_n F dX12_typeOf_38 rfl ?_
    refine r_dup F dX12_typeOf_39 rfl ?_
    refine gi_types F G hS dX12_typeOf_40 ?_
    refine r_iconst (v := 1) F dX12_typeOf_43 (by decide) ?_
    refine r_iadd F dX12_typeOf_44 ?_
    rw [show (u1 v 1226 Ts.length (nI t)).1 1227 0 = nI Ts.length by show z2 v.1 1226 Ts.length (nI t) 1227 0 = _; rw [z2_n _ _ (Or.inl (by decide))]; exact hT.1, show nI Ts.length + 1 = nI (Ts.length + 1) from nI_add _ 1]
    refine pi_types F G hS dX12_typeOf_45 (fun S hS => ?_)
    refine r_aload_n F dX12_typeOf_48 rfl ?_
    refine gi_types F G hS dX12_typeOf_49 ?_
    refine r_iconst (v := 1) F dX12_typeOf_52 (by decide) ?_
    refine r_isub F dX12_typeOf_53 ?_
    exact e_iret F hr hlk (Or.inr ⟨hnone, by rw [show (u1 (u1 v 1226 Ts.length (nI t)) 1227 0 (nI (Ts.length + 1))).1 1227 0 = nI (Ts.length + 1) from u1_s]; rw [nl1, nI_sub (by omega)]; rfl, hS⟩) (by decide) (by decide) dX12_typeOf_54
  · have hk : k < Ts.length := by rw [nI_leI (by omega) (by omega)] at c7; omega
    refine r_aload_n F dX12_typeOf_10 rfl ?_
    refine gq_type F G hS dX12_typeOf_11 ?_
    refine r_iload_n F dX12_typeOf_14 rfl ?_
    refine al_type F G hS (k) rfl (by omega) dX12_typeOf_15 ?_
    rw [hT.2 k hk]
    refine r_iload_n F dX12_typeOf_16 rfl ?_
    refine r_icmp_ne (tgt := 22) F dX12_typeOf_17 (by decide) (fun c17 => ?_) (fun c17 => ?_)
    · refine r_iinc F dX12_typeOf_22 rfl (by decide) ?_
      refine r_goto (tgt := 2) F dX12_typeOf_25 (by decide) ?_
      exact ih (n - 1) _ _ (by omega) ⟨k + 1, by omega, rfl, fun j hj h9 => by
        rcases Nat.lt_or_ge j k with h8 | h8
        · exact hst j h8 h9
        · rw [show j = k by omega] at h9
          exact c17 ((enc_eq (o := some t) (h31 k hk) hx).mpr h9), by rw [show nI k + Int32.ofInt 1 = nI (k + 1) from nI_add k 1]; rfl⟩
    · refine r_iload_n F dX12_typeOf_20 rfl ?_
      exact e_iret F hr hlk (Or.inl ⟨k, plc_hit hk ((enc_eq (o := some t) (h31 k hk) hx).mp c17) hst, hk, rfl, rfl⟩) (by decide) (by decide) dX12_typeOf_21
