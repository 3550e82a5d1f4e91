theorem nl0 : (0 : Int32) = nI 0 := rfl
theorem nl1 : (1 : Int32) = nI 1 := rfl
theorem nl2 : (2 : Int32) = nI 2 := rfl
theorem nl3 : (3 : Int32) = nI 3 := rfl
theorem nl4 : (4 : Int32) = nI 4 := rfl
theorem nl5 : (5 : Int32) = nI 5 := rfl
theorem nl6 : (6 : Int32) = nI 6 := rfl
theorem nl7 : (7 : Int32) = nI 7 := rfl
theorem nl8 : (8 : Int32) = nI 8 := rfl
theorem nl9 : (9 : Int32) = nI 9 := rfl
theorem nl10 : (10 : Int32) = nI 10 := rfl
theorem nl16 : (16 : Int32) = nI 16 := rfl
theorem nl60 : (60 : Int32) = nI 60 := rfl
theorem nl64 : (64 : Int32) = nI 64 := rfl
theorem nI_dec {n : Nat} (h : n < 2 ^ 31) : (nI n - 1).toInt = (n : Int) - 1 := by
  rw [Int32.toInt_sub, nI_toInt h, show (1 : Int32).toInt = 1 by decide]
  rw [Int.bmod_def]
  split <;> omega
theorem nI_toN {a b : Nat} (ha : a < 2 ^ 31) (hb : b < 2 ^ 31) : nI a = nI b ↔ a = b := nI_eq ha hb
theorem nI_div {a b : Nat} (ha : a < 2 ^ 31) (hb : b < 2 ^ 31) : nI a / nI b = nI (a / b) := by
  apply Int32.toInt_inj.mp
  have h1 : a / b ≤ a := Nat.div_le_self a b
  rw [Int32.toInt_div, nI_toInt ha, nI_toInt hb, nI_toInt (by omega), ← Int.ofNat_tdiv]
  generalize a / b = q at h1
  rw [Int.bmod_def]
  split <;> omega
theorem nI_mod {a b : Nat} (ha : a < 2 ^ 31) (hb : b < 2 ^ 31) : nI a - nI a / nI b * nI b = nI (a % b) := by
  rw [nI_div ha hb, nI_mul]
  have h := Nat.div_add_mod a b
  have h2 : nI a = nI (a % b) + nI (a / b * b) := by rw [nI_add]; congr 1; rw [Nat.mul_comm]; omega
  rw [h2, Int32.add_sub_cancel]
/-- a number of the reference, as a Nat -/
abbrev cn (v : zV) (i k : Nat) : Nat := (v.1 i k).toNatClampNeg
def ok1 (v : zV) (i k B : Nat) : Prop := v.1 i k = nI (cn v i k) ∧ cn v i k ≤ B
theorem ok1.of {v : zV} {i k B m : Nat} (h : v.1 i k = nI m) (hm : m ≤ B) (hB : B < 2 ^ 31) : ok1 v i k B := by
  have e : cn v i k = m := by show (v.1 i k).toNatClampNeg = m; rw [h, nI_clamp (by omega)]
  exact ⟨by rw [e]; exact h, by rw [e]; exact hm⟩
/-- what bounds what: field, places, the largest -/
def zmB : List (Nat × Nat × Nat) := [(1201, 1, 6), (1202, 6, 8), (1203, 6, 4), (1204, 6, 16), (1205, 48, 4), (1206, 48, 1), (1207, 48, 4), (1208, 48, 60), (1209, 2880, 35), (1211, 24, 64), (1212, 24, 4), (1214, 96, 30), (1215, 96, 1), (1216, 96, 2), (1218, 96, 64)]
def vRg (v : zV) : Prop := ∀ t ∈ zmB, ∀ k, k < t.2.1 → ok1 v t.1 k t.2.2
theorem zmBB : ∀ t ∈ zmB, t.2.2 < 2 ^ 31 := by decide
theorem vRg.up {v : zV} (h : vRg v) {i k m : Nat} {x : Int32} (hx : x = nI m) (hm : ∀ t ∈ zmB, t.1 = i → m ≤ t.2.2) : vRg (u1 v i k x) := by
  intro t ht k2 hk2
  by_cases e : t.1 = i ∧ k2 = k
  · refine ok1.of (m := m) ?_ (hm t ht e.1) (zmBB t ht)
    rw [e.1, e.2, hx]
    exact z2_s _ _ _ _
  · have e2 : (u1 v i k x).1 t.1 k2 = v.1 t.1 k2 := z2_n _ _ (by by_cases q : t.1 = i; exact Or.inr (fun q2 => e ⟨q, q2⟩); exact Or.inl q)
    unfold ok1 cn
    rw [e2]
    exact h t ht k2 hk2
/-- a field that bounds nothing -/
theorem vRg.u9 {v : zV} (h : vRg v) {i k : Nat} {x : Int32} (hi : ∀ t ∈ zmB, t.1 ≠ i) : vRg (u1 v i k x) := by
  intro t ht k2 hk2
  have e2 : (u1 v i k x).1 t.1 k2 = v.1 t.1 k2 := z2_n _ _ (Or.inl (hi t ht))
  unfold ok1 cn
  rw [e2]
  exact h t ht k2 hk2
theorem rg_1201 {v : zV} (hv : vRg v) {k : Nat} (hk : k < 1) : ok1 v 1201 k 6 := hv (1201, 1, 6) (List.mem_of_getElem? (i := 0) rfl) k hk
theorem rg_1202 {v : zV} (hv : vRg v) {k : Nat} (hk : k < 6) : ok1 v 1202 k 8 := hv (1202, 6, 8) (List.mem_of_getElem? (i := 1) rfl) k hk
theorem rg_1203 {v : zV} (hv : vRg v) {k : Nat} (hk : k < 6) : ok1 v 1203 k 4 := hv (1203, 6, 4) (List.mem_of_getElem? (i := 2) rfl) k hk
theorem rg_1204 {v : zV} (hv : vRg v) {k : Nat} (hk : k < 6) : ok1 v 1204 k 16 := hv (1204, 6, 16) (List.mem_of_getElem? (i := 3) rfl) k hk
theorem rg_1205 {v : zV} (hv : vRg v) {k : Nat} (hk : k < 48) : ok1 v 1205 k 4 := hv (1205, 48, 4) (List.mem_of_getElem? (i := 4) rfl) k hk
theorem rg_1206 {v : zV} (hv : vRg v) {k : Nat} (hk : k < 48) : ok1 v 1206 k 1 := hv (1206, 48, 1) (List.mem_of_getElem? (i := 5) rfl) k hk
theorem rg_1207 {v : zV} (hv : vRg v) {k : Nat} (hk : k < 48) : ok1 v 1207 k 4 := hv (1207, 48, 4) (List.mem_of_getElem? (i := 6) rfl) k hk
theorem rg_1208 {v : zV} (hv : vRg v) {k : Nat} (hk : k < 48) : ok1 v 1208 k 60 := hv (1208, 48, 60) (List.mem_of_getElem? (i := 7) rfl) k hk
theorem rg_1209 {v : zV} (hv : vRg v) {k : Nat} (hk : k < 2880) : ok1 v 1209 k 35 := hv (1209, 2880, 35) (List.mem_of_getElem? (i := 8) rfl) k hk
theorem rg_1211 {v : zV} (hv : vRg v) {k : Nat} (hk : k < 24) : ok1 v 1211 k 64 := hv (1211, 24, 64) (List.mem_of_getElem? (i := 9) rfl) k hk
theorem rg_1212 {v : zV} (hv : vRg v) {k : Nat} (hk : k < 24) : ok1 v 1212 k 4 := hv (1212, 24, 4) (List.mem_of_getElem? (i := 10) rfl) k hk
theorem rg_1214 {v : zV} (hv : vRg v) {k : Nat} (hk : k < 96) : ok1 v 1214 k 30 := hv (1214, 96, 30) (List.mem_of_getElem? (i := 11) rfl) k hk
theorem rg_1215 {v : zV} (hv : vRg v) {k : Nat} (hk : k < 96) : ok1 v 1215 k 1 := hv (1215, 96, 1) (List.mem_of_getElem? (i := 12) rfl) k hk
theorem rg_1216 {v : zV} (hv : vRg v) {k : Nat} (hk : k < 96) : ok1 v 1216 k 2 := hv (1216, 96, 2) (List.mem_of_getElem? (i := 13) rfl) k hk
theorem rg_1218 {v : zV} (hv : vRg v) {k : Nat} (hk : k < 96) : ok1 v 1218 k 64 := hv (1218, 96, 64) (List.mem_of_getElem? (i := 14) rfl) k hk
abbrev pIn (x a b : Int32) : Prop := ¬ x < a ∧ x ≤ b
theorem pIn_iff {x M : Int32} {n : Nat} (hM : M.toInt = (n : Int)) : pIn x 0 M ↔ ∃ j, j ≤ n ∧ x = nI j := by
  constructor
  · intro h
    exact nI_of2 hM h.1 h.2
  · rintro ⟨j, hj, rfl⟩
    have hn : n < 2 ^ 31 := by have := Int32.toInt_lt M; omega
    refine ⟨nI_pos (by omega), ?_⟩
    rw [Int32.le_iff_toInt_le, nI_toInt (by omega), hM]
    omega
theorem pIn_dec {x : Int32} {n : Nat} (hn : n < 2 ^ 31) : pIn x 0 (nI n - 1) ↔ ∃ j, j < n ∧ x = nI j := by
  constructor
  · intro h
    obtain ⟨j, hj, rfl⟩ := nI_of h.1
    have h2 := h.2
    rw [Int32.le_iff_toInt_le, nI_toInt hj, nI_dec hn] at h2
    exact ⟨j, by omega, rfl⟩
  · rintro ⟨j, hj, rfl⟩
    refine ⟨nI_pos (by omega), ?_⟩
    rw [Int32.le_iff_toInt_le, nI_toInt (by omega), nI_dec hn]
    omega
def gO (v : zV) (o : Int32) : Prop := ∃ j, j < cn v 1201 0 ∧ o = nI j
/-- the j-th thing of a kind (1202 function, 1203 segment, 1204 symbol) of an object -/
def gT (v : zV) (t : Nat) (o f : Int32) : Prop := ∃ i j, i < cn v 1201 0 ∧ o = nI i ∧ j < cn v t i ∧ f = nI j
/-- a boolean's answer -/
def zbo (r : Int32) (P : Prop) : Prop := (r = 0 ∧ ¬ P) ∨ (r = 1 ∧ P)
theorem zbo.f {r : Int32} {P : Prop} (h : zbo r P) (e : r = 0) : ¬ P := by
  rcases h with h | h
  · exact h.2
  · exact absurd (h.1.symm.trans e) (by decide)
theorem zbo.t {r : Int32} {P : Prop} (h : zbo r P) (e : ¬ r = 0) : P := by
  rcases h with h | h
  · exact absurd h.1 e
  · exact h.2
theorem zbo.nar {r : Int32} {P : Prop} (h : zbo r P) : narrow .boolean (.int r) = .int r := by
  rcases h with h | h <;> rw [h.1] <;> rfl
theorem zbo.iff {r : Int32} {P Q : Prop} (h : zbo r P) (e : P ↔ Q) : zbo r Q := by
  rcases h with h | h
  · exact Or.inl ⟨h.1, fun q => h.2 (e.mpr q)⟩
  · exact Or.inr ⟨h.1, e.mp h.2⟩
theorem zbo.y {P : Prop} (h : P) : zbo 1 P := Or.inr ⟨rfl, h⟩
theorem zbo.n {P : Prop} (h : ¬ P) : zbo 0 P := Or.inl ⟨rfl, h⟩
set_option maxRecDepth 100000 in
set_option maxHeartbeats 4000000 in
theorem mm_isIn {l : Launch} {N0 t0 : Nat} {D : va_G} {cy : Nat → ClassId} {S : zS} (x a b : Int32) : zMi l yX12_isIn (zws yX12_isIn cX12_isIn 3 (some .boolean)) { frames := 0, cells := 0, slots := 0, locals := 0 } N0 t0 D cy S [.int x, .int a, .int b] (fun r S' => zbo r (pIn x a b) ∧ S' = S) 0 0 := by
  refine zMi.of (cc := cX12_isIn) (maxL := 3) (ret := (some .boolean)) (by decide) rfl (Nat.le_of_ble_eq_true rfl) ?_
  intro p e s m args below meth c F G hr hlk hnm
  refine r_iload_n F dX12_isIn_0 rfl ?_
  refine r_iload_n F dX12_isIn_1 rfl ?_
  refine r_icmp_lt (tgt := 14) F dX12_isIn_2 (by decide) (fun c2 => ?_) (fun c2 => ?_)
  · refine r_iconst (v := 0) F dX12_isIn_14 (by decide) ?_
    exact e_zret F hr rfl hlk ⟨zbo.n (fun h => h.1 c2), rfl⟩ (by decide) (by decide) dX12_isIn_15
  · refine r_iload_n F dX12_isIn_5 rfl ?_
    refine r_iload_n F dX12_isIn_6 rfl ?_
    refine r_icmp_gt (tgt := 14) F dX12_isIn_7 (by decide) (fun c7 => ?_) (fun c7 => ?_)
    · refine r_iconst (v := 0) F dX12_isIn_14 (by decide) ?_
      exact e_zret F hr rfl hlk ⟨zbo.n (fun h => absurd c7 (Int32.not_lt.mpr h.2)), rfl⟩ (by decide) (by decide) dX12_isIn_15
    · refine r_iconst (v := 1) F dX12_isIn_10 (by decide) ?_
      refine r_goto (tgt := 15) F dX12_isIn_11 (by decide) ?_
      exact e_zret F hr rfl hlk ⟨zbo.y ⟨c2, Int32.not_lt.mp c7⟩, rfl⟩ (by decide) (by decide) dX12_isIn_15
set_option maxRecDepth 100000 in
set_option maxHeartbeats 4000000 in
theorem mm_isObject {l : Launch} {N0 t0 : Nat} {D : va_G} {cy : Nat → ClassId} {S : zS} {S0 : zS} {g : Nat} {qa : Nat → Nat} {v : zV} (hS : zmR S0 g qa v S) {o : Int32} (hv : vRg v) : zMi l yX12_isObject (zws yX12_isObject cX12_isObject 2 (some .boolean)) { frames := 1, cells := 0, slots := 0, locals := 22 } N0 t0 D cy S [.ref g, .int o] (fun r S' => zbo r (gO v o) ∧ S' = S) 0 0 := by
  refine zMi.of (cc := cX12_isObject) (maxL := 2) (ret := (some .boolean)) (by decide) rfl (Nat.le_of_ble_eq_true rfl) ?_
  intro p e s m args below meth c F G hr hlk hnm
  refine r_iload_n F dX12_isObject_0 rfl ?_
  refine r_iconst (v := 0) F dX12_isObject_1 (by decide) ?_
  refine r_aload_n F dX12_isObject_2 rfl ?_
  refine gi_objects F G hS dX12_isObject_3 ?_
  refine r_iconst (v := 1) F dX12_isObject_6 (by decide) ?_
  refine r_isub F dX12_isObject_7 ?_
  refine c_Si F G (mm_isIn _ _ _) (va_cwS 3 F.2.2.2.2 (zgS km_X12_126 ks_X12_isIn kn_X12 ko_X12_isIn) rfl rfl rfl hd_yX12_isIn ⟨Nat.le_of_ble_eq_true rfl, Nat.le_of_ble_eq_true rfl⟩) rfl rfl (Nat.le_of_ble_eq_true rfl) dX12_isObject_8 ⟨Nat.le_of_ble_eq_true rfl, Nat.le_of_ble_eq_true rfl⟩ (fun r8 S8 h8 => ?_)
  obtain ⟨a8, e8⟩ := h8
  have hs8 := e8.symm
  subst hs8
  have hn := rg_1201 hv (k := 0) (by decide)
  have key : pIn o 0 (v.1 1201 0 - 1) ↔ gO v o := by
    rw [hn.1]
    exact pIn_dec (by have := hn.2; omega)
  exact e_zret F hr a8.nar hlk ⟨a8.iff key, rfl⟩ (by decide) (by decide) dX12_isObject_11
set_option maxRecDepth 100000 in
set_option maxHeartbeats 4000000 in
theorem mm_isFunction {l : Launch} {N0 t0 : Nat} {D : va_G} {cy : Nat → ClassId} {S : zS} {S0 : zS} {g : Nat} {qa : Nat → Nat} {v : zV} (hS : zmR S0 g qa v S) {o f : Int32} (hv : vRg v) : zMi l yX12_isFunction (zws yX12_isFunction cX12_isFunction 3 (some .boolean)) { frames := 2, cells := 0, slots := 0, locals := 45 } N0 t0 D cy S [.ref g, .int o, .int f] (fun r S' => zbo r (gT v 1202 o f) ∧ S' = S) 0 0 := by
  refine zMi.of (cc := cX12_isFunction) (maxL := 3) (ret := (some .boolean)) (by decide) rfl (Nat.le_of_ble_eq_true rfl) ?_
  intro p e s m args below meth c F G hr hlk hnm
  refine r_aload_n F dX12_isFunction_0 rfl ?_
  refine r_iload_n F dX12_isFunction_1 rfl ?_
  refine c_Vi (ci := 12) F G (mm_isObject hS hv) (cwV 1 F.2.2.2.2 (zgV km_X12_130 ki_X12_isObject ke_X12_X12_isObject kn_X12 ko_X12_isObject) rfl rfl rfl ⟨rfl, hd_yX12_isObject⟩ ⟨Nat.le_of_ble_eq_true rfl, Nat.le_of_ble_eq_true rfl⟩) rfl (by decide) hS.al rfl rfl (Nat.le_of_ble_eq_true rfl) dX12_isFunction_2 ⟨Nat.le_of_ble_eq_true rfl, Nat.le_of_ble_eq_true rfl⟩ (fun r2 S2 h2 => ?_)
  obtain ⟨a2, e2⟩ := h2
  have hs2 := e2.symm
  subst hs2
  have hn := rg_1201 hv (k := 0) (by decide)
  refine r_if_eq (tgt := 26) F dX12_isFunction_5 (by decide) (fun c5 => ?_) (fun c5 => ?_)
  · refine r_iconst (v := 0) F dX12_isFunction_26 (by decide) ?_
    exact e_zret F hr rfl hlk ⟨zbo.n (fun h => (a2.f c5) ⟨h.choose, h.choose_spec.choose_spec.1, h.choose_spec.choose_spec.2.1⟩), rfl⟩ (by decide) (by decide) dX12_isFunction_27
  · refine r_iload_n F dX12_isFunction_8 rfl ?_
    refine r_if_lt (tgt := 26) F dX12_isFunction_9 (by decide) (fun c9 => ?_) (fun c9 => ?_)
    · refine r_iconst (v := 0) F dX12_isFunction_26 (by decide) ?_
      exact e_zret F hr rfl hlk ⟨zbo.n (fun h => by obtain ⟨i2, j2, q1, q2, q3, q4⟩ := h; rw [q4] at c9; have hb := (rg_1202 hv (k := i2) (by have := hn.2; omega)).2; exact nI_pos (by omega) c9), rfl⟩ (by decide) (by decide) dX12_isFunction_27
    · refine r_iload_n F dX12_isFunction_12 rfl ?_
      refine r_aload_n F dX12_isFunction_13 rfl ?_
      obtain ⟨i, hi, ei⟩ := a2.t c5
      have hi6 : i < 6 := by have := hn.2; omega
      have hf := rg_1202 hv hi6
      subst ei
      refine gq_functions F G hS dX12_isFunction_14 ?_
      refine r_iload_n F dX12_isFunction_17 rfl ?_
      refine al_functions F G hS (i) rfl hi6 dX12_isFunction_18 ?_
      refine r_icmp_ge (tgt := 26) F dX12_isFunction_19 (by decide) (fun c19 => ?_) (fun c19 => ?_)
      · refine r_iconst (v := 0) F dX12_isFunction_26 (by decide) ?_
        exact e_zret F hr rfl hlk ⟨zbo.n (fun h => by obtain ⟨i2, j2, q1, q2, q3, q4⟩ := h; rw [q4, hf.1] at c19; have q5 := (nI_eq (by have := hn.2; omega) (by have := hn.2; omega)).mp q2; subst q5; have hb := hf.2; rw [nI_leI (by omega) (by omega)] at c19; omega), rfl⟩ (by decide) (by decide) dX12_isFunction_27
      · refine r_iconst (v := 1) F dX12_isFunction_22 (by decide) ?_
        refine r_goto (tgt := 27) F dX12_isFunction_23 (by decide) ?_
        exact e_zret F hr rfl hlk ⟨zbo.y (by obtain ⟨j, hj, ej⟩ := nI_of c9; rw [ej, hf.1] at c19; have hb := hf.2; exact ⟨i, j, hi, rfl, by rw [nI_leI (by omega) hj] at c19; omega, ej⟩), rfl⟩ (by decide) (by decide) dX12_isFunction_27
set_option maxRecDepth 100000 in
set_option maxHeartbeats 4000000 in
theorem mm_isSegment {l : Launch} {N0 t0 : Nat} {D : va_G} {cy : Nat → ClassId} {S : zS} {S0 : zS} {g : Nat} {qa : Nat → Nat} {v : zV} (hS : zmR S0 g qa v S) {o f : Int32} (hv : vRg v) : zMi l yX12_isSegment (zws yX12_isSegment cX12_isSegment 3 (some .boolean)) { frames := 2, cells := 0, slots := 0, locals := 45 } N0 t0 D cy S [.ref g, .int o, .int f] (fun r S' => zbo r (gT v 1203 o f) ∧ S' = S) 0 0 := by
  refine zMi.of (cc := cX12_isSegment) (maxL := 3) (ret := (some .boolean)) (by decide) rfl (Nat.le_of_ble_eq_true rfl) ?_
  intro p e s m args below meth c F G hr hlk hnm
  refine r_aload_n F dX12_isSegment_0 rfl ?_
  refine r_iload_n F dX12_isSegment_1 rfl ?_
  refine c_Vi (ci := 12) F G (mm_isObject hS hv) (cwV 1 F.2.2.2.2 (zgV km_X12_130 ki_X12_isObject ke_X12_X12_isObject kn_X12 ko_X12_isObject) rfl rfl rfl ⟨rfl, hd_yX12_isObject⟩ ⟨Nat.le_of_ble_eq_true rfl, Nat.le_of_ble_eq_true rfl⟩) rfl (by decide) hS.al rfl rfl (Nat.le_of_ble_eq_true rfl) dX12_isSegment_2 ⟨Nat.le_of_ble_eq_true rfl, Nat.le_of_ble_eq_true rfl⟩ (fun r2 S2 h2 => ?_)
  obtain ⟨a2, e2⟩ := h2
  have hs2 := e2.symm
  subst hs2
  have hn := rg_1201 hv (k := 0) (by decide)
  refine r_if_eq (tgt := 26) F dX12_isSegment_5 (by decide) (fun c5 => ?_) (fun c5 => ?_)
  · refine r_iconst (v := 0) F dX12_isSegment_26 (by decide) ?_
    exact e_zret F hr rfl hlk ⟨zbo.n (fun h => (a2.f c5) ⟨h.choose, h.choose_spec.choose_spec.1, h.choose_spec.choose_spec.2.1⟩), rfl⟩ (by decide) (by decide) dX12_isSegment_27
  · refine r_iload_n F dX12_isSegment_8 rfl ?_
    refine r_if_lt (tgt := 26) F dX12_isSegment_9 (by decide) (fun c9 => ?_) (fun c9 => ?_)
    · refine r_iconst (v := 0) F dX12_isSegment_26 (by decide) ?_
      exact e_zret F hr rfl hlk ⟨zbo.n (fun h => by obtain ⟨i2, j2, q1, q2, q3, q4⟩ := h; rw [q4] at c9; have hb := (rg_1203 hv (k := i2) (by have := hn.2; omega)).2; exact nI_pos (by omega) c9), rfl⟩ (by decide) (by decide) dX12_isSegment_27
    · refine r_iload_n F dX12_isSegment_12 rfl ?_
      refine r_aload_n F dX12_isSegment_13 rfl ?_
      obtain ⟨i, hi, ei⟩ := a2.t c5
      have hi6 : i < 6 := by have := hn.2; omega
      have hf := rg_1203 hv hi6
      subst ei
      refine gq_segments F G hS dX12_isSegment_14 ?_
      refine r_iload_n F dX12_isSegment_17 rfl ?_
      refine al_segments F G hS (i) rfl hi6 dX12_isSegment_18 ?_
      refine r_icmp_ge (tgt := 26) F dX12_isSegment_19 (by decide) (fun c19 => ?_) (fun c19 => ?_)
      · refine r_iconst (v := 0) F dX12_isSegment_26 (by decide) ?_
        exact e_zret F hr rfl hlk ⟨zbo.n (fun h => by obtain ⟨i2, j2, q1, q2, q3, q4⟩ := h; rw [q4, hf.1] at c19; have q5 := (nI_eq (by have := hn.2; omega) (by have := hn.2; omega)).mp q2; subst q5; have hb := hf.2; rw [nI_leI (by omega) (by omega)] at c19; omega), rfl⟩ (by decide) (by decide) dX12_isSegment_27
      · refine r_iconst (v := 1) F dX12_isSegment_22 (by decide) ?_
        refine r_goto (tgt := 27) F dX12_isSegment_23 (by decide) ?_
        exact e_zret F hr rfl hlk ⟨zbo.y (by obtain ⟨j, hj, ej⟩ := nI_of c9; rw [ej, hf.1] at c19; have hb := hf.2; exact ⟨i, j, hi, rfl, by rw [nI_leI (by omega) hj] at c19; omega, ej⟩), rfl⟩ (by decide) (by decide) dX12_isSegment_27
