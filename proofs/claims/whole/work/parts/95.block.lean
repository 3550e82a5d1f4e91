/-- what is known of a function's code at a word: how many blocks are open, how many values; each block's first word, what it leaves, what is below it, whether it is dead, where its ELSE is -/
abbrev ckS : Type := Nat × Nat × (Nat → Nat) × (Nat → Nat) × (Nat → Nat) × (Nat → Bool) × (Nat → Option Nat)
abbrev kn (c : ckS) : Nat := c.1
abbrev kh (c : ckS) : Nat := c.2.1
abbrev ko (c : ckS) : Nat → Nat := c.2.2.1
abbrev kl (c : ckS) : Nat → Nat := c.2.2.2.1
abbrev kb (c : ckS) : Nat → Nat := c.2.2.2.2.1
abbrev kdd (c : ckS) : Nat → Bool := c.2.2.2.2.2.1
abbrev ke (c : ckS) : Nat → Option Nat := c.2.2.2.2.2.2
abbrev setH (c : ckS) (x : Nat) : ckS := (kn c, x, c.2.2)
/-- m values are taken -/
def kP (c : ckS) (m : Nat) : Option ckS := if m ≤ kh c - kb c (kn c - 1) then some (setH c (kh c - m)) else if kdd c (kn c - 1) = true then some (setH c (kb c (kn c - 1))) else none
/-- the block's values are those that it leaves -/
def kC (c : ckS) : Option ckS := if kh c - kb c (kn c - 1) = kl c (kn c - 1) ∨ (kdd c (kn c - 1) = true ∧ kh c - kb c (kn c - 1) < kl c (kn c - 1)) then some (setH c (kb c (kn c - 1))) else none
def kOp (c : ckS) (k a : Nat) : ckS := (kn c + 1, kh c, va_up (ko c) (kn c) k, va_up (kl c) (kn c) a, va_up (kb c) (kn c) (kh c), va_up (kdd c) (kn c) false, va_up (ke c) (kn c) none)
def kDie (c : ckS) : ckS := (kn c, kb c (kn c - 1), ko c, kl c, kb c, va_up (kdd c) (kn c - 1) true, ke c)
def kElse (c : ckS) (k : Nat) : ckS := (kn c, kh c, ko c, kl c, kb c, va_up (kdd c) (kn c - 1) false, va_up (ke c) (kn c - 1) (some k))
def kEnd (c : ckS) : ckS := (kn c - 1, kh c + kl c (kn c - 1), c.2.2)
def pTb : List Nat := [0, 0, 1, 2, 2, 2, 2, 2, 2, 2, 2, 2, 2, 2, 2, 2, 2, 3, 1, 1, 2, 1, 2, 0, 0, 1, 0, 0, 0, 1, 0, 0, 1, 0, 0, 0]
def puTb : List Nat := [1, 1, 0, 1, 1, 1, 1, 1, 1, 1, 1, 1, 1, 1, 1, 1, 1, 1, 0, 1, 0, 1, 0, 0, 0, 0, 0, 0, 0, 0, 0, 0, 0, 1, 1, 1]
def pp (v : zV) (o w : Nat) (a : Int32) : Nat := if w = 31 then sg v (16 * o + a.toNatClampNeg) / 2 else if w = 32 then 1 + a.toNatClampNeg / 2 else pTb.getD w 0
def pu (v : zV) (o w : Nat) (a : Int32) : Nat := if w = 31 then sg v (16 * o + a.toNatClampNeg) % 2 else if w = 32 then a.toNatClampNeg % 2 else puTb.getD w 0
/-- the word that opened a block (0: the function) -/
def bw (v : zV) (f : Nat) (c : ckS) (b : Nat) : Nat := if b = 0 then 0 else cn v 1209 (60 * f + ko c b)
def ktk (v : zV) (f : Nat) (c : ckS) (a : Nat) : Nat := if bw v f c (kn c - 1 - a) = 24 then 0 else kl c (kn c - 1 - a)
/-- a word behind its values -/
def kS2 (v : zV) (f k w : Nat) (a : Int32) (c : ckS) : Option ckS :=
  if 23 ≤ w ∧ w ≤ 25 then some (kOp c k a.toNatClampNeg)
  else if w = 26 then (if bw v f c (kn c - 1) = 25 ∧ ke c (kn c - 1) = none then (kC c).map (fun c1 => kElse c1 k) else none)
  else if w = 27 then (if kn c = 1 ∨ (bw v f c (kn c - 1) = 25 ∧ ke c (kn c - 1) = none ∧ 0 < kl c (kn c - 1)) then none else (kC c).map kEnd)
  else if w = 28 ∨ w = 29 then (if kn c ≤ a.toNatClampNeg then none else (kP c (ktk v f c a.toNatClampNeg)).map (fun c1 => if w = 28 then kDie c1 else setH c1 (kh c1 + ktk v f c a.toNatClampNeg)))
  else if w = 30 then (kP c (cn v 1206 f)).map kDie
  else some c
def kSt (v : zV) (f k : Nat) (c : ckS) : Option ckS := (kP c (pp v (f / 8) (cn v 1209 (60 * f + k)) (v.1 1210 (60 * f + k)))).bind (fun c1 => kS2 v f k (cn v 1209 (60 * f + k)) (v.1 1210 (60 * f + k)) (setH c1 (kh c1 + pu v (f / 8) (cn v 1209 (60 * f + k)) (v.1 1210 (60 * f + k)))))
def kBeg (v : zV) (f : Nat) : ckS := (1, 0, fun _ => 0, fun _ => cn v 1206 f, fun _ => 0, fun _ => false, fun _ => none)
/-- the code up to word k -/
def kRun (v : zV) (f : Nat) : Nat → Option ckS
  | 0 => some (kBeg v f)
  | k + 1 => (kRun v f k).bind (kSt v f k)
/-- the first wrong word, or the end -/
def wpl (v : zV) (f : Nat) : Option Nat := match fnd (fun k => (kRun v f (k + 1)).isNone) (cn v 1208 f) with
  | some k => some k
  | none => match kRun v f (cn v 1208 f) with
    | none => some (cn v 1208 f)
    | some c => if kn c = 1 ∧ (kC c).isSome then none else some (cn v 1208 f)
theorem db0 {dd : Bool} {x : Int32} (h : x = if dd then 1 else 0) (h0 : x = 0) : dd = false := by
  cases dd with
  | false => rfl
  | true => rw [h0] at h; exact absurd h (by decide)
theorem db1 {dd : Bool} {x : Int32} (h : x = if dd then 1 else 0) (h0 : ¬ x = 0) : dd = true := by
  cases dd with
  | true => rfl
  | false => exact absurd h h0
theorem clo1 {h b w : Nat} {dd : Bool} (hn : ¬ (w ≤ h - b ∨ dd = true)) : ¬ (h - b = w ∨ (dd = true ∧ h - b < w)) := fun h9 => by
  rcases h9 with q | q
  · exact hn (Or.inl (by omega))
  · exact hn (Or.inr q.1)
theorem clo2 {h b w : Nat} {dd : Bool} (hbh : b ≤ h) (hy : w ≤ h - b ∨ dd = true) : (if w ≤ h - b then h - w else b) = b ↔ (h - b = w ∨ (dd = true ∧ h - b < w)) := by
  by_cases h8 : w ≤ h - b
  · rw [if_pos h8]
    exact ⟨fun q => Or.inl (by omega), fun q => by rcases q with q | q <;> omega⟩
  · rw [if_neg h8]
    exact ⟨fun _ => Or.inr ⟨hy.elim (fun q => absurd q h8) id, by omega⟩, fun _ => rfl⟩
theorem if01 {P : Prop} {d : Decidable P} (h : (if P then (1 : Int32) else 0) = 0) : ¬ P := fun hp => by
  rw [if_pos hp] at h
  exact absurd h (by decide)
theorem if10 {P : Prop} {d : Decidable P} (h : ¬ (if P then (1 : Int32) else 0) = 0) : P := by
  by_cases hp : P
  · exact hp
  · rw [if_neg hp] at h
    exact absurd rfl h
theorem if1n {P : Prop} {d : Decidable P} : narrow .boolean (.int (if P then (1 : Int32) else 0)) = .int (if P then (1 : Int32) else 0) := by
  by_cases hp : P
  · rw [if_pos hp]; rfl
  · rw [if_neg hp]; rfl
set_option maxRecDepth 100000 in
set_option maxHeartbeats 4000000 in
theorem mm_pops {l : Launch} {N0 t0 : Nat} {D : va_G} {cy : Nat → ClassId} {S : zS} {S0 : zS} {g : Nat} {qa : Nat → Nat} {v : zV} (hS : zmR S0 g qa v S) {n h b : Nat} {dd : Bool} (hn : v.1 1232 0 = nI n) (h1 : 1 ≤ n) (hn62 : n ≤ 62) (hh : v.1 1238 0 = nI h) (hb : v.1 1235 (n - 1) = nI b) (hbh : b ≤ h) (hh31 : h < 2 ^ 30) (hd : v.1 1236 (n - 1) = if dd then 1 else 0) {w : Nat} (hw : w < 2 ^ 30) : zMi l yX12_pops (zws yX12_pops cX12_pops 4 (some .boolean)) { frames := 0, cells := 0, slots := 0, locals := 0 } N0 t0 D cy S [.ref g, .int (nI w)] (fun r S' => r = (if w ≤ h - b ∨ dd = true then 1 else 0) ∧ zmR S0 g qa (u1 v 1238 0 (nI (if w ≤ h - b then h - w else b))) S') 0 0 := by
  refine zMi.of (cc := cX12_pops) (maxL := 4) (ret := (some .boolean)) (by decide) rfl (Nat.le_of_ble_eq_true rfl) ?_
  intro p e s m args below meth c F G hr hlk hnm
  refine r_aload_n F dX12_pops_0 rfl ?_
  refine gi_blocks F G hS dX12_pops_1 ?_
  refine r_iconst (v := 1) F dX12_pops_4 (by decide) ?_
  refine r_isub F dX12_pops_5 ?_
  rw [hn, show nI n - 1 = nI (n - 1) by rw [nl1]; exact nI_sub h1]
  refine r_istore_n F dX12_pops_6 (by decide) ?_
  refine r_aload_n F dX12_pops_7 rfl ?_
  refine gi_height F G hS dX12_pops_8 ?_
  refine r_aload_n F dX12_pops_11 rfl ?_
  refine gq_blockBelow F G hS dX12_pops_12 ?_
  refine r_iload_n F dX12_pops_15 rfl ?_
  refine al_blockBelow F G hS (n - 1) rfl (by omega) dX12_pops_16 ?_
  refine r_isub F dX12_pops_17 ?_
  rw [hh, hb, nI_sub hbh]
  refine r_istore_n F dX12_pops_18 (by decide) ?_
  refine r_aload_n F dX12_pops_19 rfl ?_
  refine r_dup F dX12_pops_20 rfl ?_
  refine gi_height F G hS dX12_pops_21 ?_
  refine r_iload_n F dX12_pops_24 rfl ?_
  refine r_iload_n F dX12_pops_25 rfl ?_
  refine r_icmp_ge (tgt := 33) F dX12_pops_26 (by decide) (fun c26 => ?_) (fun c26 => ?_)
  · refine r_iload_n F dX12_pops_33 rfl ?_
    rw [hh]
    refine r_isub F dX12_pops_34 ?_
    refine pi_height F G hS dX12_pops_35 (fun S hS => ?_)
    refine r_iload_n F dX12_pops_38 rfl ?_
    refine r_iload_n F dX12_pops_39 rfl ?_
    refine r_icmp_le (tgt := 52) F dX12_pops_40 (by decide) (fun c40 => ?_) (fun c40 => ?_)
    · refine r_iconst (v := 1) F dX12_pops_52 (by decide) ?_
      refine r_goto (tgt := 57) F dX12_pops_53 (by decide) ?_
      have c9 := c26
      rw [nI_leI (by omega) (by omega)] at c9
      have c8 := c40
      rw [nI_leI (by omega) (by omega)] at c8
      have e1 : nI h - nI (h - b) = nI (if w ≤ h - b then h - w else b) := by
        rw [nI_sub (by omega)]
        by_cases h9 : w ≤ h - b
        · rw [if_pos h9] <;> (congr 1; omega)
        · rw [if_neg h9] <;> (congr 1; omega)
      rw [e1] at hS
      exact e_zret F hr rfl hlk ⟨(if_pos (Or.inl c8)).symm, hS⟩ (by decide) (by decide) dX12_pops_57
    · refine r_aload_n F dX12_pops_43 rfl ?_
      refine gq_blockDead F G hS dX12_pops_44 ?_
      refine r_iload_n F dX12_pops_47 rfl ?_
      refine al_blockDead F G hS (n - 1) rfl (by omega) dX12_pops_48 ?_
      refine r_if_eq (tgt := 56) F dX12_pops_49 (by decide) (fun c49 => ?_) (fun c49 => ?_)
      · refine r_iconst (v := 0) F dX12_pops_56 (by decide) ?_
        have c9 := c26
        rw [nI_leI (by omega) (by omega)] at c9
        have c8 := c40
        rw [nI_leI (by omega) (by omega)] at c8
        have e1 : nI h - nI (h - b) = nI (if w ≤ h - b then h - w else b) := by
          rw [nI_sub (by omega)]
          by_cases h9 : w ≤ h - b
          · rw [if_pos h9] <;> (congr 1; omega)
          · rw [if_neg h9] <;> (congr 1; omega)
        rw [e1] at hS
        exact e_zret F hr rfl hlk ⟨(if_neg (fun h9 => h9.elim (fun q => c8 q) (fun q => by rw [db0 hd c49] at q; cases q))).symm, hS⟩ (by decide) (by decide) dX12_pops_57
      · refine r_iconst (v := 1) F dX12_pops_52 (by decide) ?_
        refine r_goto (tgt := 57) F dX12_pops_53 (by decide) ?_
        have c9 := c26
        rw [nI_leI (by omega) (by omega)] at c9
        have c8 := c40
        rw [nI_leI (by omega) (by omega)] at c8
        have e1 : nI h - nI (h - b) = nI (if w ≤ h - b then h - w else b) := by
          rw [nI_sub (by omega)]
          by_cases h9 : w ≤ h - b
          · rw [if_pos h9] <;> (congr 1; omega)
          · rw [if_neg h9] <;> (congr 1; omega)
        rw [e1] at hS
        exact e_zret F hr rfl hlk ⟨(if_pos (Or.inr (db1 hd c49))).symm, hS⟩ (by decide) (by decide) dX12_pops_57
  · refine r_iload_n F dX12_pops_29 rfl ?_
    refine r_goto (tgt := 34) F dX12_pops_30 (by decide) ?_
    rw [hh]
    refine r_isub F dX12_pops_34 ?_
    refine pi_height F G hS dX12_pops_35 (fun S hS => ?_)
    refine r_iload_n F dX12_pops_38 rfl ?_
    refine r_iload_n F dX12_pops_39 rfl ?_
    refine r_icmp_le (tgt := 52) F dX12_pops_40 (by decide) (fun c40 => ?_) (fun c40 => ?_)
    · refine r_iconst (v := 1) F dX12_pops_52 (by decide) ?_
      refine r_goto (tgt := 57) F dX12_pops_53 (by decide) ?_
      have c9 := c26
      rw [nI_leI (by omega) (by omega)] at c9
      have c8 := c40
      rw [nI_leI (by omega) (by omega)] at c8
      have e1 : nI h - nI w = nI (if w ≤ h - b then h - w else b) := by
        rw [nI_sub (by omega)]
        by_cases h9 : w ≤ h - b
        · rw [if_pos h9] <;> (congr 1; omega)
        · rw [if_neg h9] <;> (congr 1; omega)
      rw [e1] at hS
      exact e_zret F hr rfl hlk ⟨(if_pos (Or.inl c8)).symm, hS⟩ (by decide) (by decide) dX12_pops_57
    · refine r_aload_n F dX12_pops_43 rfl ?_
      refine gq_blockDead F G hS dX12_pops_44 ?_
      refine r_iload_n F dX12_pops_47 rfl ?_
      refine al_blockDead F G hS (n - 1) rfl (by omega) dX12_pops_48 ?_
      refine r_if_eq (tgt := 56) F dX12_pops_49 (by decide) (fun c49 => ?_) (fun c49 => ?_)
      · refine r_iconst (v := 0) F dX12_pops_56 (by decide) ?_
        have c9 := c26
        rw [nI_leI (by omega) (by omega)] at c9
        have c8 := c40
        rw [nI_leI (by omega) (by omega)] at c8
        have e1 : nI h - nI w = nI (if w ≤ h - b then h - w else b) := by
          rw [nI_sub (by omega)]
          by_cases h9 : w ≤ h - b
          · rw [if_pos h9] <;> (congr 1; omega)
          · rw [if_neg h9] <;> (congr 1; omega)
        rw [e1] at hS
        exact e_zret F hr rfl hlk ⟨(if_neg (fun h9 => h9.elim (fun q => c8 q) (fun q => by rw [db0 hd c49] at q; cases q))).symm, hS⟩ (by decide) (by decide) dX12_pops_57
      · refine r_iconst (v := 1) F dX12_pops_52 (by decide) ?_
        refine r_goto (tgt := 57) F dX12_pops_53 (by decide) ?_
        have c9 := c26
        rw [nI_leI (by omega) (by omega)] at c9
        have c8 := c40
        rw [nI_leI (by omega) (by omega)] at c8
        have e1 : nI h - nI w = nI (if w ≤ h - b then h - w else b) := by
          rw [nI_sub (by omega)]
          by_cases h9 : w ≤ h - b
          · rw [if_pos h9] <;> (congr 1; omega)
          · rw [if_neg h9] <;> (congr 1; omega)
        rw [e1] at hS
        exact e_zret F hr rfl hlk ⟨(if_pos (Or.inr (db1 hd c49))).symm, hS⟩ (by decide) (by decide) dX12_pops_57
set_option maxRecDepth 100000 in
set_option maxHeartbeats 4000000 in
theorem mm_closes {l : Launch} {N0 t0 : Nat} {D : va_G} {cy : Nat → ClassId} {S : zS} {S0 : zS} {g : Nat} {qa : Nat → Nat} {v : zV} (hS : zmR S0 g qa v S) {n h b : Nat} {dd : Bool} (hn : v.1 1232 0 = nI n) (h1 : 1 ≤ n) (hn62 : n ≤ 62) (hh : v.1 1238 0 = nI h) (hb : v.1 1235 (n - 1) = nI b) (hbh : b ≤ h) (hh31 : h < 2 ^ 30) (hd : v.1 1236 (n - 1) = if dd then 1 else 0) {w : Nat} (hw : w < 2 ^ 30) (hl : v.1 1234 (n - 1) = nI w) : zMi l yX12_closes (zws yX12_closes cX12_closes 3 (some .boolean)) { frames := 1, cells := 0, slots := 0, locals := 24 } N0 t0 D cy S [.ref g] (fun r S' => r = (if (h - b = w ∨ (dd = true ∧ h - b < w)) then 1 else 0) ∧ ∃ x : Int32, zmR S0 g qa (u1 v 1238 0 x) S' ∧ ((h - b = w ∨ (dd = true ∧ h - b < w)) → x = nI b)) 0 0 := by
  refine zMi.of (cc := cX12_closes) (maxL := 3) (ret := (some .boolean)) (by decide) rfl (Nat.le_of_ble_eq_true rfl) ?_
  intro p e s m args below meth c F G hr hlk hnm
  refine r_aload_n F dX12_closes_0 rfl ?_
  refine gi_blocks F G hS dX12_closes_1 ?_
  refine r_iconst (v := 1) F dX12_closes_4 (by decide) ?_
  refine r_isub F dX12_closes_5 ?_
  rw [hn, show nI n - 1 = nI (n - 1) by rw [nl1]; exact nI_sub h1]
  refine r_istore_n F dX12_closes_6 (by decide) ?_
  refine r_aload_n F dX12_closes_7 rfl ?_
  refine r_aload_n F dX12_closes_8 rfl ?_
  refine gq_blockLeaves F G hS dX12_closes_9 ?_
  refine r_iload_n F dX12_closes_12 rfl ?_
  refine al_blockLeaves F G hS (n - 1) rfl (by omega) dX12_closes_13 ?_
  rw [hl]
  refine c_Vi (ci := 12) F G (mm_pops hS hn h1 hn62 hh hb hbh hh31 hd hw) (cwV 1 F.2.2.2.2 (zgV km_X12_165 ki_X12_pops ke_X12_X12_pops kn_X12 ko_X12_pops) rfl rfl rfl ⟨rfl, hd_yX12_pops⟩ ⟨Nat.le_of_ble_eq_true rfl, Nat.le_of_ble_eq_true rfl⟩) rfl (by decide) hS.al rfl rfl (Nat.le_of_ble_eq_true rfl) dX12_closes_14 ⟨Nat.le_of_ble_eq_true rfl, Nat.le_of_ble_eq_true rfl⟩ (fun r14 S14 h14 => ?_)
  obtain ⟨a14, hS⟩ := h14
  subst a14
  refine r_istore_n F dX12_closes_17 (by decide) ?_
  refine r_iload_n F dX12_closes_18 rfl ?_
  refine r_if_eq (tgt := 39) F dX12_closes_19 (by decide) (fun c19 => ?_) (fun c19 => ?_)
  · refine r_iconst (v := 0) F dX12_closes_39 (by decide) ?_
    exact e_zret F hr rfl hlk ⟨(if_neg (clo1 (if01 c19))).symm, _, hS, fun h9 => absurd h9 (clo1 (if01 c19))⟩ (by decide) (by decide) dX12_closes_40
  · refine r_aload_n F dX12_closes_22 rfl ?_
    refine gi_height F G hS dX12_closes_23 ?_
    refine r_aload_n F dX12_closes_26 rfl ?_
    refine gq_blockBelow F G hS dX12_closes_27 ?_
    refine r_iload_n F dX12_closes_30 rfl ?_
    refine al_blockBelow F G hS (n - 1) rfl (by omega) dX12_closes_31 ?_
    refine r_icmp_ne (tgt := 39) F dX12_closes_32 (by decide) (fun c32 => ?_) (fun c32 => ?_)
    · refine r_iconst (v := 0) F dX12_closes_39 (by decide) ?_
      exact e_zret F hr rfl hlk ⟨(if_neg (fun h9 => c32 (by show nI _ = v.1 1235 (n - 1); rw [hb, (clo2 hbh (if10 c19)).mpr h9]))).symm, _, hS, fun h9 => by rw [(clo2 hbh (if10 c19)).mpr h9]⟩ (by decide) (by decide) dX12_closes_40
    · refine r_iconst (v := 1) F dX12_closes_35 (by decide) ?_
      refine r_goto (tgt := 40) F dX12_closes_36 (by decide) ?_
      exact e_zret F hr rfl hlk ⟨(if_pos ((clo2 hbh (if10 c19)).mp (by have c9 : nI (if w ≤ h - b then h - w else b) = nI b := (show nI (if w ≤ h - b then h - w else b) = v.1 1235 (n - 1) from c32).trans hb; exact (nI_eq (by split <;> omega) (by omega)).mp c9))).symm, _, hS, fun h9 => by rw [(clo2 hbh (if10 c19)).mpr h9]⟩ (by decide) (by decide) dX12_closes_40
set_option maxRecDepth 100000 in
set_option maxHeartbeats 4000000 in
theorem mm_dies {l : Launch} {N0 t0 : Nat} {D : va_G} {cy : Nat → ClassId} {S : zS} {S0 : zS} {g : Nat} {qa : Nat → Nat} {v : zV} (hS : zmR S0 g qa v S) {n b : Nat} (hn : v.1 1232 0 = nI n) (h1 : 1 ≤ n) (hn62 : n ≤ 62) (hb : v.1 1235 (n - 1) = nI b) : zMv l yX12_dies (zws yX12_dies cX12_dies 1 none) { frames := 0, cells := 0, slots := 0, locals := 0 } N0 t0 D cy S [.ref g] (fun S' => zmR S0 g qa (u1 (u1 v 1238 0 (nI b)) 1236 (n - 1) 1) S') 0 0 := by
  refine zMv.of (cc := cX12_dies) (maxL := 1) (ret := none) (by decide) rfl (Nat.le_of_ble_eq_true rfl) ?_
  intro p e s m args below meth c F G hr hlk hnm
  refine r_aload_n F dX12_dies_0 rfl ?_
  refine r_aload_n F dX12_dies_1 rfl ?_
  refine gq_blockBelow F G hS dX12_dies_2 ?_
  refine r_aload_n F dX12_dies_5 rfl ?_
  refine gi_blocks F G hS dX12_dies_6 ?_
  refine r_iconst (v := 1) F dX12_dies_9 (by decide) ?_
  refine r_isub F dX12_dies_10 ?_
  rw [hn, show nI n - 1 = nI (n - 1) by rw [nl1]; exact nI_sub h1]
  refine al_blockBelow F G hS (n - 1) rfl (by omega) dX12_dies_11 ?_
  rw [hb]
  refine pi_height F G hS dX12_dies_12 (fun S hS => ?_)
  refine r_aload_n F dX12_dies_15 rfl ?_
  refine gq_blockDead F G hS dX12_dies_16 ?_
  refine r_aload_n F dX12_dies_19 rfl ?_
  refine gi_blocks F G hS dX12_dies_20 ?_
  refine r_iconst (v := 1) F dX12_dies_23 (by decide) ?_
  refine r_isub F dX12_dies_24 ?_
  rw [show (u1 v 1238 0 (nI b)).1 1232 0 = nI n from hn, show nI n - 1 = nI (n - 1) by rw [nl1]; exact nI_sub h1]
  refine r_iconst (v := 1) F dX12_dies_25 (by decide) ?_
  refine as_blockDead F G hS (n - 1) rfl (by omega) dX12_dies_26 (fun S hS => ?_)
  exact e_vret F hr hlk hS (by decide) (by decide) dX12_dies_27
set_option maxRecDepth 100000 in
set_option maxHeartbeats 4000000 in
theorem mm_open {l : Launch} {N0 t0 : Nat} {D : va_G} {cy : Nat → ClassId} {S : zS} {S0 : zS} {g : Nat} {qa : Nat → Nat} {v : zV} (hS : zmR S0 g qa v S) {n : Nat} {x y : Int32} (hn : v.1 1232 0 = nI n) (hn62 : n < 62) : zMv l yX12_open (zws yX12_open cX12_open 3 none) { frames := 0, cells := 0, slots := 0, locals := 0 } N0 t0 D cy S [.ref g, .int x, .int y] (fun S' => zmR S0 g qa (u1 (u1 (u1 (u1 (u1 (u1 v 1233 n x) 1234 n y) 1235 n (v.1 1238 0)) 1236 n 0) 1237 n 0) 1232 0 (nI (n + 1))) S') 0 0 := by
  refine zMv.of (cc := cX12_open) (maxL := 3) (ret := none) (by decide) rfl (Nat.le_of_ble_eq_true rfl) ?_
  intro p e s m args below meth c F G hr hlk hnm
  refine r_aload_n F dX12_open_0 rfl ?_
  refine gq_blockWord F G hS dX12_open_1 ?_
  refine r_aload_n F dX12_open_4 rfl ?_
  refine gi_blocks F G hS dX12_open_5 ?_
  refine r_iload_n F dX12_open_8 rfl ?_
  refine as_blockWord F G hS (n) hn hn62 dX12_open_9 (fun S hS => ?_)
  refine r_aload_n F dX12_open_10 rfl ?_
  refine gq_blockLeaves F G hS dX12_open_11 ?_
  refine r_aload_n F dX12_open_14 rfl ?_
  refine gi_blocks F G hS dX12_open_15 ?_
  refine r_iload_n F dX12_open_18 rfl ?_
  refine as_blockLeaves F G hS (n) hn hn62 dX12_open_19 (fun S hS => ?_)
  refine r_aload_n F dX12_open_20 rfl ?_
  refine gq_blockBelow F G hS dX12_open_21 ?_
  refine r_aload_n F dX12_open_24 rfl ?_
  refine gi_blocks F G hS dX12_open_25 ?_
  refine r_aload_n F dX12_open_28 rfl ?_
  refine gi_height F G hS dX12_open_29 ?_
  refine as_blockBelow F G hS (n) hn hn62 dX12_open_32 (fun S hS => ?_)
  refine r_aload_n F dX12_open_33 rfl ?_
  refine gq_blockDead F G hS dX12_open_34 ?_
  refine r_aload_n F dX12_open_37 rfl ?_
  refine gi_blocks F G hS dX12_open_38 ?_
  refine r_iconst (v := 0) F dX12_open_41 (by decide) ?_
  refine as_blockDead F G hS (n) hn hn62 dX12_open_42 (fun S hS => ?_)
  refine r_aload_n F dX12_open_43 rfl ?_
  refine gq_blockElse F G hS dX12_open_44 ?_
  refine r_aload_n F dX12_open_47 rfl ?_
  refine gi_blocks F G hS dX12_open_48 ?_
  refine r_iconst (v := 0) F dX12_open_51 (by decide) ?_
  refine as_blockElse F G hS (n) hn hn62 dX12_open_52 (fun S hS => ?_)
  refine r_aload_n F dX12_open_53 rfl ?_
  refine r_dup F dX12_open_54 rfl ?_
  refine gi_blocks F G hS dX12_open_55 ?_
  refine r_iconst (v := 1) F dX12_open_58 (by decide) ?_
  refine r_iadd F dX12_open_59 ?_
  refine pi_blocks F G hS dX12_open_60 (fun S hS => ?_)
  have hS2 : zmR S0 g qa (u1 (u1 (u1 (u1 (u1 (u1 v 1233 n x) 1234 n y) 1235 n (v.1 1238 0)) 1236 n 0) 1237 n 0) 1232 0 (v.1 1232 0 + 1)) S := hS
  rw [hn, show nI n + 1 = nI (n + 1) from nI_add n 1] at hS2
  exact e_vret F hr hlk hS2 (by decide) (by decide) dX12_open_63
set_option maxRecDepth 100000 in
set_option maxHeartbeats 4000000 in
theorem mm_popped {l : Launch} {N0 t0 : Nat} {D : va_G} {cy : Nat → ClassId} {S : zS} {S0 : zS} {g : Nat} {qa : Nat → Nat} {v : zV} (hS : zmR S0 g qa v S) {o w : Nat} {a : Int32} (hv : vRg v) (hA : vA v) (hD : vD v) (ho : o < 6) (hw : w < 36) (h31 : w = 31 → ∃ j, a = nI j ∧ j < cn v 1204 o) (h32 : w = 32 → ∃ j, a = nI j ∧ j ≤ 9) : zMi l yX12_popped (zws yX12_popped cX12_popped 4 (some .int)) { frames := 2, cells := 0, slots := 0, locals := 48 } N0 t0 D cy S [.ref g, .int (nI o), .int (nI w), .int a] (fun r S' => r = nI (pp v o w a) ∧ S' = S) 0 0 := by
  refine zMi.of (cc := cX12_popped) (maxL := 4) (ret := (some .int)) (by decide) rfl (Nat.le_of_ble_eq_true rfl) ?_
  intro p e s m args below meth c F G hr hlk hnm
  rcases (show ((0 ≤ w ∧ w ≤ 1)) ∨ (w = 2) ∨ ((3 ≤ w ∧ w ≤ 16)) ∨ (w = 17) ∨ (w = 18) ∨ (w = 19) ∨ (w = 20) ∨ (w = 21) ∨ (w = 22) ∨ ((23 ≤ w ∧ w ≤ 24) ∨ (26 ≤ w ∧ w ≤ 28) ∨ w = 30 ∨ (33 ≤ w ∧ w ≤ 35)) ∨ (w = 25) ∨ (w = 29) ∨ (w = 31) ∨ (w = 32) by omega) with hg | hg | hg | hg | hg | hg | hg | hg | hg | hg | hg | hg | hg | hg
  · refine r_iload_n F dX12_popped_0 rfl ?_
    refine r_iconst (v := 3) F dX12_popped_1 (by decide) ?_
    refine r_icmp_lt (tgt := 11) F dX12_popped_2 (by decide) (fun _ => ?_) (fun h9 => absurd (by rw [show (3 : Int32) = nI 3 from rfl, nI_ltI (by omega) (by omega)]; omega) h9)
    refine r_iload_n F dX12_popped_11 rfl ?_
    refine r_bipush (v := 20) F dX12_popped_12 (by decide) ?_
    refine r_icmp_eq (tgt := 23) F dX12_popped_14 (by decide) (fun h9 => absurd h9 (by rw [show (20 : Int32) = nI 20 from rfl, nI_eq (by omega) (by omega)]; omega)) (fun _ => ?_)
    refine r_iload_n F dX12_popped_17 rfl ?_
    refine r_bipush (v := 22) F dX12_popped_18 (by decide) ?_
    refine r_icmp_ne (tgt := 25) F dX12_popped_20 (by decide) (fun _ => ?_) (fun h9 => absurd h9 (by rw [show (22 : Int32) = nI 22 from rfl, nI_eq (by omega) (by omega)]; omega))
    refine r_iload_n F dX12_popped_25 rfl ?_
    refine r_iconst (v := 2) F dX12_popped_26 (by decide) ?_
    refine r_icmp_eq (tgt := 60) F dX12_popped_27 (by decide) (fun h9 => absurd h9 (by rw [show (2 : Int32) = nI 2 from rfl, nI_eq (by omega) (by omega)]; omega)) (fun _ => ?_)
    refine r_iload_n F dX12_popped_30 rfl ?_
    refine r_bipush (v := 18) F dX12_popped_31 (by decide) ?_
    refine r_icmp_eq (tgt := 60) F dX12_popped_33 (by decide) (fun h9 => absurd h9 (by rw [show (18 : Int32) = nI 18 from rfl, nI_eq (by omega) (by omega)]; omega)) (fun _ => ?_)
    refine r_iload_n F dX12_popped_36 rfl ?_
    refine r_bipush (v := 19) F dX12_popped_37 (by decide) ?_
    refine r_icmp_eq (tgt := 60) F dX12_popped_39 (by decide) (fun h9 => absurd h9 (by rw [show (19 : Int32) = nI 19 from rfl, nI_eq (by omega) (by omega)]; omega)) (fun _ => ?_)
    refine r_iload_n F dX12_popped_42 rfl ?_
    refine r_bipush (v := 21) F dX12_popped_43 (by decide) ?_
    refine r_icmp_eq (tgt := 60) F dX12_popped_45 (by decide) (fun h9 => absurd h9 (by rw [show (21 : Int32) = nI 21 from rfl, nI_eq (by omega) (by omega)]; omega)) (fun _ => ?_)
    refine r_iload_n F dX12_popped_48 rfl ?_
    refine r_bipush (v := 25) F dX12_popped_49 (by decide) ?_
    refine r_icmp_eq (tgt := 60) F dX12_popped_51 (by decide) (fun h9 => absurd h9 (by rw [show (25 : Int32) = nI 25 from rfl, nI_eq (by omega) (by omega)]; omega)) (fun _ => ?_)
    refine r_iload_n F dX12_popped_54 rfl ?_
    refine r_bipush (v := 29) F dX12_popped_55 (by decide) ?_
    refine r_icmp_ne (tgt := 62) F dX12_popped_57 (by decide) (fun _ => ?_) (fun h9 => absurd h9 (by rw [show (29 : Int32) = nI 29 from rfl, nI_eq (by omega) (by omega)]; omega))
    refine r_iload_n F dX12_popped_62 rfl ?_
    refine r_bipush (v := 17) F dX12_popped_63 (by decide) ?_
    refine r_icmp_ne (tgt := 70) F dX12_popped_65 (by decide) (fun _ => ?_) (fun h9 => absurd h9 (by rw [show (17 : Int32) = nI 17 from rfl, nI_eq (by omega) (by omega)]; omega))
    refine r_iload_n F dX12_popped_70 rfl ?_
    refine r_bipush (v := 31) F dX12_popped_71 (by decide) ?_
    refine r_icmp_ne (tgt := 89) F dX12_popped_73 (by decide) (fun _ => ?_) (fun h9 => absurd h9 (by rw [show (31 : Int32) = nI 31 from rfl, nI_eq (by omega) (by omega)]; omega))
    refine r_iload_n F dX12_popped_89 rfl ?_
    refine r_bipush (v := 32) F dX12_popped_90 (by decide) ?_
    refine r_icmp_ne (tgt := 103) F dX12_popped_92 (by decide) (fun _ => ?_) (fun h9 => absurd h9 (by rw [show (32 : Int32) = nI 32 from rfl, nI_eq (by omega) (by omega)]; omega))
    refine r_iconst (v := 0) F dX12_popped_103 (by decide) ?_
    exact e_iret F hr hlk ⟨by unfold pp; rw [if_neg (show ¬ w = 31 by omega), if_neg (show ¬ w = 32 by omega)]; exact (show ∀ w : Nat, w < 36 → ((0 ≤ w ∧ w ≤ 1)) → _ = nI (pTb.getD w 0) from by decide) w hw hg, rfl⟩ (by decide) (by decide) dX12_popped_104
  · refine r_iload_n F dX12_popped_0 rfl ?_
    refine r_iconst (v := 3) F dX12_popped_1 (by decide) ?_
    refine r_icmp_lt (tgt := 11) F dX12_popped_2 (by decide) (fun _ => ?_) (fun h9 => absurd (by rw [show (3 : Int32) = nI 3 from rfl, nI_ltI (by omega) (by omega)]; omega) h9)
    refine r_iload_n F dX12_popped_11 rfl ?_
    refine r_bipush (v := 20) F dX12_popped_12 (by decide) ?_
    refine r_icmp_eq (tgt := 23) F dX12_popped_14 (by decide) (fun h9 => absurd h9 (by rw [show (20 : Int32) = nI 20 from rfl, nI_eq (by omega) (by omega)]; omega)) (fun _ => ?_)
    refine r_iload_n F dX12_popped_17 rfl ?_
    refine r_bipush (v := 22) F dX12_popped_18 (by decide) ?_
    refine r_icmp_ne (tgt := 25) F dX12_popped_20 (by decide) (fun _ => ?_) (fun h9 => absurd h9 (by rw [show (22 : Int32) = nI 22 from rfl, nI_eq (by omega) (by omega)]; omega))
    refine r_iload_n F dX12_popped_25 rfl ?_
    refine r_iconst (v := 2) F dX12_popped_26 (by decide) ?_
    refine r_icmp_eq (tgt := 60) F dX12_popped_27 (by decide) (fun _ => ?_) (fun h9 => absurd (by rw [show (2 : Int32) = nI 2 from rfl, nI_eq (by omega) (by omega)]; omega) h9)
    refine r_iconst (v := 1) F dX12_popped_60 (by decide) ?_
    exact e_iret F hr hlk ⟨by unfold pp; rw [if_neg (show ¬ w = 31 by omega), if_neg (show ¬ w = 32 by omega)]; exact (show ∀ w : Nat, w < 36 → (w = 2) → _ = nI (pTb.getD w 0) from by decide) w hw hg, rfl⟩ (by decide) (by decide) dX12_popped_61
  · refine r_iload_n F dX12_popped_0 rfl ?_
    refine r_iconst (v := 3) F dX12_popped_1 (by decide) ?_
    refine r_icmp_lt (tgt := 11) F dX12_popped_2 (by decide) (fun h9 => absurd h9 (by rw [show (3 : Int32) = nI 3 from rfl, nI_ltI (by omega) (by omega)]; omega)) (fun _ => ?_)
    refine r_iload_n F dX12_popped_5 rfl ?_
    refine r_bipush (v := 16) F dX12_popped_6 (by decide) ?_
    refine r_icmp_le (tgt := 23) F dX12_popped_8 (by decide) (fun _ => ?_) (fun h9 => absurd (by rw [show (16 : Int32) = nI 16 from rfl, nI_leI (by omega) (by omega)]; omega) h9)
    refine r_iconst (v := 2) F dX12_popped_23 (by decide) ?_
    exact e_iret F hr hlk ⟨by unfold pp; rw [if_neg (show ¬ w = 31 by omega), if_neg (show ¬ w = 32 by omega)]; exact (show ∀ w : Nat, w < 36 → ((3 ≤ w ∧ w ≤ 16)) → _ = nI (pTb.getD w 0) from by decide) w hw hg, rfl⟩ (by decide) (by decide) dX12_popped_24
  · refine r_iload_n F dX12_popped_0 rfl ?_
    refine r_iconst (v := 3) F dX12_popped_1 (by decide) ?_
    refine r_icmp_lt (tgt := 11) F dX12_popped_2 (by decide) (fun h9 => absurd h9 (by rw [show (3 : Int32) = nI 3 from rfl, nI_ltI (by omega) (by omega)]; omega)) (fun _ => ?_)
    refine r_iload_n F dX12_popped_5 rfl ?_
    refine r_bipush (v := 16) F dX12_popped_6 (by decide) ?_
    refine r_icmp_le (tgt := 23) F dX12_popped_8 (by decide) (fun h9 => absurd h9 (by rw [show (16 : Int32) = nI 16 from rfl, nI_leI (by omega) (by omega)]; omega)) (fun _ => ?_)
    refine r_iload_n F dX12_popped_11 rfl ?_
    refine r_bipush (v := 20) F dX12_popped_12 (by decide) ?_
    refine r_icmp_eq (tgt := 23) F dX12_popped_14 (by decide) (fun h9 => absurd h9 (by rw [show (20 : Int32) = nI 20 from rfl, nI_eq (by omega) (by omega)]; omega)) (fun _ => ?_)
    refine r_iload_n F dX12_popped_17 rfl ?_
    refine r_bipush (v := 22) F dX12_popped_18 (by decide) ?_
    refine r_icmp_ne (tgt := 25) F dX12_popped_20 (by decide) (fun _ => ?_) (fun h9 => absurd h9 (by rw [show (22 : Int32) = nI 22 from rfl, nI_eq (by omega) (by omega)]; omega))
    refine r_iload_n F dX12_popped_25 rfl ?_
    refine r_iconst (v := 2) F dX12_popped_26 (by decide) ?_
    refine r_icmp_eq (tgt := 60) F dX12_popped_27 (by decide) (fun h9 => absurd h9 (by rw [show (2 : Int32) = nI 2 from rfl, nI_eq (by omega) (by omega)]; omega)) (fun _ => ?_)
    refine r_iload_n F dX12_popped_30 rfl ?_
    refine r_bipush (v := 18) F dX12_popped_31 (by decide) ?_
    refine r_icmp_eq (tgt := 60) F dX12_popped_33 (by decide) (fun h9 => absurd h9 (by rw [show (18 : Int32) = nI 18 from rfl, nI_eq (by omega) (by omega)]; omega)) (fun _ => ?_)
    refine r_iload_n F dX12_popped_36 rfl ?_
    refine r_bipush (v := 19) F dX12_popped_37 (by decide) ?_
    refine r_icmp_eq (tgt := 60) F dX12_popped_39 (by decide) (fun h9 => absurd h9 (by rw [show (19 : Int32) = nI 19 from rfl, nI_eq (by omega) (by omega)]; omega)) (fun _ => ?_)
    refine r_iload_n F dX12_popped_42 rfl ?_
    refine r_bipush (v := 21) F dX12_popped_43 (by decide) ?_
    refine r_icmp_eq (tgt := 60) F dX12_popped_45 (by decide) (fun h9 => absurd h9 (by rw [show (21 : Int32) = nI 21 from rfl, nI_eq (by omega) (by omega)]; omega)) (fun _ => ?_)
    refine r_iload_n F dX12_popped_48 rfl ?_
    refine r_bipush (v := 25) F dX12_popped_49 (by decide) ?_
    refine r_icmp_eq (tgt := 60) F dX12_popped_51 (by decide) (fun h9 => absurd h9 (by rw [show (25 : Int32) = nI 25 from rfl, nI_eq (by omega) (by omega)]; omega)) (fun _ => ?_)
    refine r_iload_n F dX12_popped_54 rfl ?_
    refine r_bipush (v := 29) F dX12_popped_55 (by decide) ?_
    refine r_icmp_ne (tgt := 62) F dX12_popped_57 (by decide) (fun _ => ?_) (fun h9 => absurd h9 (by rw [show (29 : Int32) = nI 29 from rfl, nI_eq (by omega) (by omega)]; omega))
    refine r_iload_n F dX12_popped_62 rfl ?_
    refine r_bipush (v := 17) F dX12_popped_63 (by decide) ?_
    refine r_icmp_ne (tgt := 70) F dX12_popped_65 (by decide) (fun h9 => absurd (by rw [show (17 : Int32) = nI 17 from rfl, nI_eq (by omega) (by omega)]; omega) h9) (fun _ => ?_)
    refine r_iconst (v := 3) F dX12_popped_68 (by decide) ?_
    exact e_iret F hr hlk ⟨by unfold pp; rw [if_neg (show ¬ w = 31 by omega), if_neg (show ¬ w = 32 by omega)]; exact (show ∀ w : Nat, w < 36 → (w = 17) → _ = nI (pTb.getD w 0) from by decide) w hw hg, rfl⟩ (by decide) (by decide) dX12_popped_69
  · refine r_iload_n F dX12_popped_0 rfl ?_
    refine r_iconst (v := 3) F dX12_popped_1 (by decide) ?_
    refine r_icmp_lt (tgt := 11) F dX12_popped_2 (by decide) (fun h9 => absurd h9 (by rw [show (3 : Int32) = nI 3 from rfl, nI_ltI (by omega) (by omega)]; omega)) (fun _ => ?_)
    refine r_iload_n F dX12_popped_5 rfl ?_
    refine r_bipush (v := 16) F dX12_popped_6 (by decide) ?_
    refine r_icmp_le (tgt := 23) F dX12_popped_8 (by decide) (fun h9 => absurd h9 (by rw [show (16 : Int32) = nI 16 from rfl, nI_leI (by omega) (by omega)]; omega)) (fun _ => ?_)
    refine r_iload_n F dX12_popped_11 rfl ?_
    refine r_bipush (v := 20) F dX12_popped_12 (by decide) ?_
    refine r_icmp_eq (tgt := 23) F dX12_popped_14 (by decide) (fun h9 => absurd h9 (by rw [show (20 : Int32) = nI 20 from rfl, nI_eq (by omega) (by omega)]; omega)) (fun _ => ?_)
    refine r_iload_n F dX12_popped_17 rfl ?_
    refine r_bipush (v := 22) F dX12_popped_18 (by decide) ?_
    refine r_icmp_ne (tgt := 25) F dX12_popped_20 (by decide) (fun _ => ?_) (fun h9 => absurd h9 (by rw [show (22 : Int32) = nI 22 from rfl, nI_eq (by omega) (by omega)]; omega))
    refine r_iload_n F dX12_popped_25 rfl ?_
    refine r_iconst (v := 2) F dX12_popped_26 (by decide) ?_
    refine r_icmp_eq (tgt := 60) F dX12_popped_27 (by decide) (fun h9 => absurd h9 (by rw [show (2 : Int32) = nI 2 from rfl, nI_eq (by omega) (by omega)]; omega)) (fun _ => ?_)
    refine r_iload_n F dX12_popped_30 rfl ?_
    refine r_bipush (v := 18) F dX12_popped_31 (by decide) ?_
    refine r_icmp_eq (tgt := 60) F dX12_popped_33 (by decide) (fun _ => ?_) (fun h9 => absurd (by rw [show (18 : Int32) = nI 18 from rfl, nI_eq (by omega) (by omega)]; omega) h9)
    refine r_iconst (v := 1) F dX12_popped_60 (by decide) ?_
    exact e_iret F hr hlk ⟨by unfold pp; rw [if_neg (show ¬ w = 31 by omega), if_neg (show ¬ w = 32 by omega)]; exact (show ∀ w : Nat, w < 36 → (w = 18) → _ = nI (pTb.getD w 0) from by decide) w hw hg, rfl⟩ (by decide) (by decide) dX12_popped_61
  · refine r_iload_n F dX12_popped_0 rfl ?_
    refine r_iconst (v := 3) F dX12_popped_1 (by decide) ?_
    refine r_icmp_lt (tgt := 11) F dX12_popped_2 (by decide) (fun h9 => absurd h9 (by rw [show (3 : Int32) = nI 3 from rfl, nI_ltI (by omega) (by omega)]; omega)) (fun _ => ?_)
    refine r_iload_n F dX12_popped_5 rfl ?_
    refine r_bipush (v := 16) F dX12_popped_6 (by decide) ?_
    refine r_icmp_le (tgt := 23) F dX12_popped_8 (by decide) (fun h9 => absurd h9 (by rw [show (16 : Int32) = nI 16 from rfl, nI_leI (by omega) (by omega)]; omega)) (fun _ => ?_)
    refine r_iload_n F dX12_popped_11 rfl ?_
    refine r_bipush (v := 20) F dX12_popped_12 (by decide) ?_
    refine r_icmp_eq (tgt := 23) F dX12_popped_14 (by decide) (fun h9 => absurd h9 (by rw [show (20 : Int32) = nI 20 from rfl, nI_eq (by omega) (by omega)]; omega)) (fun _ => ?_)
    refine r_iload_n F dX12_popped_17 rfl ?_
    refine r_bipush (v := 22) F dX12_popped_18 (by decide) ?_
    refine r_icmp_ne (tgt := 25) F dX12_popped_20 (by decide) (fun _ => ?_) (fun h9 => absurd h9 (by rw [show (22 : Int32) = nI 22 from rfl, nI_eq (by omega) (by omega)]; omega))
    refine r_iload_n F dX12_popped_25 rfl ?_
    refine r_iconst (v := 2) F dX12_popped_26 (by decide) ?_
    refine r_icmp_eq (tgt := 60) F dX12_popped_27 (by decide) (fun h9 => absurd h9 (by rw [show (2 : Int32) = nI 2 from rfl, nI_eq (by omega) (by omega)]; omega)) (fun _ => ?_)
    refine r_iload_n F dX12_popped_30 rfl ?_
    refine r_bipush (v := 18) F dX12_popped_31 (by decide) ?_
    refine r_icmp_eq (tgt := 60) F dX12_popped_33 (by decide) (fun h9 => absurd h9 (by rw [show (18 : Int32) = nI 18 from rfl, nI_eq (by omega) (by omega)]; omega)) (fun _ => ?_)
    refine r_iload_n F dX12_popped_36 rfl ?_
    refine r_bipush (v := 19) F dX12_popped_37 (by decide) ?_
    refine r_icmp_eq (tgt := 60) F dX12_popped_39 (by decide) (fun _ => ?_) (fun h9 => absurd (by rw [show (19 : Int32) = nI 19 from rfl, nI_eq (by omega) (by omega)]; omega) h9)
    refine r_iconst (v := 1) F dX12_popped_60 (by decide) ?_
    exact e_iret F hr hlk ⟨by unfold pp; rw [if_neg (show ¬ w = 31 by omega), if_neg (show ¬ w = 32 by omega)]; exact (show ∀ w : Nat, w < 36 → (w = 19) → _ = nI (pTb.getD w 0) from by decide) w hw hg, rfl⟩ (by decide) (by decide) dX12_popped_61
  · refine r_iload_n F dX12_popped_0 rfl ?_
    refine r_iconst (v := 3) F dX12_popped_1 (by decide) ?_
    refine r_icmp_lt (tgt := 11) F dX12_popped_2 (by decide) (fun h9 => absurd h9 (by rw [show (3 : Int32) = nI 3 from rfl, nI_ltI (by omega) (by omega)]; omega)) (fun _ => ?_)
    refine r_iload_n F dX12_popped_5 rfl ?_
    refine r_bipush (v := 16) F dX12_popped_6 (by decide) ?_
    refine r_icmp_le (tgt := 23) F dX12_popped_8 (by decide) (fun h9 => absurd h9 (by rw [show (16 : Int32) = nI 16 from rfl, nI_leI (by omega) (by omega)]; omega)) (fun _ => ?_)
    refine r_iload_n F dX12_popped_11 rfl ?_
    refine r_bipush (v := 20) F dX12_popped_12 (by decide) ?_
    refine r_icmp_eq (tgt := 23) F dX12_popped_14 (by decide) (fun _ => ?_) (fun h9 => absurd (by rw [show (20 : Int32) = nI 20 from rfl, nI_eq (by omega) (by omega)]; omega) h9)
    refine r_iconst (v := 2) F dX12_popped_23 (by decide) ?_
    exact e_iret F hr hlk ⟨by unfold pp; rw [if_neg (show ¬ w = 31 by omega), if_neg (show ¬ w = 32 by omega)]; exact (show ∀ w : Nat, w < 36 → (w = 20) → _ = nI (pTb.getD w 0) from by decide) w hw hg, rfl⟩ (by decide) (by decide) dX12_popped_24
  · refine r_iload_n F dX12_popped_0 rfl ?_
    refine r_iconst (v := 3) F dX12_popped_1 (by decide) ?_
    refine r_icmp_lt (tgt := 11) F dX12_popped_2 (by decide) (fun h9 => absurd h9 (by rw [show (3 : Int32) = nI 3 from rfl, nI_ltI (by omega) (by omega)]; omega)) (fun _ => ?_)
    refine r_iload_n F dX12_popped_5 rfl ?_
    refine r_bipush (v := 16) F dX12_popped_6 (by decide) ?_
    refine r_icmp_le (tgt := 23) F dX12_popped_8 (by decide) (fun h9 => absurd h9 (by rw [show (16 : Int32) = nI 16 from rfl, nI_leI (by omega) (by omega)]; omega)) (fun _ => ?_)
    refine r_iload_n F dX12_popped_11 rfl ?_
    refine r_bipush (v := 20) F dX12_popped_12 (by decide) ?_
    refine r_icmp_eq (tgt := 23) F dX12_popped_14 (by decide) (fun h9 => absurd h9 (by rw [show (20 : Int32) = nI 20 from rfl, nI_eq (by omega) (by omega)]; omega)) (fun _ => ?_)
    refine r_iload_n F dX12_popped_17 rfl ?_
    refine r_bipush (v := 22) F dX12_popped_18 (by decide) ?_
    refine r_icmp_ne (tgt := 25) F dX12_popped_20 (by decide) (fun _ => ?_) (fun h9 => absurd h9 (by rw [show (22 : Int32) = nI 22 from rfl, nI_eq (by omega) (by omega)]; omega))
    refine r_iload_n F dX12_popped_25 rfl ?_
    refine r_iconst (v := 2) F dX12_popped_26 (by decide) ?_
    refine r_icmp_eq (tgt := 60) F dX12_popped_27 (by decide) (fun h9 => absurd h9 (by rw [show (2 : Int32) = nI 2 from rfl, nI_eq (by omega) (by omega)]; omega)) (fun _ => ?_)
    refine r_iload_n F dX12_popped_30 rfl ?_
    refine r_bipush (v := 18) F dX12_popped_31 (by decide) ?_
    refine r_icmp_eq (tgt := 60) F dX12_popped_33 (by decide) (fun h9 => absurd h9 (by rw [show (18 : Int32) = nI 18 from rfl, nI_eq (by omega) (by omega)]; omega)) (fun _ => ?_)
    refine r_iload_n F dX12_popped_36 rfl ?_
    refine r_bipush (v := 19) F dX12_popped_37 (by decide) ?_
    refine r_icmp_eq (tgt := 60) F dX12_popped_39 (by decide) (fun h9 => absurd h9 (by rw [show (19 : Int32) = nI 19 from rfl, nI_eq (by omega) (by omega)]; omega)) (fun _ => ?_)
    refine r_iload_n F dX12_popped_42 rfl ?_
    refine r_bipush (v := 21) F dX12_popped_43 (by decide) ?_
    refine r_icmp_eq (tgt := 60) F dX12_popped_45 (by decide) (fun _ => ?_) (fun h9 => absurd (by rw [show (21 : Int32) = nI 21 from rfl, nI_eq (by omega) (by omega)]; omega) h9)
    refine r_iconst (v := 1) F dX12_popped_60 (by decide) ?_
    exact e_iret F hr hlk ⟨by unfold pp; rw [if_neg (show ¬ w = 31 by omega), if_neg (show ¬ w = 32 by omega)]; exact (show ∀ w : Nat, w < 36 → (w = 21) → _ = nI (pTb.getD w 0) from by decide) w hw hg, rfl⟩ (by decide) (by decide) dX12_popped_61
  · refine r_iload_n F dX12_popped_0 rfl ?_
    refine r_iconst (v := 3) F dX12_popped_1 (by decide) ?_
    refine r_icmp_lt (tgt := 11) F dX12_popped_2 (by decide) (fun h9 => absurd h9 (by rw [show (3 : Int32) = nI 3 from rfl, nI_ltI (by omega) (by omega)]; omega)) (fun _ => ?_)
    refine r_iload_n F dX12_popped_5 rfl ?_
    refine r_bipush (v := 16) F dX12_popped_6 (by decide) ?_
    refine r_icmp_le (tgt := 23) F dX12_popped_8 (by decide) (fun h9 => absurd h9 (by rw [show (16 : Int32) = nI 16 from rfl, nI_leI (by omega) (by omega)]; omega)) (fun _ => ?_)
    refine r_iload_n F dX12_popped_11 rfl ?_
    refine r_bipush (v := 20) F dX12_popped_12 (by decide) ?_
    refine r_icmp_eq (tgt := 23) F dX12_popped_14 (by decide) (fun h9 => absurd h9 (by rw [show (20 : Int32) = nI 20 from rfl, nI_eq (by omega) (by omega)]; omega)) (fun _ => ?_)
    refine r_iload_n F dX12_popped_17 rfl ?_
    refine r_bipush (v := 22) F dX12_popped_18 (by decide) ?_
    refine r_icmp_ne (tgt := 25) F dX12_popped_20 (by decide) (fun h9 => absurd (by rw [show (22 : Int32) = nI 22 from rfl, nI_eq (by omega) (by omega)]; omega) h9) (fun _ => ?_)
    refine r_iconst (v := 2) F dX12_popped_23 (by decide) ?_
    exact e_iret F hr hlk ⟨by unfold pp; rw [if_neg (show ¬ w = 31 by omega), if_neg (show ¬ w = 32 by omega)]; exact (show ∀ w : Nat, w < 36 → (w = 22) → _ = nI (pTb.getD w 0) from by decide) w hw hg, rfl⟩ (by decide) (by decide) dX12_popped_24
  · refine r_iload_n F dX12_popped_0 rfl ?_
    refine r_iconst (v := 3) F dX12_popped_1 (by decide) ?_
    refine r_icmp_lt (tgt := 11) F dX12_popped_2 (by decide) (fun h9 => absurd h9 (by rw [show (3 : Int32) = nI 3 from rfl, nI_ltI (by omega) (by omega)]; omega)) (fun _ => ?_)
    refine r_iload_n F dX12_popped_5 rfl ?_
    refine r_bipush (v := 16) F dX12_popped_6 (by decide) ?_
    refine r_icmp_le (tgt := 23) F dX12_popped_8 (by decide) (fun h9 => absurd h9 (by rw [show (16 : Int32) = nI 16 from rfl, nI_leI (by omega) (by omega)]; omega)) (fun _ => ?_)
    refine r_iload_n F dX12_popped_11 rfl ?_
    refine r_bipush (v := 20) F dX12_popped_12 (by decide) ?_
    refine r_icmp_eq (tgt := 23) F dX12_popped_14 (by decide) (fun h9 => absurd h9 (by rw [show (20 : Int32) = nI 20 from rfl, nI_eq (by omega) (by omega)]; omega)) (fun _ => ?_)
    refine r_iload_n F dX12_popped_17 rfl ?_
    refine r_bipush (v := 22) F dX12_popped_18 (by decide) ?_
    refine r_icmp_ne (tgt := 25) F dX12_popped_20 (by decide) (fun _ => ?_) (fun h9 => absurd h9 (by rw [show (22 : Int32) = nI 22 from rfl, nI_eq (by omega) (by omega)]; omega))
    refine r_iload_n F dX12_popped_25 rfl ?_
    refine r_iconst (v := 2) F dX12_popped_26 (by decide) ?_
    refine r_icmp_eq (tgt := 60) F dX12_popped_27 (by decide) (fun h9 => absurd h9 (by rw [show (2 : Int32) = nI 2 from rfl, nI_eq (by omega) (by omega)]; omega)) (fun _ => ?_)
    refine r_iload_n F dX12_popped_30 rfl ?_
    refine r_bipush (v := 18) F dX12_popped_31 (by decide) ?_
    refine r_icmp_eq (tgt := 60) F dX12_popped_33 (by decide) (fun h9 => absurd h9 (by rw [show (18 : Int32) = nI 18 from rfl, nI_eq (by omega) (by omega)]; omega)) (fun _ => ?_)
    refine r_iload_n F dX12_popped_36 rfl ?_
    refine r_bipush (v := 19) F dX12_popped_37 (by decide) ?_
    refine r_icmp_eq (tgt := 60) F dX12_popped_39 (by decide) (fun h9 => absurd h9 (by rw [show (19 : Int32) = nI 19 from rfl, nI_eq (by omega) (by omega)]; omega)) (fun _ => ?_)
    refine r_iload_n F dX12_popped_42 rfl ?_
    refine r_bipush (v := 21) F dX12_popped_43 (by decide) ?_
    refine r_icmp_eq (tgt := 60) F dX12_popped_45 (by decide) (fun h9 => absurd h9 (by rw [show (21 : Int32) = nI 21 from rfl, nI_eq (by omega) (by omega)]; omega)) (fun _ => ?_)
    refine r_iload_n F dX12_popped_48 rfl ?_
    refine r_bipush (v := 25) F dX12_popped_49 (by decide) ?_
    refine r_icmp_eq (tgt := 60) F dX12_popped_51 (by decide) (fun h9 => absurd h9 (by rw [show (25 : Int32) = nI 25 from rfl, nI_eq (by omega) (by omega)]; omega)) (fun _ => ?_)
    refine r_iload_n F dX12_popped_54 rfl ?_
    refine r_bipush (v := 29) F dX12_popped_55 (by decide) ?_
    refine r_icmp_ne (tgt := 62) F dX12_popped_57 (by decide) (fun _ => ?_) (fun h9 => absurd h9 (by rw [show (29 : Int32) = nI 29 from rfl, nI_eq (by omega) (by omega)]; omega))
    refine r_iload_n F dX12_popped_62 rfl ?_
    refine r_bipush (v := 17) F dX12_popped_63 (by decide) ?_
    refine r_icmp_ne (tgt := 70) F dX12_popped_65 (by decide) (fun _ => ?_) (fun h9 => absurd h9 (by rw [show (17 : Int32) = nI 17 from rfl, nI_eq (by omega) (by omega)]; omega))
    refine r_iload_n F dX12_popped_70 rfl ?_
    refine r_bipush (v := 31) F dX12_popped_71 (by decide) ?_
    refine r_icmp_ne (tgt := 89) F dX12_popped_73 (by decide) (fun _ => ?_) (fun h9 => absurd h9 (by rw [show (31 : Int32) = nI 31 from rfl, nI_eq (by omega) (by omega)]; omega))
    refine r_iload_n F dX12_popped_89 rfl ?_
    refine r_bipush (v := 32) F dX12_popped_90 (by decide) ?_
    refine r_icmp_ne (tgt := 103) F dX12_popped_92 (by decide) (fun _ => ?_) (fun h9 => absurd h9 (by rw [show (32 : Int32) = nI 32 from rfl, nI_eq (by omega) (by omega)]; omega))
    refine r_iconst (v := 0) F dX12_popped_103 (by decide) ?_
    exact e_iret F hr hlk ⟨by unfold pp; rw [if_neg (show ¬ w = 31 by omega), if_neg (show ¬ w = 32 by omega)]; exact (show ∀ w : Nat, w < 36 → ((23 ≤ w ∧ w ≤ 24) ∨ (26 ≤ w ∧ w ≤ 28) ∨ w = 30 ∨ (33 ≤ w ∧ w ≤ 35)) → _ = nI (pTb.getD w 0) from by decide) w hw hg, rfl⟩ (by decide) (by decide) dX12_popped_104
  · refine r_iload_n F dX12_popped_0 rfl ?_
    refine r_iconst (v := 3) F dX12_popped_1 (by decide) ?_
    refine r_icmp_lt (tgt := 11) F dX12_popped_2 (by decide) (fun h9 => absurd h9 (by rw [show (3 : Int32) = nI 3 from rfl, nI_ltI (by omega) (by omega)]; omega)) (fun _ => ?_)
    refine r_iload_n F dX12_popped_5 rfl ?_
    refine r_bipush (v := 16) F dX12_popped_6 (by decide) ?_
    refine r_icmp_le (tgt := 23) F dX12_popped_8 (by decide) (fun h9 => absurd h9 (by rw [show (16 : Int32) = nI 16 from rfl, nI_leI (by omega) (by omega)]; omega)) (fun _ => ?_)
    refine r_iload_n F dX12_popped_11 rfl ?_
    refine r_bipush (v := 20) F dX12_popped_12 (by decide) ?_
    refine r_icmp_eq (tgt := 23) F dX12_popped_14 (by decide) (fun h9 => absurd h9 (by rw [show (20 : Int32) = nI 20 from rfl, nI_eq (by omega) (by omega)]; omega)) (fun _ => ?_)
    refine r_iload_n F dX12_popped_17 rfl ?_
    refine r_bipush (v := 22) F dX12_popped_18 (by decide) ?_
    refine r_icmp_ne (tgt := 25) F dX12_popped_20 (by decide) (fun _ => ?_) (fun h9 => absurd h9 (by rw [show (22 : Int32) = nI 22 from rfl, nI_eq (by omega) (by omega)]; omega))
    refine r_iload_n F dX12_popped_25 rfl ?_
    refine r_iconst (v := 2) F dX12_popped_26 (by decide) ?_
    refine r_icmp_eq (tgt := 60) F dX12_popped_27 (by decide) (fun h9 => absurd h9 (by rw [show (2 : Int32) = nI 2 from rfl, nI_eq (by omega) (by omega)]; omega)) (fun _ => ?_)
    refine r_iload_n F dX12_popped_30 rfl ?_
    refine r_bipush (v := 18) F dX12_popped_31 (by decide) ?_
    refine r_icmp_eq (tgt := 60) F dX12_popped_33 (by decide) (fun h9 => absurd h9 (by rw [show (18 : Int32) = nI 18 from rfl, nI_eq (by omega) (by omega)]; omega)) (fun _ => ?_)
    refine r_iload_n F dX12_popped_36 rfl ?_
    refine r_bipush (v := 19) F dX12_popped_37 (by decide) ?_
    refine r_icmp_eq (tgt := 60) F dX12_popped_39 (by decide) (fun h9 => absurd h9 (by rw [show (19 : Int32) = nI 19 from rfl, nI_eq (by omega) (by omega)]; omega)) (fun _ => ?_)
    refine r_iload_n F dX12_popped_42 rfl ?_
    refine r_bipush (v := 21) F dX12_popped_43 (by decide) ?_
    refine r_icmp_eq (tgt := 60) F dX12_popped_45 (by decide) (fun h9 => absurd h9 (by rw [show (21 : Int32) = nI 21 from rfl, nI_eq (by omega) (by omega)]; omega)) (fun _ => ?_)
    refine r_iload_n F dX12_popped_48 rfl ?_
    refine r_bipush (v := 25) F dX12_popped_49 (by decide) ?_
    refine r_icmp_eq (tgt := 60) F dX12_popped_51 (by decide) (fun _ => ?_) (fun h9 => absurd (by rw [show (25 : Int32) = nI 25 from rfl, nI_eq (by omega) (by omega)]; omega) h9)
    refine r_iconst (v := 1) F dX12_popped_60 (by decide) ?_
    exact e_iret F hr hlk ⟨by unfold pp; rw [if_neg (show ¬ w = 31 by omega), if_neg (show ¬ w = 32 by omega)]; exact (show ∀ w : Nat, w < 36 → (w = 25) → _ = nI (pTb.getD w 0) from by decide) w hw hg, rfl⟩ (by decide) (by decide) dX12_popped_61
  · refine r_iload_n F dX12_popped_0 rfl ?_
    refine r_iconst (v := 3) F dX12_popped_1 (by decide) ?_
    refine r_icmp_lt (tgt := 11) F dX12_popped_2 (by decide) (fun h9 => absurd h9 (by rw [show (3 : Int32) = nI 3 from rfl, nI_ltI (by omega) (by omega)]; omega)) (fun _ => ?_)
    refine r_iload_n F dX12_popped_5 rfl ?_
    refine r_bipush (v := 16) F dX12_popped_6 (by decide) ?_
    refine r_icmp_le (tgt := 23) F dX12_popped_8 (by decide) (fun h9 => absurd h9 (by rw [show (16 : Int32) = nI 16 from rfl, nI_leI (by omega) (by omega)]; omega)) (fun _ => ?_)
    refine r_iload_n F dX12_popped_11 rfl ?_
    refine r_bipush (v := 20) F dX12_popped_12 (by decide) ?_
    refine r_icmp_eq (tgt := 23) F dX12_popped_14 (by decide) (fun h9 => absurd h9 (by rw [show (20 : Int32) = nI 20 from rfl, nI_eq (by omega) (by omega)]; omega)) (fun _ => ?_)
    refine r_iload_n F dX12_popped_17 rfl ?_
    refine r_bipush (v := 22) F dX12_popped_18 (by decide) ?_
    refine r_icmp_ne (tgt := 25) F dX12_popped_20 (by decide) (fun _ => ?_) (fun h9 => absurd h9 (by rw [show (22 : Int32) = nI 22 from rfl, nI_eq (by omega) (by omega)]; omega))
    refine r_iload_n F dX12_popped_25 rfl ?_
    refine r_iconst (v := 2) F dX12_popped_26 (by decide) ?_
    refine r_icmp_eq (tgt := 60) F dX12_popped_27 (by decide) (fun h9 => absurd h9 (by rw [show (2 : Int32) = nI 2 from rfl, nI_eq (by omega) (by omega)]; omega)) (fun _ => ?_)
    refine r_iload_n F dX12_popped_30 rfl ?_
    refine r_bipush (v := 18) F dX12_popped_31 (by decide) ?_
    refine r_icmp_eq (tgt := 60) F dX12_popped_33 (by decide) (fun h9 => absurd h9 (by rw [show (18 : Int32) = nI 18 from rfl, nI_eq (by omega) (by omega)]; omega)) (fun _ => ?_)
    refine r_iload_n F dX12_popped_36 rfl ?_
    refine r_bipush (v := 19) F dX12_popped_37 (by decide) ?_
    refine r_icmp_eq (tgt := 60) F dX12_popped_39 (by decide) (fun h9 => absurd h9 (by rw [show (19 : Int32) = nI 19 from rfl, nI_eq (by omega) (by omega)]; omega)) (fun _ => ?_)
    refine r_iload_n F dX12_popped_42 rfl ?_
    refine r_bipush (v := 21) F dX12_popped_43 (by decide) ?_
    refine r_icmp_eq (tgt := 60) F dX12_popped_45 (by decide) (fun h9 => absurd h9 (by rw [show (21 : Int32) = nI 21 from rfl, nI_eq (by omega) (by omega)]; omega)) (fun _ => ?_)
    refine r_iload_n F dX12_popped_48 rfl ?_
    refine r_bipush (v := 25) F dX12_popped_49 (by decide) ?_
    refine r_icmp_eq (tgt := 60) F dX12_popped_51 (by decide) (fun h9 => absurd h9 (by rw [show (25 : Int32) = nI 25 from rfl, nI_eq (by omega) (by omega)]; omega)) (fun _ => ?_)
    refine r_iload_n F dX12_popped_54 rfl ?_
    refine r_bipush (v := 29) F dX12_popped_55 (by decide) ?_
    refine r_icmp_ne (tgt := 62) F dX12_popped_57 (by decide) (fun h9 => absurd (by rw [show (29 : Int32) = nI 29 from rfl, nI_eq (by omega) (by omega)]; omega) h9) (fun _ => ?_)
    refine r_iconst (v := 1) F dX12_popped_60 (by decide) ?_
    exact e_iret F hr hlk ⟨by unfold pp; rw [if_neg (show ¬ w = 31 by omega), if_neg (show ¬ w = 32 by omega)]; exact (show ∀ w : Nat, w < 36 → (w = 29) → _ = nI (pTb.getD w 0) from by decide) w hw hg, rfl⟩ (by decide) (by decide) dX12_popped_61
  · refine r_iload_n F dX12_popped_0 rfl ?_
    refine r_iconst (v := 3) F dX12_popped_1 (by decide) ?_
    refine r_icmp_lt (tgt := 11) F dX12_popped_2 (by decide) (fun h9 => absurd h9 (by rw [show (3 : Int32) = nI 3 from rfl, nI_ltI (by omega) (by omega)]; omega)) (fun _ => ?_)
    refine r_iload_n F dX12_popped_5 rfl ?_
    refine r_bipush (v := 16) F dX12_popped_6 (by decide) ?_
    refine r_icmp_le (tgt := 23) F dX12_popped_8 (by decide) (fun h9 => absurd h9 (by rw [show (16 : Int32) = nI 16 from rfl, nI_leI (by omega) (by omega)]; omega)) (fun _ => ?_)
    refine r_iload_n F dX12_popped_11 rfl ?_
    refine r_bipush (v := 20) F dX12_popped_12 (by decide) ?_
    refine r_icmp_eq (tgt := 23) F dX12_popped_14 (by decide) (fun h9 => absurd h9 (by rw [show (20 : Int32) = nI 20 from rfl, nI_eq (by omega) (by omega)]; omega)) (fun _ => ?_)
    refine r_iload_n F dX12_popped_17 rfl ?_
    refine r_bipush (v := 22) F dX12_popped_18 (by decide) ?_
    refine r_icmp_ne (tgt := 25) F dX12_popped_20 (by decide) (fun _ => ?_) (fun h9 => absurd h9 (by rw [show (22 : Int32) = nI 22 from rfl, nI_eq (by omega) (by omega)]; omega))
    refine r_iload_n F dX12_popped_25 rfl ?_
    refine r_iconst (v := 2) F dX12_popped_26 (by decide) ?_
    refine r_icmp_eq (tgt := 60) F dX12_popped_27 (by decide) (fun h9 => absurd h9 (by rw [show (2 : Int32) = nI 2 from rfl, nI_eq (by omega) (by omega)]; omega)) (fun _ => ?_)
    refine r_iload_n F dX12_popped_30 rfl ?_
    refine r_bipush (v := 18) F dX12_popped_31 (by decide) ?_
    refine r_icmp_eq (tgt := 60) F dX12_popped_33 (by decide) (fun h9 => absurd h9 (by rw [show (18 : Int32) = nI 18 from rfl, nI_eq (by omega) (by omega)]; omega)) (fun _ => ?_)
    refine r_iload_n F dX12_popped_36 rfl ?_
    refine r_bipush (v := 19) F dX12_popped_37 (by decide) ?_
    refine r_icmp_eq (tgt := 60) F dX12_popped_39 (by decide) (fun h9 => absurd h9 (by rw [show (19 : Int32) = nI 19 from rfl, nI_eq (by omega) (by omega)]; omega)) (fun _ => ?_)
    refine r_iload_n F dX12_popped_42 rfl ?_
    refine r_bipush (v := 21) F dX12_popped_43 (by decide) ?_
    refine r_icmp_eq (tgt := 60) F dX12_popped_45 (by decide) (fun h9 => absurd h9 (by rw [show (21 : Int32) = nI 21 from rfl, nI_eq (by omega) (by omega)]; omega)) (fun _ => ?_)
    refine r_iload_n F dX12_popped_48 rfl ?_
    refine r_bipush (v := 25) F dX12_popped_49 (by decide) ?_
    refine r_icmp_eq (tgt := 60) F dX12_popped_51 (by decide) (fun h9 => absurd h9 (by rw [show (25 : Int32) = nI 25 from rfl, nI_eq (by omega) (by omega)]; omega)) (fun _ => ?_)
    refine r_iload_n F dX12_popped_54 rfl ?_
    refine r_bipush (v := 29) F dX12_popped_55 (by decide) ?_
    refine r_icmp_ne (tgt := 62) F dX12_popped_57 (by decide) (fun _ => ?_) (fun h9 => absurd h9 (by rw [show (29 : Int32) = nI 29 from rfl, nI_eq (by omega) (by omega)]; omega))
    refine r_iload_n F dX12_popped_62 rfl ?_
    refine r_bipush (v := 17) F dX12_popped_63 (by decide) ?_
    refine r_icmp_ne (tgt := 70) F dX12_popped_65 (by decide) (fun _ => ?_) (fun h9 => absurd h9 (by rw [show (17 : Int32) = nI 17 from rfl, nI_eq (by omega) (by omega)]; omega))
    refine r_iload_n F dX12_popped_70 rfl ?_
    refine r_bipush (v := 31) F dX12_popped_71 (by decide) ?_
    refine r_icmp_ne (tgt := 89) F dX12_popped_73 (by decide) (fun h9 => absurd (by rw [show (31 : Int32) = nI 31 from rfl, nI_eq (by omega) (by omega)]; omega) h9) (fun _ => ?_)
    refine r_aload_n F dX12_popped_76 rfl ?_
    refine r_bipush (v := 16) F dX12_popped_77 (by decide) ?_
    refine r_iload_n F dX12_popped_79 rfl ?_
    refine r_imul F dX12_popped_80 ?_
    refine r_iload_n F dX12_popped_81 rfl ?_
    refine r_iadd F dX12_popped_82 ?_
    obtain ⟨j, ej, hj⟩ := h31 (by omega)
    subst ej
    have hy2 := (rg_1204 hv (k := o) ho).2
    have hT : (16 * o + j) % 16 < cn v 1204 ((16 * o + j) / 16) := by rw [show (16 * o + j) / 16 = o by omega]; omega
    rw [show (16 : Int32) * nI o + nI j = nI (16 * o + j) by rw [nl16, nI_mul, nI_add]]
    refine c_Vi (ci := 12) F G (mm_signature hS (y := 16 * o + j) hv hA hD (by omega) hT) (cwV 1 F.2.2.2.2 (zgV km_X12_168 ki_X12_signature ke_X12_X12_signature kn_X12 ko_X12_signature) rfl rfl rfl ⟨rfl, hd_yX12_signature⟩ ⟨Nat.le_of_ble_eq_true rfl, Nat.le_of_ble_eq_true rfl⟩) rfl (by decide) hS.al rfl rfl (Nat.le_of_ble_eq_true rfl) dX12_popped_83 ⟨Nat.le_of_ble_eq_true rfl, Nat.le_of_ble_eq_true rfl⟩ (fun r83 S83 h83 => ?_)
    obtain ⟨a83, e83⟩ := h83
    have hs83 := e83.symm
    subst hs83
    subst a83
    have hsl := sg_le hv hD (y := 16 * o + j) (by omega) hT
    refine r_iconst (v := 2) F dX12_popped_86 (by decide) ?_
    refine r_idiv F dX12_popped_87 (by decide) ?_
    exact e_iret F hr hlk ⟨by unfold pp; rw [if_pos (show w = 31 by omega), nI_clamp (by omega), nl2]; exact nI_div (by omega) (by omega), rfl⟩ (by decide) (by decide) dX12_popped_88
  · refine r_iload_n F dX12_popped_0 rfl ?_
    refine r_iconst (v := 3) F dX12_popped_1 (by decide) ?_
    refine r_icmp_lt (tgt := 11) F dX12_popped_2 (by decide) (fun h9 => absurd h9 (by rw [show (3 : Int32) = nI 3 from rfl, nI_ltI (by omega) (by omega)]; omega)) (fun _ => ?_)
    refine r_iload_n F dX12_popped_5 rfl ?_
    refine r_bipush (v := 16) F dX12_popped_6 (by decide) ?_
    refine r_icmp_le (tgt := 23) F dX12_popped_8 (by decide) (fun h9 => absurd h9 (by rw [show (16 : Int32) = nI 16 from rfl, nI_leI (by omega) (by omega)]; omega)) (fun _ => ?_)
    refine r_iload_n F dX12_popped_11 rfl ?_
    refine r_bipush (v := 20) F dX12_popped_12 (by decide) ?_
    refine r_icmp_eq (tgt := 23) F dX12_popped_14 (by decide) (fun h9 => absurd h9 (by rw [show (20 : Int32) = nI 20 from rfl, nI_eq (by omega) (by omega)]; omega)) (fun _ => ?_)
    refine r_iload_n F dX12_popped_17 rfl ?_
    refine r_bipush (v := 22) F dX12_popped_18 (by decide) ?_
    refine r_icmp_ne (tgt := 25) F dX12_popped_20 (by decide) (fun _ => ?_) (fun h9 => absurd h9 (by rw [show (22 : Int32) = nI 22 from rfl, nI_eq (by omega) (by omega)]; omega))
    refine r_iload_n F dX12_popped_25 rfl ?_
    refine r_iconst (v := 2) F dX12_popped_26 (by decide) ?_
    refine r_icmp_eq (tgt := 60) F dX12_popped_27 (by decide) (fun h9 => absurd h9 (by rw [show (2 : Int32) = nI 2 from rfl, nI_eq (by omega) (by omega)]; omega)) (fun _ => ?_)
    refine r_iload_n F dX12_popped_30 rfl ?_
    refine r_bipush (v := 18) F dX12_popped_31 (by decide) ?_
    refine r_icmp_eq (tgt := 60) F dX12_popped_33 (by decide) (fun h9 => absurd h9 (by rw [show (18 : Int32) = nI 18 from rfl, nI_eq (by omega) (by omega)]; omega)) (fun _ => ?_)
    refine r_iload_n F dX12_popped_36 rfl ?_
    refine r_bipush (v := 19) F dX12_popped_37 (by decide) ?_
    refine r_icmp_eq (tgt := 60) F dX12_popped_39 (by decide) (fun h9 => absurd h9 (by rw [show (19 : Int32) = nI 19 from rfl, nI_eq (by omega) (by omega)]; omega)) (fun _ => ?_)
    refine r_iload_n F dX12_popped_42 rfl ?_
    refine r_bipush (v := 21) F dX12_popped_43 (by decide) ?_
    refine r_icmp_eq (tgt := 60) F dX12_popped_45 (by decide) (fun h9 => absurd h9 (by rw [show (21 : Int32) = nI 21 from rfl, nI_eq (by omega) (by omega)]; omega)) (fun _ => ?_)
    refine r_iload_n F dX12_popped_48 rfl ?_
    refine r_bipush (v := 25) F dX12_popped_49 (by decide) ?_
    refine r_icmp_eq (tgt := 60) F dX12_popped_51 (by decide) (fun h9 => absurd h9 (by rw [show (25 : Int32) = nI 25 from rfl, nI_eq (by omega) (by omega)]; omega)) (fun _ => ?_)
    refine r_iload_n F dX12_popped_54 rfl ?_
    refine r_bipush (v := 29) F dX12_popped_55 (by decide) ?_
    refine r_icmp_ne (tgt := 62) F dX12_popped_57 (by decide) (fun _ => ?_) (fun h9 => absurd h9 (by rw [show (29 : Int32) = nI 29 from rfl, nI_eq (by omega) (by omega)]; omega))
    refine r_iload_n F dX12_popped_62 rfl ?_
    refine r_bipush (v := 17) F dX12_popped_63 (by decide) ?_
    refine r_icmp_ne (tgt := 70) F dX12_popped_65 (by decide) (fun _ => ?_) (fun h9 => absurd h9 (by rw [show (17 : Int32) = nI 17 from rfl, nI_eq (by omega) (by omega)]; omega))
    refine r_iload_n F dX12_popped_70 rfl ?_
    refine r_bipush (v := 31) F dX12_popped_71 (by decide) ?_
    refine r_icmp_ne (tgt := 89) F dX12_popped_73 (by decide) (fun _ => ?_) (fun h9 => absurd h9 (by rw [show (31 : Int32) = nI 31 from rfl, nI_eq (by omega) (by omega)]; omega))
    refine r_iload_n F dX12_popped_89 rfl ?_
    refine r_bipush (v := 32) F dX12_popped_90 (by decide) ?_
    refine r_icmp_ne (tgt := 103) F dX12_popped_92 (by decide) (fun h9 => absurd (by rw [show (32 : Int32) = nI 32 from rfl, nI_eq (by omega) (by omega)]; omega) h9) (fun _ => ?_)
    refine r_iconst (v := 1) F dX12_popped_95 (by decide) ?_
    refine r_iload_n F dX12_popped_96 rfl ?_
    refine r_iconst (v := 2) F dX12_popped_97 (by decide) ?_
    refine r_idiv F dX12_popped_98 (by decide) ?_
    refine r_iadd F dX12_popped_99 ?_
    refine r_goto (tgt := 104) F dX12_popped_100 (by decide) ?_
    obtain ⟨j, ej, hj⟩ := h32 (by omega)
    subst ej
    exact e_iret F hr hlk ⟨by unfold pp; rw [if_neg (show ¬ w = 31 by omega), if_pos (show w = 32 by omega), nI_clamp (by omega), nl1, nl2, nI_div (by omega) (by omega), nI_add], rfl⟩ (by decide) (by decide) dX12_popped_104
set_option maxRecDepth 100000 in
set_option maxHeartbeats 4000000 in
theorem mm_pushed {l : Launch} {N0 t0 : Nat} {D : va_G} {cy : Nat → ClassId} {S : zS} {S0 : zS} {g : Nat} {qa : Nat → Nat} {v : zV} (hS : zmR S0 g qa v S) {o w : Nat} {a : Int32} (hv : vRg v) (hA : vA v) (hD : vD v) (ho : o < 6) (hw : w < 36) (h31 : w = 31 → ∃ j, a = nI j ∧ j < cn v 1204 o) (h32 : w = 32 → ∃ j, a = nI j ∧ j ≤ 9) : zMi l yX12_pushed (zws yX12_pushed cX12_pushed 4 (some .int)) { frames := 2, cells := 0, slots := 0, locals := 48 } N0 t0 D cy S [.ref g, .int (nI o), .int (nI w), .int a] (fun r S' => r = nI (pu v o w a) ∧ S' = S) 0 0 := by
  refine zMi.of (cc := cX12_pushed) (maxL := 4) (ret := (some .int)) (by decide) rfl (Nat.le_of_ble_eq_true rfl) ?_
  intro p e s m args below meth c F G hr hlk hnm
  rcases (show ((0 ≤ w ∧ w ≤ 1) ∨ (3 ≤ w ∧ w ≤ 17) ∨ w = 19 ∨ w = 21) ∨ (w = 2) ∨ (w = 18) ∨ (w = 20) ∨ (w = 22) ∨ ((23 ≤ w ∧ w ≤ 30)) ∨ (w = 31) ∨ (w = 32) ∨ ((33 ≤ w ∧ w ≤ 35)) by omega) with hg | hg | hg | hg | hg | hg | hg | hg | hg
  · refine r_iload_n F dX12_pushed_0 rfl ?_
    refine r_bipush (v := 31) F dX12_pushed_1 (by decide) ?_
    refine r_icmp_ne (tgt := 19) F dX12_pushed_3 (by decide) (fun _ => ?_) (fun h9 => absurd h9 (by rw [show (31 : Int32) = nI 31 from rfl, nI_eq (by omega) (by omega)]; omega))
    refine r_iload_n F dX12_pushed_19 rfl ?_
    refine r_bipush (v := 32) F dX12_pushed_20 (by decide) ?_
    refine r_icmp_ne (tgt := 29) F dX12_pushed_22 (by decide) (fun _ => ?_) (fun h9 => absurd h9 (by rw [show (32 : Int32) = nI 32 from rfl, nI_eq (by omega) (by omega)]; omega))
    refine r_iload_n F dX12_pushed_29 rfl ?_
    refine r_iconst (v := 2) F dX12_pushed_30 (by decide) ?_
    refine r_icmp_eq (tgt := 64) F dX12_pushed_31 (by decide) (fun h9 => absurd h9 (by rw [show (2 : Int32) = nI 2 from rfl, nI_eq (by omega) (by omega)]; omega)) (fun _ => ?_)
    refine r_iload_n F dX12_pushed_34 rfl ?_
    refine r_bipush (v := 18) F dX12_pushed_35 (by decide) ?_
    refine r_icmp_eq (tgt := 64) F dX12_pushed_37 (by decide) (fun h9 => absurd h9 (by rw [show (18 : Int32) = nI 18 from rfl, nI_eq (by omega) (by omega)]; omega)) (fun _ => ?_)
    refine r_iload_n F dX12_pushed_40 rfl ?_
    refine r_bipush (v := 20) F dX12_pushed_41 (by decide) ?_
    refine r_icmp_eq (tgt := 64) F dX12_pushed_43 (by decide) (fun h9 => absurd h9 (by rw [show (20 : Int32) = nI 20 from rfl, nI_eq (by omega) (by omega)]; omega)) (fun _ => ?_)
    refine r_iload_n F dX12_pushed_46 rfl ?_
    refine r_bipush (v := 22) F dX12_pushed_47 (by decide) ?_
    refine r_icmp_eq (tgt := 64) F dX12_pushed_49 (by decide) (fun h9 => absurd h9 (by rw [show (22 : Int32) = nI 22 from rfl, nI_eq (by omega) (by omega)]; omega)) (fun _ => ?_)
    refine r_iload_n F dX12_pushed_52 rfl ?_
    refine r_bipush (v := 23) F dX12_pushed_53 (by decide) ?_
    refine r_icmp_lt (tgt := 68) F dX12_pushed_55 (by decide) (fun _ => ?_) (fun h9 => absurd (by rw [show (23 : Int32) = nI 23 from rfl, nI_ltI (by omega) (by omega)]; omega) h9)
    refine r_iconst (v := 1) F dX12_pushed_68 (by decide) ?_
    exact e_iret F hr hlk ⟨by unfold pu; rw [if_neg (show ¬ w = 31 by omega), if_neg (show ¬ w = 32 by omega)]; exact (show ∀ w : Nat, w < 36 → ((0 ≤ w ∧ w ≤ 1) ∨ (3 ≤ w ∧ w ≤ 17) ∨ w = 19 ∨ w = 21) → _ = nI (puTb.getD w 0) from by decide) w hw hg, rfl⟩ (by decide) (by decide) dX12_pushed_69
  · refine r_iload_n F dX12_pushed_0 rfl ?_
    refine r_bipush (v := 31) F dX12_pushed_1 (by decide) ?_
    refine r_icmp_ne (tgt := 19) F dX12_pushed_3 (by decide) (fun _ => ?_) (fun h9 => absurd h9 (by rw [show (31 : Int32) = nI 31 from rfl, nI_eq (by omega) (by omega)]; omega))
    refine r_iload_n F dX12_pushed_19 rfl ?_
    refine r_bipush (v := 32) F dX12_pushed_20 (by decide) ?_
    refine r_icmp_ne (tgt := 29) F dX12_pushed_22 (by decide) (fun _ => ?_) (fun h9 => absurd h9 (by rw [show (32 : Int32) = nI 32 from rfl, nI_eq (by omega) (by omega)]; omega))
    refine r_iload_n F dX12_pushed_29 rfl ?_
    refine r_iconst (v := 2) F dX12_pushed_30 (by decide) ?_
    refine r_icmp_eq (tgt := 64) F dX12_pushed_31 (by decide) (fun _ => ?_) (fun h9 => absurd (by rw [show (2 : Int32) = nI 2 from rfl, nI_eq (by omega) (by omega)]; omega) h9)
    refine r_iconst (v := 0) F dX12_pushed_64 (by decide) ?_
    refine r_goto (tgt := 69) F dX12_pushed_65 (by decide) ?_
    exact e_iret F hr hlk ⟨by unfold pu; rw [if_neg (show ¬ w = 31 by omega), if_neg (show ¬ w = 32 by omega)]; exact (show ∀ w : Nat, w < 36 → (w = 2) → _ = nI (puTb.getD w 0) from by decide) w hw hg, rfl⟩ (by decide) (by decide) dX12_pushed_69
  · refine r_iload_n F dX12_pushed_0 rfl ?_
    refine r_bipush (v := 31) F dX12_pushed_1 (by decide) ?_
    refine r_icmp_ne (tgt := 19) F dX12_pushed_3 (by decide) (fun _ => ?_) (fun h9 => absurd h9 (by rw [show (31 : Int32) = nI 31 from rfl, nI_eq (by omega) (by omega)]; omega))
    refine r_iload_n F dX12_pushed_19 rfl ?_
    refine r_bipush (v := 32) F dX12_pushed_20 (by decide) ?_
    refine r_icmp_ne (tgt := 29) F dX12_pushed_22 (by decide) (fun _ => ?_) (fun h9 => absurd h9 (by rw [show (32 : Int32) = nI 32 from rfl, nI_eq (by omega) (by omega)]; omega))
    refine r_iload_n F dX12_pushed_29 rfl ?_
    refine r_iconst (v := 2) F dX12_pushed_30 (by decide) ?_
    refine r_icmp_eq (tgt := 64) F dX12_pushed_31 (by decide) (fun h9 => absurd h9 (by rw [show (2 : Int32) = nI 2 from rfl, nI_eq (by omega) (by omega)]; omega)) (fun _ => ?_)
    refine r_iload_n F dX12_pushed_34 rfl ?_
    refine r_bipush (v := 18) F dX12_pushed_35 (by decide) ?_
    refine r_icmp_eq (tgt := 64) F dX12_pushed_37 (by decide) (fun _ => ?_) (fun h9 => absurd (by rw [show (18 : Int32) = nI 18 from rfl, nI_eq (by omega) (by omega)]; omega) h9)
    refine r_iconst (v := 0) F dX12_pushed_64 (by decide) ?_
    refine r_goto (tgt := 69) F dX12_pushed_65 (by decide) ?_
    exact e_iret F hr hlk ⟨by unfold pu; rw [if_neg (show ¬ w = 31 by omega), if_neg (show ¬ w = 32 by omega)]; exact (show ∀ w : Nat, w < 36 → (w = 18) → _ = nI (puTb.getD w 0) from by decide) w hw hg, rfl⟩ (by decide) (by decide) dX12_pushed_69
  · refine r_iload_n F dX12_pushed_0 rfl ?_
    refine r_bipush (v := 31) F dX12_pushed_1 (by decide) ?_
    refine r_icmp_ne (tgt := 19) F dX12_pushed_3 (by decide) (fun _ => ?_) (fun h9 => absurd h9 (by rw [show (31 : Int32) = nI 31 from rfl, nI_eq (by omega) (by omega)]; omega))
    refine r_iload_n F dX12_pushed_19 rfl ?_
    refine r_bipush (v := 32) F dX12_pushed_20 (by decide) ?_
    refine r_icmp_ne (tgt := 29) F dX12_pushed_22 (by decide) (fun _ => ?_) (fun h9 => absurd h9 (by rw [show (32 : Int32) = nI 32 from rfl, nI_eq (by omega) (by omega)]; omega))
    refine r_iload_n F dX12_pushed_29 rfl ?_
    refine r_iconst (v := 2) F dX12_pushed_30 (by decide) ?_
    refine r_icmp_eq (tgt := 64) F dX12_pushed_31 (by decide) (fun h9 => absurd h9 (by rw [show (2 : Int32) = nI 2 from rfl, nI_eq (by omega) (by omega)]; omega)) (fun _ => ?_)
    refine r_iload_n F dX12_pushed_34 rfl ?_
    refine r_bipush (v := 18) F dX12_pushed_35 (by decide) ?_
    refine r_icmp_eq (tgt := 64) F dX12_pushed_37 (by decide) (fun h9 => absurd h9 (by rw [show (18 : Int32) = nI 18 from rfl, nI_eq (by omega) (by omega)]; omega)) (fun _ => ?_)
    refine r_iload_n F dX12_pushed_40 rfl ?_
    refine r_bipush (v := 20) F dX12_pushed_41 (by decide) ?_
    refine r_icmp_eq (tgt := 64) F dX12_pushed_43 (by decide) (fun _ => ?_) (fun h9 => absurd (by rw [show (20 : Int32) = nI 20 from rfl, nI_eq (by omega) (by omega)]; omega) h9)
    refine r_iconst (v := 0) F dX12_pushed_64 (by decide) ?_
    refine r_goto (tgt := 69) F dX12_pushed_65 (by decide) ?_
    exact e_iret F hr hlk ⟨by unfold pu; rw [if_neg (show ¬ w = 31 by omega), if_neg (show ¬ w = 32 by omega)]; exact (show ∀ w : Nat, w < 36 → (w = 20) → _ = nI (puTb.getD w 0) from by decide) w hw hg, rfl⟩ (by decide) (by decide) dX12_pushed_69
  · refine r_iload_n F dX12_pushed_0 rfl ?_
    refine r_bipush (v := 31) F dX12_pushed_1 (by decide) ?_
    refine r_icmp_ne (tgt := 19) F dX12_pushed_3 (by decide) (fun _ => ?_) (fun h9 => absurd h9 (by rw [show (31 : Int32) = nI 31 from rfl, nI_eq (by omega) (by omega)]; omega))
    refine r_iload_n F dX12_pushed_19 rfl ?_
    refine r_bipush (v := 32) F dX12_pushed_20 (by decide) ?_
    refine r_icmp_ne (tgt := 29) F dX12_pushed_22 (by decide) (fun _ => ?_) (fun h9 => absurd h9 (by rw [show (32 : Int32) = nI 32 from rfl, nI_eq (by omega) (by omega)]; omega))
    refine r_iload_n F dX12_pushed_29 rfl ?_
    refine r_iconst (v := 2) F dX12_pushed_30 (by decide) ?_
    refine r_icmp_eq (tgt := 64) F dX12_pushed_31 (by decide) (fun h9 => absurd h9 (by rw [show (2 : Int32) = nI 2 from rfl, nI_eq (by omega) (by omega)]; omega)) (fun _ => ?_)
    refine r_iload_n F dX12_pushed_34 rfl ?_
    refine r_bipush (v := 18) F dX12_pushed_35 (by decide) ?_
    refine r_icmp_eq (tgt := 64) F dX12_pushed_37 (by decide) (fun h9 => absurd h9 (by rw [show (18 : Int32) = nI 18 from rfl, nI_eq (by omega) (by omega)]; omega)) (fun _ => ?_)
    refine r_iload_n F dX12_pushed_40 rfl ?_
    refine r_bipush (v := 20) F dX12_pushed_41 (by decide) ?_
    refine r_icmp_eq (tgt := 64) F dX12_pushed_43 (by decide) (fun h9 => absurd h9 (by rw [show (20 : Int32) = nI 20 from rfl, nI_eq (by omega) (by omega)]; omega)) (fun _ => ?_)
    refine r_iload_n F dX12_pushed_46 rfl ?_
    refine r_bipush (v := 22) F dX12_pushed_47 (by decide) ?_
    refine r_icmp_eq (tgt := 64) F dX12_pushed_49 (by decide) (fun _ => ?_) (fun h9 => absurd (by rw [show (22 : Int32) = nI 22 from rfl, nI_eq (by omega) (by omega)]; omega) h9)
    refine r_iconst (v := 0) F dX12_pushed_64 (by decide) ?_
    refine r_goto (tgt := 69) F dX12_pushed_65 (by decide) ?_
    exact e_iret F hr hlk ⟨by unfold pu; rw [if_neg (show ¬ w = 31 by omega), if_neg (show ¬ w = 32 by omega)]; exact (show ∀ w : Nat, w < 36 → (w = 22) → _ = nI (puTb.getD w 0) from by decide) w hw hg, rfl⟩ (by decide) (by decide) dX12_pushed_69
  · refine r_iload_n F dX12_pushed_0 rfl ?_
    refine r_bipush (v := 31) F dX12_pushed_1 (by decide) ?_
    refine r_icmp_ne (tgt := 19) F dX12_pushed_3 (by decide) (fun _ => ?_) (fun h9 => absurd h9 (by rw [show (31 : Int32) = nI 31 from rfl, nI_eq (by omega) (by omega)]; omega))
    refine r_iload_n F dX12_pushed_19 rfl ?_
    refine r_bipush (v := 32) F dX12_pushed_20 (by decide) ?_
    refine r_icmp_ne (tgt := 29) F dX12_pushed_22 (by decide) (fun _ => ?_) (fun h9 => absurd h9 (by rw [show (32 : Int32) = nI 32 from rfl, nI_eq (by omega) (by omega)]; omega))
    refine r_iload_n F dX12_pushed_29 rfl ?_
    refine r_iconst (v := 2) F dX12_pushed_30 (by decide) ?_
    refine r_icmp_eq (tgt := 64) F dX12_pushed_31 (by decide) (fun h9 => absurd h9 (by rw [show (2 : Int32) = nI 2 from rfl, nI_eq (by omega) (by omega)]; omega)) (fun _ => ?_)
    refine r_iload_n F dX12_pushed_34 rfl ?_
    refine r_bipush (v := 18) F dX12_pushed_35 (by decide) ?_
    refine r_icmp_eq (tgt := 64) F dX12_pushed_37 (by decide) (fun h9 => absurd h9 (by rw [show (18 : Int32) = nI 18 from rfl, nI_eq (by omega) (by omega)]; omega)) (fun _ => ?_)
    refine r_iload_n F dX12_pushed_40 rfl ?_
    refine r_bipush (v := 20) F dX12_pushed_41 (by decide) ?_
    refine r_icmp_eq (tgt := 64) F dX12_pushed_43 (by decide) (fun h9 => absurd h9 (by rw [show (20 : Int32) = nI 20 from rfl, nI_eq (by omega) (by omega)]; omega)) (fun _ => ?_)
    refine r_iload_n F dX12_pushed_46 rfl ?_
    refine r_bipush (v := 22) F dX12_pushed_47 (by decide) ?_
    refine r_icmp_eq (tgt := 64) F dX12_pushed_49 (by decide) (fun h9 => absurd h9 (by rw [show (22 : Int32) = nI 22 from rfl, nI_eq (by omega) (by omega)]; omega)) (fun _ => ?_)
    refine r_iload_n F dX12_pushed_52 rfl ?_
    refine r_bipush (v := 23) F dX12_pushed_53 (by decide) ?_
    refine r_icmp_lt (tgt := 68) F dX12_pushed_55 (by decide) (fun h9 => absurd h9 (by rw [show (23 : Int32) = nI 23 from rfl, nI_ltI (by omega) (by omega)]; omega)) (fun _ => ?_)
    refine r_iload_n F dX12_pushed_58 rfl ?_
    refine r_bipush (v := 30) F dX12_pushed_59 (by decide) ?_
    refine r_icmp_gt (tgt := 68) F dX12_pushed_61 (by decide) (fun h9 => absurd h9 (by rw [show (30 : Int32) = nI 30 from rfl, nI_ltI (by omega) (by omega)]; omega)) (fun _ => ?_)
    refine r_iconst (v := 0) F dX12_pushed_64 (by decide) ?_
    refine r_goto (tgt := 69) F dX12_pushed_65 (by decide) ?_
    exact e_iret F hr hlk ⟨by unfold pu; rw [if_neg (show ¬ w = 31 by omega), if_neg (show ¬ w = 32 by omega)]; exact (show ∀ w : Nat, w < 36 → ((23 ≤ w ∧ w ≤ 30)) → _ = nI (puTb.getD w 0) from by decide) w hw hg, rfl⟩ (by decide) (by decide) dX12_pushed_69
  · refine r_iload_n F dX12_pushed_0 rfl ?_
    refine r_bipush (v := 31) F dX12_pushed_1 (by decide) ?_
    refine r_icmp_ne (tgt := 19) F dX12_pushed_3 (by decide) (fun h9 => absurd (by rw [show (31 : Int32) = nI 31 from rfl, nI_eq (by omega) (by omega)]; omega) h9) (fun _ => ?_)
    refine r_aload_n F dX12_pushed_6 rfl ?_
    refine r_bipush (v := 16) F dX12_pushed_7 (by decide) ?_
    refine r_iload_n F dX12_pushed_9 rfl ?_
    refine r_imul F dX12_pushed_10 ?_
    refine r_iload_n F dX12_pushed_11 rfl ?_
    refine r_iadd F dX12_pushed_12 ?_
    obtain ⟨j, ej, hj⟩ := h31 (by omega)
    subst ej
    have hy2 := (rg_1204 hv (k := o) ho).2
    have hT : (16 * o + j) % 16 < cn v 1204 ((16 * o + j) / 16) := by rw [show (16 * o + j) / 16 = o by omega]; omega
    rw [show (16 : Int32) * nI o + nI j = nI (16 * o + j) by rw [nl16, nI_mul, nI_add]]
    refine c_Vi (ci := 12) F G (mm_signature hS (y := 16 * o + j) hv hA hD (by omega) hT) (cwV 1 F.2.2.2.2 (zgV km_X12_168 ki_X12_signature ke_X12_X12_signature kn_X12 ko_X12_signature) rfl rfl rfl ⟨rfl, hd_yX12_signature⟩ ⟨Nat.le_of_ble_eq_true rfl, Nat.le_of_ble_eq_true rfl⟩) rfl (by decide) hS.al rfl rfl (Nat.le_of_ble_eq_true rfl) dX12_pushed_13 ⟨Nat.le_of_ble_eq_true rfl, Nat.le_of_ble_eq_true rfl⟩ (fun r13 S13 h13 => ?_)
    obtain ⟨a13, e13⟩ := h13
    have hs13 := e13.symm
    subst hs13
    subst a13
    have hsl := sg_le hv hD (y := 16 * o + j) (by omega) hT
    refine r_iconst (v := 2) F dX12_pushed_16 (by decide) ?_
    refine r_irem F dX12_pushed_17 (by decide) ?_
    exact e_iret F hr hlk ⟨by unfold pu; rw [if_pos (show w = 31 by omega), nI_clamp (by omega), nl2]; exact nI_mod (by omega) (by omega), rfl⟩ (by decide) (by decide) dX12_pushed_18
  · refine r_iload_n F dX12_pushed_0 rfl ?_
    refine r_bipush (v := 31) F dX12_pushed_1 (by decide) ?_
    refine r_icmp_ne (tgt := 19) F dX12_pushed_3 (by decide) (fun _ => ?_) (fun h9 => absurd h9 (by rw [show (31 : Int32) = nI 31 from rfl, nI_eq (by omega) (by omega)]; omega))
    refine r_iload_n F dX12_pushed_19 rfl ?_
    refine r_bipush (v := 32) F dX12_pushed_20 (by decide) ?_
    refine r_icmp_ne (tgt := 29) F dX12_pushed_22 (by decide) (fun h9 => absurd (by rw [show (32 : Int32) = nI 32 from rfl, nI_eq (by omega) (by omega)]; omega) h9) (fun _ => ?_)
    refine r_iload_n F dX12_pushed_25 rfl ?_
    refine r_iconst (v := 2) F dX12_pushed_26 (by decide) ?_
    refine r_irem F dX12_pushed_27 (by decide) ?_
    obtain ⟨j, ej, hj⟩ := h32 (by omega)
    subst ej
    exact e_iret F hr hlk ⟨by unfold pu; rw [if_neg (show ¬ w = 31 by omega), if_pos (show w = 32 by omega), nI_clamp (by omega), nl2]; exact nI_mod (by omega) (by omega), rfl⟩ (by decide) (by decide) dX12_pushed_28
  · refine r_iload_n F dX12_pushed_0 rfl ?_
    refine r_bipush (v := 31) F dX12_pushed_1 (by decide) ?_
    refine r_icmp_ne (tgt := 19) F dX12_pushed_3 (by decide) (fun _ => ?_) (fun h9 => absurd h9 (by rw [show (31 : Int32) = nI 31 from rfl, nI_eq (by omega) (by omega)]; omega))
    refine r_iload_n F dX12_pushed_19 rfl ?_
    refine r_bipush (v := 32) F dX12_pushed_20 (by decide) ?_
    refine r_icmp_ne (tgt := 29) F dX12_pushed_22 (by decide) (fun _ => ?_) (fun h9 => absurd h9 (by rw [show (32 : Int32) = nI 32 from rfl, nI_eq (by omega) (by omega)]; omega))
    refine r_iload_n F dX12_pushed_29 rfl ?_
    refine r_iconst (v := 2) F dX12_pushed_30 (by decide) ?_
    refine r_icmp_eq (tgt := 64) F dX12_pushed_31 (by decide) (fun h9 => absurd h9 (by rw [show (2 : Int32) = nI 2 from rfl, nI_eq (by omega) (by omega)]; omega)) (fun _ => ?_)
    refine r_iload_n F dX12_pushed_34 rfl ?_
    refine r_bipush (v := 18) F dX12_pushed_35 (by decide) ?_
    refine r_icmp_eq (tgt := 64) F dX12_pushed_37 (by decide) (fun h9 => absurd h9 (by rw [show (18 : Int32) = nI 18 from rfl, nI_eq (by omega) (by omega)]; omega)) (fun _ => ?_)
    refine r_iload_n F dX12_pushed_40 rfl ?_
    refine r_bipush (v := 20) F dX12_pushed_41 (by decide) ?_
    refine r_icmp_eq (tgt := 64) F dX12_pushed_43 (by decide) (fun h9 => absurd h9 (by rw [show (20 : Int32) = nI 20 from rfl, nI_eq (by omega) (by omega)]; omega)) (fun _ => ?_)
    refine r_iload_n F dX12_pushed_46 rfl ?_
    refine r_bipush (v := 22) F dX12_pushed_47 (by decide) ?_
    refine r_icmp_eq (tgt := 64) F dX12_pushed_49 (by decide) (fun h9 => absurd h9 (by rw [show (22 : Int32) = nI 22 from rfl, nI_eq (by omega) (by omega)]; omega)) (fun _ => ?_)
    refine r_iload_n F dX12_pushed_52 rfl ?_
    refine r_bipush (v := 23) F dX12_pushed_53 (by decide) ?_
    refine r_icmp_lt (tgt := 68) F dX12_pushed_55 (by decide) (fun h9 => absurd h9 (by rw [show (23 : Int32) = nI 23 from rfl, nI_ltI (by omega) (by omega)]; omega)) (fun _ => ?_)
    refine r_iload_n F dX12_pushed_58 rfl ?_
    refine r_bipush (v := 30) F dX12_pushed_59 (by decide) ?_
    refine r_icmp_gt (tgt := 68) F dX12_pushed_61 (by decide) (fun _ => ?_) (fun h9 => absurd (by rw [show (30 : Int32) = nI 30 from rfl, nI_ltI (by omega) (by omega)]; omega) h9)
    refine r_iconst (v := 1) F dX12_pushed_68 (by decide) ?_
    exact e_iret F hr hlk ⟨by unfold pu; rw [if_neg (show ¬ w = 31 by omega), if_neg (show ¬ w = 32 by omega)]; exact (show ∀ w : Nat, w < 36 → ((33 ≤ w ∧ w ≤ 35)) → _ = nI (puTb.getD w 0) from by decide) w hw hg, rfl⟩ (by decide) (by decide) dX12_pushed_69
