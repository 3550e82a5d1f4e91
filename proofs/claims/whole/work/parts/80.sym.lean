section ZCT
variable {p : Program} {l : Launch} {e : Env} {R : Room} {s : State} {m : MethodId} {args : Array Value} {below : List Frame} {meth : Method} {c : Code} {Q : State → Prop} {N0 : Nat} {D : va_G} {cy : Nat → ClassId} {nL cells slots : Nat} {S : zS} {lv : List (Nat × Value)} {pc : Nat} {st : List Value}
/-- ways that meet -/
theorem z_cut (J : zS → List (Nat × Value) → Prop) (pc2 : Nat) (tail : ∀ S lv, J S lv → zW p l e R s m args below meth c Q N0 D cy nL cells slots S lv pc2 []) (main : (∀ S lv, J S lv → zW p l e R s m args below meth c Q N0 D cy nL cells slots S lv pc2 []) → zW p l e R s m args below meth c Q N0 D cy nL cells slots S lv pc st) : zW p l e R s m args below meth c Q N0 D cy nL cells slots S lv pc st := main tail
/-- fewer locals -/
theorem zsub {lv' : List (Nat × Value)} (h : ∀ q ∈ lv', q ∈ lv) (k : zW p l e R s m args below meth c Q N0 D cy nL cells slots S lv' pc st) : zW p l e R s m args below meth c Q N0 D cy nL cells slots S lv pc st := fun H locs ls hP hD hS hl => k H locs ls hP hD hS ⟨hl.1, hl.2.1, fun q hq => hl.2.2 q (h q hq)⟩
end ZCT
/-- the first below n -/
def fnd (P : Nat → Bool) : Nat → Option Nat
  | 0 => none
  | n + 1 => match fnd P n with
    | some x => some x
    | none => if P n then some n else none
theorem fnd_s {P : Nat → Bool} {n x : Nat} (h : fnd P n = some x) : fnd P (n + 1) = some x := by
  show (match fnd P n with | some x => some x | none => if P n then some n else none) = _
  rw [h]
theorem fnd_n {P : Nat → Bool} {n : Nat} (h : fnd P n = none) (hP : P n = false) : fnd P (n + 1) = none := by
  show (match fnd P n with | some x => some x | none => if P n then some n else none) = _
  rw [h, hP]
  rfl
theorem fnd_t {P : Nat → Bool} {n : Nat} (h : fnd P n = none) (hP : P n = true) : fnd P (n + 1) = some n := by
  show (match fnd P n with | some x => some x | none => if P n then some n else none) = _
  rw [h, hP]
  rfl
theorem fnd_f {P : Nat → Bool} {n : Nat} (hP : P n = false) : fnd P (n + 1) = fnd P n := by
  cases h : fnd P n with
  | none => exact fnd_n h hP
  | some x => exact fnd_s h
theorem fnd_up {P : Nat → Bool} {a b : Nat} (hab : a ≤ b) (h : ∀ x, a ≤ x → x < b → P x = false) : fnd P b = fnd P a := by
  induction b with
  | zero => rw [Nat.le_zero.mp hab]
  | succ b ih =>
    rcases Nat.lt_or_ge a (b + 1) with h1 | h1
    · rw [fnd_f (h b (by omega) (by omega)), ih (by omega) (fun x h2 h3 => h x h2 (by omega))]
    · rw [show a = b + 1 by omega]
theorem fnd_iff {P : Nat → Bool} {n x : Nat} : fnd P n = some x ↔ x < n ∧ P x = true ∧ ∀ y, y < x → P y = false := by
  induction n generalizing x with
  | zero => exact ⟨fun h => (by cases h), fun h => absurd h.1 (Nat.not_lt_zero x)⟩
  | succ n ih =>
    constructor
    · intro h
      cases hn : fnd P n with
      | some z =>
        rw [fnd_s hn] at h
        cases h
        have := ih.mp hn
        exact ⟨by omega, this.2⟩
      | none =>
        cases hp : P n with
        | false => rw [fnd_n hn hp] at h; cases h
        | true =>
          rw [fnd_t hn hp] at h
          cases h
          refine ⟨by omega, hp, fun y hy => ?_⟩
          cases hy2 : P y with
          | false => rfl
          | true =>
            exfalso
            have key : ∀ k, k ≤ n → fnd P k = none := fun k hk => by
              cases hf : fnd P k with
              | none => rfl
              | some w =>
                exfalso
                have : ∀ j, fnd P (k + j) = some w := fun j => by
                  induction j with
                  | zero => exact hf
                  | succ j ihj => exact fnd_s ihj
                have h9 := this (n - k)
                rw [show k + (n - k) = n by omega, hn] at h9
                cases h9
            have h1 := fnd_t (key y (by omega)) hy2
            rw [key (y + 1) (by omega)] at h1
            cases h1
    · rintro ⟨h1, h2, h3⟩
      rcases Nat.lt_or_ge x n with h | h
      · exact fnd_s (ih.mpr ⟨h, h2, h3⟩)
      · have e : x = n := by omega
        subst e
        refine fnd_t ?_ h2
        cases hn : fnd P x with
        | none => rfl
        | some z =>
          have := ih.mp hn
          rw [h3 z this.1] at this
          exact absurd this.2.1 (by decide)
theorem fnd_none {P : Nat → Bool} {n : Nat} : fnd P n = none ↔ ∀ x, x < n → P x = false := by
  constructor
  · intro h x hx
    induction n with
    | zero => exact absurd hx (Nat.not_lt_zero x)
    | succ n ih =>
      cases hn : fnd P n with
      | some z => rw [fnd_s hn] at h; cases h
      | none =>
        cases hp : P n with
        | true => rw [fnd_t hn hp] at h; cases h
        | false =>
          rcases Nat.lt_or_ge x n with h1 | h1
          · exact ih hn h1
          · rw [show x = n by omega]; exact hp
  · intro h
    induction n with
    | zero => rfl
    | succ n ih => exact fnd_n (ih (fun x hx => h x (by omega))) (h n (by omega))
/-- a place, or none, as an int -/
def enc : Option Nat → Int32
  | none => -1
  | some x => nI x
abbrev gSy (v : zV) (o n k b d f : Int32) : Prop := gO v o ∧ pIn n 0 30 ∧ pIn k 0 1 ∧ pIn b 0 2 ∧ (¬ d = -1 → (k = 0 → gT v 1202 o d) ∧ (¬ k = 0 → gT v 1203 o d)) ∧ (k = 0 → d = -1 → pIn f 0 9) ∧ (k = 0 → ¬ d = -1 → pIn f 0 0) ∧ (¬ k = 0 → d = -1 → pIn f 0 0) ∧ (¬ k = 0 → ¬ d = -1 → ∀ i j, i < 6 → j < 4 → o = nI i → d = nI j → pIn f 0 (v.1 1211 (4 * i + j)))
set_option maxRecDepth 100000 in
set_option maxHeartbeats 4000000 in
theorem mm_symbol {l : Launch} {N0 t0 : Nat} {D : va_G} {cy : Nat → ClassId} {S : zS} {S0 : zS} {g : Nat} {qa : Nat → Nat} {v : zV} (hS : zmR S0 g qa v S) {o n k b d f : Int32} (hv : vRg v) : zMi l yX12_symbol (zws yX12_symbol cX12_symbol 9 (some .int)) { frames := 3, cells := 0, slots := 0, locals := 80 } N0 t0 D cy S [.ref g, .int o, .int n, .int k, .int b, .int d, .int f] (fun r S' => (¬ gSy v o n k b d f ∧ r = 0 ∧ zmR S0 g qa (u1 v 1200 0 1) S') ∨ (gSy v o n k b d f ∧ ∃ i, i < cn v 1201 0 ∧ o = nI i ∧ ((v.1 1204 i = 16 ∧ r = 0 ∧ zmR S0 g qa (u1 v 1200 0 2) S') ∨ (¬ v.1 1204 i = 16 ∧ r = v.1 1204 i ∧ zmR S0 g qa (vSym v i n k b d f) S')))) 0 0 := by
  refine zMi.of (cc := cX12_symbol) (maxL := 9) (ret := (some .int)) (by decide) rfl (Nat.le_of_ble_eq_true rfl) ?_
  intro p e s m args below meth c F G hr hlk hnm
  refine z_cut (fun S9 lv9 => S = S9 ∧ ∃ r7 : Int32, zbo r7 (gSy v o n k b d f) ∧ lv9 = (7, .int r7) :: [(0, .ref g), (1, .int o), (2, .int n), (3, .int k), (4, .int b), (5, .int d), (6, .int f)]) 137 ?_ (fun tail => ?_)
  · rintro S9 lv9 ⟨rfl, r7, hz, rfl⟩
    refine r_aload_n F dX12_symbol_137 rfl ?_
    refine r_iload F dX12_symbol_138 rfl ?_
    refine r_if_ne (tgt := 147) F dX12_symbol_140 (by decide) (fun c140 => ?_) (fun c140 => ?_)
    · obtain ⟨i, hi, ei⟩ := (hz.t c140).1
      have hn := rg_1201 hv (k := 0) (by decide)
      have hi6 : i < 6 := by have := hn.2; omega
      have hf := rg_1204 hv hi6
      subst ei
      refine r_aload_n F dX12_symbol_147 rfl ?_
      refine gq_symbols F G hS dX12_symbol_148 ?_
      refine r_iload_n F dX12_symbol_151 rfl ?_
      refine al_symbols F G hS (i) rfl hi6 dX12_symbol_152 ?_
      refine r_bipush (v := 16) F dX12_symbol_153 (by decide) ?_
      refine r_icmp_ne (tgt := 162) F dX12_symbol_155 (by decide) (fun c155 => ?_) (fun c155 => ?_)
      · refine r_iconst (v := 0) F dX12_symbol_162 (by decide) ?_
        refine pi_code F G hS dX12_symbol_163 (fun S hS => ?_)
        refine r_aload_n F dX12_symbol_166 rfl ?_
        refine gi_code F G hS dX12_symbol_167 ?_
        refine r_if_le (tgt := 175) F dX12_symbol_170 (by decide) (fun _ => ?_) (fun h9 => absurd (show (0 : Int32) ≤ 0 by decide) h9)
        have h16 : cn v 1204 i < 16 := by
          rcases Nat.lt_or_ge (cn v 1204 i) 16 with h | h
          · exact h
          · exact absurd (by rw [hf.1, show cn v 1204 i = 16 by have := hf.2; omega]; rfl) c155
        refine r_aload_n F dX12_symbol_175 rfl ?_
        refine r_iconst (v := 0) F dX12_symbol_176 (by decide) ?_
        refine pi_linked F G hS (by decide) dX12_symbol_177 (fun S hS => ?_)
        refine r_bipush (v := 16) F dX12_symbol_180 (by decide) ?_
        refine r_iload_n F dX12_symbol_182 rfl ?_
        refine r_imul F dX12_symbol_183 ?_
        refine r_aload_n F dX12_symbol_184 rfl ?_
        refine gq_symbols F G hS dX12_symbol_185 ?_
        refine r_iload_n F dX12_symbol_188 rfl ?_
        refine al_symbols F G hS (i) rfl hi6 dX12_symbol_189 ?_
        refine r_iadd F dX12_symbol_190 ?_
        refine r_istore F dX12_symbol_191 (by decide) ?_
        refine r_aload_n F dX12_symbol_193 rfl ?_
        refine gq_name F G hS dX12_symbol_194 ?_
        refine r_iload F dX12_symbol_197 rfl ?_
        refine r_iload_n F dX12_symbol_199 rfl ?_
        refine as_name F G hS (16 * i + cn v 1204 i) (show (16 : Int32) * nI i + v.1 1204 i = _ by rw [hf.1, nl16, nI_mul, nI_add]) (by omega) dX12_symbol_200 (fun S hS => ?_)
        refine r_aload_n F dX12_symbol_201 rfl ?_
        refine gq_kind F G hS dX12_symbol_202 ?_
        refine r_iload F dX12_symbol_205 rfl ?_
        refine r_iload_n F dX12_symbol_207 rfl ?_
        refine as_kind F G hS (16 * i + cn v 1204 i) (show (16 : Int32) * nI i + v.1 1204 i = _ by rw [hf.1, nl16, nI_mul, nI_add]) (by omega) dX12_symbol_208 (fun S hS => ?_)
        refine r_aload_n F dX12_symbol_209 rfl ?_
        refine gq_binding F G hS dX12_symbol_210 ?_
        refine r_iload F dX12_symbol_213 rfl ?_
        refine r_iload F dX12_symbol_215 rfl ?_
        refine as_binding F G hS (16 * i + cn v 1204 i) (show (16 : Int32) * nI i + v.1 1204 i = _ by rw [hf.1, nl16, nI_mul, nI_add]) (by omega) dX12_symbol_217 (fun S hS => ?_)
        refine r_aload_n F dX12_symbol_218 rfl ?_
        refine gq_defines F G hS dX12_symbol_219 ?_
        refine r_iload F dX12_symbol_222 rfl ?_
        refine r_iload F dX12_symbol_224 rfl ?_
        refine as_defines F G hS (16 * i + cn v 1204 i) (show (16 : Int32) * nI i + v.1 1204 i = _ by rw [hf.1, nl16, nI_mul, nI_add]) (by omega) dX12_symbol_226 (fun S hS => ?_)
        refine r_aload_n F dX12_symbol_227 rfl ?_
        refine gq_offset F G hS dX12_symbol_228 ?_
        refine r_iload F dX12_symbol_231 rfl ?_
        refine r_iload F dX12_symbol_233 rfl ?_
        refine as_offset F G hS (16 * i + cn v 1204 i) (show (16 : Int32) * nI i + v.1 1204 i = _ by rw [hf.1, nl16, nI_mul, nI_add]) (by omega) dX12_symbol_235 (fun S hS => ?_)
        refine r_aload_n F dX12_symbol_236 rfl ?_
        refine gq_symbols F G hS dX12_symbol_237 ?_
        refine r_iload_n F dX12_symbol_240 rfl ?_
        first | refine r_dup2_11 F dX12_symbol_241 rfl rfl ?_ | refine r_dup2_2 F dX12_symbol_241 rfl ?_
        refine al_symbols F G hS (i) rfl hi6 dX12_symbol_242 ?_
        refine r_iconst (v := 1) F dX12_symbol_243 (by decide) ?_
        refine r_iadd F dX12_symbol_244 ?_
        refine as_symbols F G hS (i) rfl hi6 dX12_symbol_245 (fun S hS => ?_)
        refine r_aload_n F dX12_symbol_246 rfl ?_
        refine gq_symbols F G hS dX12_symbol_247 ?_
        refine r_iload_n F dX12_symbol_250 rfl ?_
        refine al_symbols F G hS (i) rfl hi6 dX12_symbol_251 ?_
        refine r_iconst (v := 1) F dX12_symbol_252 (by decide) ?_
        refine r_isub F dX12_symbol_253 ?_
        exact e_iret F hr hlk (Or.inr ⟨hz.t c140, i, hi, rfl, Or.inr ⟨c155, (show z2 _ 1204 i (v.1 1204 i + 1) 1204 i - 1 = v.1 1204 i by rw [z2_s]; exact Int32.add_sub_cancel _ _), hS⟩⟩) (by decide) (by decide) dX12_symbol_254
      · refine r_iconst (v := 2) F dX12_symbol_158 (by decide) ?_
        refine r_goto (tgt := 163) F dX12_symbol_159 (by decide) ?_
        refine pi_code F G hS dX12_symbol_163 (fun S hS => ?_)
        refine r_aload_n F dX12_symbol_166 rfl ?_
        refine gi_code F G hS dX12_symbol_167 ?_
        refine r_if_le (tgt := 175) F dX12_symbol_170 (by decide) (fun h9 => absurd h9 (show ¬ (2 : Int32) ≤ 0 by decide)) (fun _ => ?_)
        refine r_iconst (v := 0) F dX12_symbol_173 (by decide) ?_
        exact e_iret F hr hlk (Or.inr ⟨hz.t c140, i, hi, rfl, Or.inl ⟨c155, rfl, hS⟩⟩) (by decide) (by decide) dX12_symbol_174
    · refine r_iconst (v := 1) F dX12_symbol_143 (by decide) ?_
      refine r_goto (tgt := 163) F dX12_symbol_144 (by decide) ?_
      refine pi_code F G hS dX12_symbol_163 (fun S hS => ?_)
      refine r_aload_n F dX12_symbol_166 rfl ?_
      refine gi_code F G hS dX12_symbol_167 ?_
      refine r_if_le (tgt := 175) F dX12_symbol_170 (by decide) (fun h9 => absurd h9 (show ¬ (1 : Int32) ≤ 0 by decide)) (fun _ => ?_)
      refine r_iconst (v := 0) F dX12_symbol_173 (by decide) ?_
      exact e_iret F hr hlk (Or.inl ⟨hz.f c140, rfl, hS⟩) (by decide) (by decide) dX12_symbol_174
  · refine r_aload_n F dX12_symbol_0 rfl ?_
    refine r_iload_n F dX12_symbol_1 rfl ?_
    refine c_Vi (ci := 12) F G (mm_isObject hS hv) (cwV 1 F.2.2.2.2 (zgV km_X12_130 ki_X12_isObject ke_X12_X12_isObject kn_X12 ko_X12_isObject) rfl rfl rfl ⟨rfl, hd_yX12_isObject⟩ ⟨Nat.le_of_ble_eq_true rfl, Nat.le_of_ble_eq_true rfl⟩) rfl (by decide) hS.al rfl rfl (Nat.le_of_ble_eq_true rfl) dX12_symbol_2 ⟨Nat.le_of_ble_eq_true rfl, Nat.le_of_ble_eq_true rfl⟩ (fun r2 S2 h2 => ?_)
    obtain ⟨a2, e2⟩ := h2
    have hs2 := e2.symm
    subst hs2
    refine r_if_eq (tgt := 41) F dX12_symbol_5 (by decide) (fun c5 => ?_) (fun c5 => ?_)
    · refine r_iconst (v := 0) F dX12_symbol_41 (by decide) ?_
      refine r_istore F dX12_symbol_42 (by decide) ?_
      refine r_iload F dX12_symbol_44 rfl ?_
      refine r_if_eq (tgt := 78) F dX12_symbol_46 (by decide) (fun _ => ?_) (fun h9 => absurd rfl h9)
      refine r_iload F dX12_symbol_78 rfl ?_
      refine r_if_eq (tgt := 137) F dX12_symbol_80 (by decide) (fun _ => ?_) (fun h9 => absurd rfl h9)
      exact tail _ _ ⟨rfl, _, zbo.n (fun h => a2.f c5 h.1), rfl⟩
    · refine r_iload_n F dX12_symbol_8 rfl ?_
      refine r_iconst (v := 0) F dX12_symbol_9 (by decide) ?_
      refine r_bipush (v := 30) F dX12_symbol_10 (by decide) ?_
      refine c_Si F G (mm_isIn _ _ _) (va_cwS 3 F.2.2.2.2 (zgS km_X12_126 ks_X12_isIn kn_X12 ko_X12_isIn) rfl rfl rfl hd_yX12_isIn ⟨Nat.le_of_ble_eq_true rfl, Nat.le_of_ble_eq_true rfl⟩) rfl rfl (Nat.le_of_ble_eq_true rfl) dX12_symbol_12 ⟨Nat.le_of_ble_eq_true rfl, Nat.le_of_ble_eq_true rfl⟩ (fun r12 S12 h12 => ?_)
      obtain ⟨a12, e12⟩ := h12
      have hs12 := e12.symm
      subst hs12
      refine r_if_eq (tgt := 41) F dX12_symbol_15 (by decide) (fun c15 => ?_) (fun c15 => ?_)
      · refine r_iconst (v := 0) F dX12_symbol_41 (by decide) ?_
        refine r_istore F dX12_symbol_42 (by decide) ?_
        refine r_iload F dX12_symbol_44 rfl ?_
        refine r_if_eq (tgt := 78) F dX12_symbol_46 (by decide) (fun _ => ?_) (fun h9 => absurd rfl h9)
        refine r_iload F dX12_symbol_78 rfl ?_
        refine r_if_eq (tgt := 137) F dX12_symbol_80 (by decide) (fun _ => ?_) (fun h9 => absurd rfl h9)
        exact tail _ _ ⟨rfl, _, zbo.n (fun h => a12.f c15 h.2.1), rfl⟩
      · refine r_iload_n F dX12_symbol_18 rfl ?_
        refine r_iconst (v := 0) F dX12_symbol_19 (by decide) ?_
        refine r_iconst (v := 1) F dX12_symbol_20 (by decide) ?_
        refine c_Si F G (mm_isIn _ _ _) (va_cwS 3 F.2.2.2.2 (zgS km_X12_126 ks_X12_isIn kn_X12 ko_X12_isIn) rfl rfl rfl hd_yX12_isIn ⟨Nat.le_of_ble_eq_true rfl, Nat.le_of_ble_eq_true rfl⟩) rfl rfl (Nat.le_of_ble_eq_true rfl) dX12_symbol_21 ⟨Nat.le_of_ble_eq_true rfl, Nat.le_of_ble_eq_true rfl⟩ (fun r21 S21 h21 => ?_)
        obtain ⟨a21, e21⟩ := h21
        have hs21 := e21.symm
        subst hs21
        refine r_if_eq (tgt := 41) F dX12_symbol_24 (by decide) (fun c24 => ?_) (fun c24 => ?_)
        · refine r_iconst (v := 0) F dX12_symbol_41 (by decide) ?_
          refine r_istore F dX12_symbol_42 (by decide) ?_
          refine r_iload F dX12_symbol_44 rfl ?_
          refine r_if_eq (tgt := 78) F dX12_symbol_46 (by decide) (fun _ => ?_) (fun h9 => absurd rfl h9)
          refine r_iload F dX12_symbol_78 rfl ?_
          refine r_if_eq (tgt := 137) F dX12_symbol_80 (by decide) (fun _ => ?_) (fun h9 => absurd rfl h9)
          exact tail _ _ ⟨rfl, _, zbo.n (fun h => a21.f c24 h.2.2.1), rfl⟩
        · refine r_iload F dX12_symbol_27 rfl ?_
          refine r_iconst (v := 0) F dX12_symbol_29 (by decide) ?_
          refine r_iconst (v := 2) F dX12_symbol_30 (by decide) ?_
          refine c_Si F G (mm_isIn _ _ _) (va_cwS 3 F.2.2.2.2 (zgS km_X12_126 ks_X12_isIn kn_X12 ko_X12_isIn) rfl rfl rfl hd_yX12_isIn ⟨Nat.le_of_ble_eq_true rfl, Nat.le_of_ble_eq_true rfl⟩) rfl rfl (Nat.le_of_ble_eq_true rfl) dX12_symbol_31 ⟨Nat.le_of_ble_eq_true rfl, Nat.le_of_ble_eq_true rfl⟩ (fun r31 S31 h31 => ?_)
          obtain ⟨a31, e31⟩ := h31
          have hs31 := e31.symm
          subst hs31
          refine r_if_eq (tgt := 41) F dX12_symbol_34 (by decide) (fun c34 => ?_) (fun c34 => ?_)
          · refine r_iconst (v := 0) F dX12_symbol_41 (by decide) ?_
            refine r_istore F dX12_symbol_42 (by decide) ?_
            refine r_iload F dX12_symbol_44 rfl ?_
            refine r_if_eq (tgt := 78) F dX12_symbol_46 (by decide) (fun _ => ?_) (fun h9 => absurd rfl h9)
            refine r_iload F dX12_symbol_78 rfl ?_
            refine r_if_eq (tgt := 137) F dX12_symbol_80 (by decide) (fun _ => ?_) (fun h9 => absurd rfl h9)
            exact tail _ _ ⟨rfl, _, zbo.n (fun h => a31.f c34 h.2.2.2.1), rfl⟩
          · refine r_iconst (v := 1) F dX12_symbol_37 (by decide) ?_
            refine r_goto (tgt := 42) F dX12_symbol_38 (by decide) ?_
            refine r_istore F dX12_symbol_42 (by decide) ?_
            refine r_iload F dX12_symbol_44 rfl ?_
            refine r_if_eq (tgt := 78) F dX12_symbol_46 (by decide) (fun h9 => absurd h9 (by decide)) (fun _ => ?_)
            refine r_iload F dX12_symbol_49 rfl ?_
            refine r_iconst (v := -1) F dX12_symbol_51 (by decide) ?_
            refine r_icmp_eq (tgt := 78) F dX12_symbol_52 (by decide) (fun c52 => ?_) (fun c52 => ?_)
            · refine r_iload F dX12_symbol_78 rfl ?_
              refine r_if_eq (tgt := 137) F dX12_symbol_80 (by decide) (fun h9 => absurd h9 (by decide)) (fun _ => ?_)
              refine r_iload_n F dX12_symbol_83 rfl ?_
              refine r_if_ne (tgt := 108) F dX12_symbol_84 (by decide) (fun c84 => ?_) (fun c84 => ?_)
              · refine r_iload F dX12_symbol_108 rfl ?_
                refine r_iconst (v := 0) F dX12_symbol_110 (by decide) ?_
                refine r_iload F dX12_symbol_111 rfl ?_
                refine r_iconst (v := -1) F dX12_symbol_113 (by decide) ?_
                refine r_icmp_ne (tgt := 121) F dX12_symbol_114 (by decide) (fun c114 => ?_) (fun c114 => ?_)
                · exact absurd c52 c114
                · refine r_iconst (v := 0) F dX12_symbol_117 (by decide) ?_
                  refine r_goto (tgt := 132) F dX12_symbol_118 (by decide) ?_
                  refine c_Si F G (mm_isIn _ _ _) (va_cwS 3 F.2.2.2.2 (zgS km_X12_126 ks_X12_isIn kn_X12 ko_X12_isIn) rfl rfl rfl hd_yX12_isIn ⟨Nat.le_of_ble_eq_true rfl, Nat.le_of_ble_eq_true rfl⟩) rfl rfl (Nat.le_of_ble_eq_true rfl) dX12_symbol_132 ⟨Nat.le_of_ble_eq_true rfl, Nat.le_of_ble_eq_true rfl⟩ (fun r132 S132 h132 => ?_)
                  obtain ⟨a132, e132⟩ := h132
                  have hs132 := e132.symm
                  subst hs132
                  refine r_istore F dX12_symbol_135 (by decide) ?_
                  exact tail _ _ ⟨rfl, _, a132.iff ⟨fun q => ⟨a2.t c5, a12.t c15, a21.t c24, a31.t c34, fun h9 => absurd c52 h9, fun h9 => absurd h9 c84, fun h9 => absurd h9 c84, fun _ _ => q, fun _ h9 => absurd c52 h9⟩, fun h => h.2.2.2.2.2.2.2.1 c84 c52⟩, rfl⟩
              · refine r_iload F dX12_symbol_87 rfl ?_
                refine r_iconst (v := 0) F dX12_symbol_89 (by decide) ?_
                refine r_iload F dX12_symbol_90 rfl ?_
                refine r_iconst (v := -1) F dX12_symbol_92 (by decide) ?_
                refine r_icmp_ne (tgt := 101) F dX12_symbol_93 (by decide) (fun c93 => ?_) (fun c93 => ?_)
                · refine r_iconst (v := 0) F dX12_symbol_101 (by decide) ?_
                  refine c_Si F G (mm_isIn _ _ _) (va_cwS 3 F.2.2.2.2 (zgS km_X12_126 ks_X12_isIn kn_X12 ko_X12_isIn) rfl rfl rfl hd_yX12_isIn ⟨Nat.le_of_ble_eq_true rfl, Nat.le_of_ble_eq_true rfl⟩) rfl rfl (Nat.le_of_ble_eq_true rfl) dX12_symbol_102 ⟨Nat.le_of_ble_eq_true rfl, Nat.le_of_ble_eq_true rfl⟩ (fun r102 S102 h102 => ?_)
                  obtain ⟨a102, e102⟩ := h102
                  have hs102 := e102.symm
                  subst hs102
                  refine r_goto (tgt := 135) F dX12_symbol_105 (by decide) ?_
                  refine r_istore F dX12_symbol_135 (by decide) ?_
                  exact absurd c52 c93
                · refine r_bipush (v := 9) F dX12_symbol_96 (by decide) ?_
                  refine r_goto (tgt := 102) F dX12_symbol_98 (by decide) ?_
                  refine c_Si F G (mm_isIn _ _ _) (va_cwS 3 F.2.2.2.2 (zgS km_X12_126 ks_X12_isIn kn_X12 ko_X12_isIn) rfl rfl rfl hd_yX12_isIn ⟨Nat.le_of_ble_eq_true rfl, Nat.le_of_ble_eq_true rfl⟩) rfl rfl (Nat.le_of_ble_eq_true rfl) dX12_symbol_102 ⟨Nat.le_of_ble_eq_true rfl, Nat.le_of_ble_eq_true rfl⟩ (fun r102 S102 h102 => ?_)
                  obtain ⟨a102, e102⟩ := h102
                  have hs102 := e102.symm
                  subst hs102
                  refine r_goto (tgt := 135) F dX12_symbol_105 (by decide) ?_
                  refine r_istore F dX12_symbol_135 (by decide) ?_
                  exact tail _ _ ⟨rfl, _, a102.iff ⟨fun q => ⟨a2.t c5, a12.t c15, a21.t c24, a31.t c34, fun h9 => absurd c52 h9, fun _ _ => q, fun _ h9 => absurd c52 h9, fun h9 => absurd c84 h9, fun h9 => absurd c84 h9⟩, fun h => h.2.2.2.2.2.1 c84 c52⟩, rfl⟩
            · refine r_iload_n F dX12_symbol_55 rfl ?_
              refine r_if_ne (tgt := 69) F dX12_symbol_56 (by decide) (fun c56 => ?_) (fun c56 => ?_)
              · refine r_aload_n F dX12_symbol_69 rfl ?_
                refine r_iload_n F dX12_symbol_70 rfl ?_
                refine r_iload F dX12_symbol_71 rfl ?_
                refine c_Vi (ci := 12) F G (mm_isSegment hS hv) (cwV 2 F.2.2.2.2 (zgV km_X12_142 ki_X12_isSegment ke_X12_X12_isSegment kn_X12 ko_X12_isSegment) rfl rfl rfl ⟨rfl, hd_yX12_isSegment⟩ ⟨Nat.le_of_ble_eq_true rfl, Nat.le_of_ble_eq_true rfl⟩) rfl (by decide) hS.al rfl rfl (Nat.le_of_ble_eq_true rfl) dX12_symbol_73 ⟨Nat.le_of_ble_eq_true rfl, Nat.le_of_ble_eq_true rfl⟩ (fun r73 S73 h73 => ?_)
                obtain ⟨a73, e73⟩ := h73
                have hs73 := e73.symm
                subst hs73
                refine r_istore F dX12_symbol_76 (by decide) ?_
                refine r_iload F dX12_symbol_78 rfl ?_
                refine r_if_eq (tgt := 137) F dX12_symbol_80 (by decide) (fun c80 => ?_) (fun c80 => ?_)
                · exact tail _ _ ⟨rfl, r73, (by rw [c80]; exact zbo.n (fun h => a73.f c80 ((h.2.2.2.2.1 c52).2 c56))), rfl⟩
                · refine r_iload_n F dX12_symbol_83 rfl ?_
                  refine r_if_ne (tgt := 108) F dX12_symbol_84 (by decide) (fun c84 => ?_) (fun c84 => ?_)
                  · refine r_iload F dX12_symbol_108 rfl ?_
                    refine r_iconst (v := 0) F dX12_symbol_110 (by decide) ?_
                    refine r_iload F dX12_symbol_111 rfl ?_
                    refine r_iconst (v := -1) F dX12_symbol_113 (by decide) ?_
                    refine r_icmp_ne (tgt := 121) F dX12_symbol_114 (by decide) (fun c114 => ?_) (fun c114 => ?_)
                    · obtain ⟨i, j, hi, ei, hj, ej⟩ := a73.t c80
                      have hn := rg_1201 hv (k := 0) (by decide)
                      have hi6 : i < 6 := by have := hn.2; omega
                      have hj4 : j < 4 := by have := (rg_1203 hv hi6).2; omega
                      subst ei
                      subst ej
                      refine r_aload_n F dX12_symbol_121 rfl ?_
                      refine gq_size F G hS dX12_symbol_122 ?_
                      refine r_iconst (v := 4) F dX12_symbol_125 (by decide) ?_
                      refine r_iload_n F dX12_symbol_126 rfl ?_
                      refine r_imul F dX12_symbol_127 ?_
                      refine r_iload F dX12_symbol_128 rfl ?_
                      refine r_iadd F dX12_symbol_130 ?_
                      refine al_size F G hS (4 * i + j) (show (4 : Int32) * nI i + nI j = _ by rw [nl4, nI_mul, nI_add]) (by omega) dX12_symbol_131 ?_
                      refine c_Si F G (mm_isIn _ _ _) (va_cwS 3 F.2.2.2.2 (zgS km_X12_126 ks_X12_isIn kn_X12 ko_X12_isIn) rfl rfl rfl hd_yX12_isIn ⟨Nat.le_of_ble_eq_true rfl, Nat.le_of_ble_eq_true rfl⟩) rfl rfl (Nat.le_of_ble_eq_true rfl) dX12_symbol_132 ⟨Nat.le_of_ble_eq_true rfl, Nat.le_of_ble_eq_true rfl⟩ (fun r132 S132 h132 => ?_)
                      obtain ⟨a132, e132⟩ := h132
                      have hs132 := e132.symm
                      subst hs132
                      refine r_istore F dX12_symbol_135 (by decide) ?_
                      exact tail _ _ ⟨rfl, _, a132.iff ⟨fun q => ⟨a2.t c5, a12.t c15, a21.t c24, a31.t c34, fun _ => ⟨fun h9 => absurd h9 c84, fun _ => a73.t c80⟩, fun h9 => absurd h9 c84, fun h9 => absurd h9 c84, fun _ h9 => absurd h9 c52, fun _ _ i2 j2 hi2 hj2 q2 q3 => by have q4 := (nI_eq (by omega) (by omega)).mp q2; have q5 := (nI_eq (by omega) (by omega)).mp q3; subst q4; subst q5; exact q⟩, fun h => h.2.2.2.2.2.2.2.2 c84 c52 i j hi6 hj4 rfl rfl⟩, rfl⟩
                    · refine r_iconst (v := 0) F dX12_symbol_117 (by decide) ?_
                      refine r_goto (tgt := 132) F dX12_symbol_118 (by decide) ?_
                      refine c_Si F G (mm_isIn _ _ _) (va_cwS 3 F.2.2.2.2 (zgS km_X12_126 ks_X12_isIn kn_X12 ko_X12_isIn) rfl rfl rfl hd_yX12_isIn ⟨Nat.le_of_ble_eq_true rfl, Nat.le_of_ble_eq_true rfl⟩) rfl rfl (Nat.le_of_ble_eq_true rfl) dX12_symbol_132 ⟨Nat.le_of_ble_eq_true rfl, Nat.le_of_ble_eq_true rfl⟩ (fun r132 S132 h132 => ?_)
                      obtain ⟨a132, e132⟩ := h132
                      have hs132 := e132.symm
                      subst hs132
                      refine r_istore F dX12_symbol_135 (by decide) ?_
                      exact absurd c114 c52
                  · refine r_iload F dX12_symbol_87 rfl ?_
                    refine r_iconst (v := 0) F dX12_symbol_89 (by decide) ?_
                    refine r_iload F dX12_symbol_90 rfl ?_
                    refine r_iconst (v := -1) F dX12_symbol_92 (by decide) ?_
                    refine r_icmp_ne (tgt := 101) F dX12_symbol_93 (by decide) (fun c93 => ?_) (fun c93 => ?_)
                    · refine r_iconst (v := 0) F dX12_symbol_101 (by decide) ?_
                      refine c_Si F G (mm_isIn _ _ _) (va_cwS 3 F.2.2.2.2 (zgS km_X12_126 ks_X12_isIn kn_X12 ko_X12_isIn) rfl rfl rfl hd_yX12_isIn ⟨Nat.le_of_ble_eq_true rfl, Nat.le_of_ble_eq_true rfl⟩) rfl rfl (Nat.le_of_ble_eq_true rfl) dX12_symbol_102 ⟨Nat.le_of_ble_eq_true rfl, Nat.le_of_ble_eq_true rfl⟩ (fun r102 S102 h102 => ?_)
                      obtain ⟨a102, e102⟩ := h102
                      have hs102 := e102.symm
                      subst hs102
                      refine r_goto (tgt := 135) F dX12_symbol_105 (by decide) ?_
                      refine r_istore F dX12_symbol_135 (by decide) ?_
                      exact absurd c84 c56
                    · refine r_bipush (v := 9) F dX12_symbol_96 (by decide) ?_
                      refine r_goto (tgt := 102) F dX12_symbol_98 (by decide) ?_
                      refine c_Si F G (mm_isIn _ _ _) (va_cwS 3 F.2.2.2.2 (zgS km_X12_126 ks_X12_isIn kn_X12 ko_X12_isIn) rfl rfl rfl hd_yX12_isIn ⟨Nat.le_of_ble_eq_true rfl, Nat.le_of_ble_eq_true rfl⟩) rfl rfl (Nat.le_of_ble_eq_true rfl) dX12_symbol_102 ⟨Nat.le_of_ble_eq_true rfl, Nat.le_of_ble_eq_true rfl⟩ (fun r102 S102 h102 => ?_)
                      obtain ⟨a102, e102⟩ := h102
                      have hs102 := e102.symm
                      subst hs102
                      refine r_goto (tgt := 135) F dX12_symbol_105 (by decide) ?_
                      refine r_istore F dX12_symbol_135 (by decide) ?_
                      exact absurd c93 c52
              · refine r_aload_n F dX12_symbol_59 rfl ?_
                refine r_iload_n F dX12_symbol_60 rfl ?_
                refine r_iload F dX12_symbol_61 rfl ?_
                refine c_Vi (ci := 12) F G (mm_isFunction hS hv) (cwV 2 F.2.2.2.2 (zgV km_X12_138 ki_X12_isFunction ke_X12_X12_isFunction kn_X12 ko_X12_isFunction) rfl rfl rfl ⟨rfl, hd_yX12_isFunction⟩ ⟨Nat.le_of_ble_eq_true rfl, Nat.le_of_ble_eq_true rfl⟩) rfl (by decide) hS.al rfl rfl (Nat.le_of_ble_eq_true rfl) dX12_symbol_63 ⟨Nat.le_of_ble_eq_true rfl, Nat.le_of_ble_eq_true rfl⟩ (fun r63 S63 h63 => ?_)
                obtain ⟨a63, e63⟩ := h63
                have hs63 := e63.symm
                subst hs63
                refine r_goto (tgt := 76) F dX12_symbol_66 (by decide) ?_
                refine r_istore F dX12_symbol_76 (by decide) ?_
                refine r_iload F dX12_symbol_78 rfl ?_
                refine r_if_eq (tgt := 137) F dX12_symbol_80 (by decide) (fun c80 => ?_) (fun c80 => ?_)
                · exact tail _ _ ⟨rfl, r63, (by rw [c80]; exact zbo.n (fun h => a63.f c80 ((h.2.2.2.2.1 c52).1 c56))), rfl⟩
                · refine r_iload_n F dX12_symbol_83 rfl ?_
                  refine r_if_ne (tgt := 108) F dX12_symbol_84 (by decide) (fun c84 => ?_) (fun c84 => ?_)
                  · refine r_iload F dX12_symbol_108 rfl ?_
                    refine r_iconst (v := 0) F dX12_symbol_110 (by decide) ?_
                    refine r_iload F dX12_symbol_111 rfl ?_
                    refine r_iconst (v := -1) F dX12_symbol_113 (by decide) ?_
                    refine r_icmp_ne (tgt := 121) F dX12_symbol_114 (by decide) (fun c114 => ?_) (fun c114 => ?_)
                    · exact absurd c56 c84
                    · refine r_iconst (v := 0) F dX12_symbol_117 (by decide) ?_
                      refine r_goto (tgt := 132) F dX12_symbol_118 (by decide) ?_
                      refine c_Si F G (mm_isIn _ _ _) (va_cwS 3 F.2.2.2.2 (zgS km_X12_126 ks_X12_isIn kn_X12 ko_X12_isIn) rfl rfl rfl hd_yX12_isIn ⟨Nat.le_of_ble_eq_true rfl, Nat.le_of_ble_eq_true rfl⟩) rfl rfl (Nat.le_of_ble_eq_true rfl) dX12_symbol_132 ⟨Nat.le_of_ble_eq_true rfl, Nat.le_of_ble_eq_true rfl⟩ (fun r132 S132 h132 => ?_)
                      obtain ⟨a132, e132⟩ := h132
                      have hs132 := e132.symm
                      subst hs132
                      refine r_istore F dX12_symbol_135 (by decide) ?_
                      exact absurd c114 c52
                  · refine r_iload F dX12_symbol_87 rfl ?_
                    refine r_iconst (v := 0) F dX12_symbol_89 (by decide) ?_
                    refine r_iload F dX12_symbol_90 rfl ?_
                    refine r_iconst (v := -1) F dX12_symbol_92 (by decide) ?_
                    refine r_icmp_ne (tgt := 101) F dX12_symbol_93 (by decide) (fun c93 => ?_) (fun c93 => ?_)
                    · refine r_iconst (v := 0) F dX12_symbol_101 (by decide) ?_
                      refine c_Si F G (mm_isIn _ _ _) (va_cwS 3 F.2.2.2.2 (zgS km_X12_126 ks_X12_isIn kn_X12 ko_X12_isIn) rfl rfl rfl hd_yX12_isIn ⟨Nat.le_of_ble_eq_true rfl, Nat.le_of_ble_eq_true rfl⟩) rfl rfl (Nat.le_of_ble_eq_true rfl) dX12_symbol_102 ⟨Nat.le_of_ble_eq_true rfl, Nat.le_of_ble_eq_true rfl⟩ (fun r102 S102 h102 => ?_)
                      obtain ⟨a102, e102⟩ := h102
                      have hs102 := e102.symm
                      subst hs102
                      refine r_goto (tgt := 135) F dX12_symbol_105 (by decide) ?_
                      refine r_istore F dX12_symbol_135 (by decide) ?_
                      exact tail _ _ ⟨rfl, _, a102.iff ⟨fun q => ⟨a2.t c5, a12.t c15, a21.t c24, a31.t c34, fun _ => ⟨fun _ => a63.t c80, fun h9 => absurd c84 h9⟩, fun _ h9 => absurd h9 c52, fun _ _ => q, fun h9 => absurd c84 h9, fun h9 => absurd c84 h9⟩, fun h => h.2.2.2.2.2.2.1 c84 c52⟩, rfl⟩
                    · refine r_bipush (v := 9) F dX12_symbol_96 (by decide) ?_
                      refine r_goto (tgt := 102) F dX12_symbol_98 (by decide) ?_
                      refine c_Si F G (mm_isIn _ _ _) (va_cwS 3 F.2.2.2.2 (zgS km_X12_126 ks_X12_isIn kn_X12 ko_X12_isIn) rfl rfl rfl hd_yX12_isIn ⟨Nat.le_of_ble_eq_true rfl, Nat.le_of_ble_eq_true rfl⟩) rfl rfl (Nat.le_of_ble_eq_true rfl) dX12_symbol_102 ⟨Nat.le_of_ble_eq_true rfl, Nat.le_of_ble_eq_true rfl⟩ (fun r102 S102 h102 => ?_)
                      obtain ⟨a102, e102⟩ := h102
                      have hs102 := e102.symm
                      subst hs102
                      refine r_goto (tgt := 135) F dX12_symbol_105 (by decide) ?_
                      refine r_istore F dX12_symbol_135 (by decide) ?_
                      exact absurd c93 c52
/-- things of objects that aren't there: none -/
def vA (v : zV) : Prop := ∀ o, cn v 1201 0 ≤ o → o < 6 → cn v 1202 o = 0 ∧ cn v 1203 o = 0 ∧ cn v 1204 o = 0
def ySt (v : zV) (nm : Int32) (z : Nat) : Bool := decide (z % 16 < cn v 1204 (z / 16)) && decide (v.1 1216 z = 0) && decide (v.1 1214 z = nm) && !decide (v.1 1217 z = -1)
def yWk (v : zV) (nm : Int32) (z : Nat) : Bool := decide (z % 16 < cn v 1204 (z / 16)) && !decide (v.1 1216 z = 0) && !decide (v.1 1216 z = 2) && decide (v.1 1214 z = nm) && !decide (v.1 1217 z = -1)
/-- whose definition is meant by a symbol -/
def mng (v : zV) (y : Nat) : Option Nat := if v.1 1216 y = 2 then (if v.1 1217 y = -1 then none else some y) else match fnd (ySt v (v.1 1214 y)) 96 with
  | some z => some z
  | none => fnd (yWk v (v.1 1214 y)) 96
theorem ySt_t {v : zV} {nm : Int32} {z : Nat} (h1 : z % 16 < cn v 1204 (z / 16)) (h2 : v.1 1216 z = 0) (h3 : v.1 1214 z = nm) (h4 : ¬ v.1 1217 z = -1) : ySt v nm z = true := by
  unfold ySt
  rw [decide_eq_true h1, decide_eq_true h2, decide_eq_true h3, decide_eq_false h4]
  rfl
theorem yWk_t {v : zV} {nm : Int32} {z : Nat} (h1 : z % 16 < cn v 1204 (z / 16)) (h2 : ¬ v.1 1216 z = 0) (h5 : ¬ v.1 1216 z = 2) (h3 : v.1 1214 z = nm) (h4 : ¬ v.1 1217 z = -1) : yWk v nm z = true := by
  unfold yWk
  rw [decide_eq_true h1, decide_eq_false h2, decide_eq_false h5, decide_eq_true h3, decide_eq_false h4]
  rfl
theorem ySt_0 {v : zV} {nm : Int32} {z : Nat} (h : ¬ z % 16 < cn v 1204 (z / 16) ∨ ¬ v.1 1216 z = 0 ∨ ¬ v.1 1214 z = nm ∨ v.1 1217 z = -1) : ySt v nm z = false := by
  unfold ySt
  rcases h with h | h | h | h
  · rw [decide_eq_false h]; simp
  · rw [decide_eq_false h]; simp
  · rw [decide_eq_false h]; simp
  · rw [decide_eq_true h]; simp
theorem yWk_0 {v : zV} {nm : Int32} {z : Nat} (h : ¬ z % 16 < cn v 1204 (z / 16) ∨ v.1 1216 z = 0 ∨ v.1 1216 z = 2 ∨ ¬ v.1 1214 z = nm ∨ v.1 1217 z = -1) : yWk v nm z = false := by
  unfold yWk
  rcases h with h | h | h | h | h
  · rw [decide_eq_false h]; simp
  · rw [decide_eq_true h]; simp
  · rw [decide_eq_true h]; simp
  · rw [decide_eq_false h]; simp
  · rw [decide_eq_true h]; simp
theorem enc_some {P : Nat → Bool} {n : Nat} (hn : n < 2 ^ 31) (h : 0 ≤ enc (fnd P n)) : ∃ x, fnd P n = some x := by
  cases hf : fnd P n with
  | some x => exact ⟨x, rfl⟩
  | none => rw [hf] at h; exact absurd h (by decide)
theorem enc_none {P : Nat → Bool} {n : Nat} (hn : n < 2 ^ 31) (h : ¬ 0 ≤ enc (fnd P n)) : fnd P n = none := by
  cases hf : fnd P n with
  | none => rfl
  | some x =>
    rw [hf] at h
    have := (fnd_iff.mp hf).1
    exact absurd (Int32.not_lt.mp (nI_pos (n := x) (by omega))) h
set_option maxRecDepth 100000 in
set_option maxHeartbeats 4000000 in
theorem mm_meaning {l : Launch} {N0 t0 : Nat} {D : va_G} {cy : Nat → ClassId} {S : zS} {S0 : zS} {g : Nat} {qa : Nat → Nat} {v : zV} (hS : zmR S0 g qa v S) {y : Nat} (hv : vRg v) (hA : vA v) (hy : y < 96) : zMi l yX12_meaning (zws yX12_meaning cX12_meaning 5 (some .int)) { frames := 0, cells := 0, slots := 0, locals := 0 } N0 t0 D cy S [.ref g, .int (nI y)] (fun r S' => r = enc (mng v y) ∧ S' = S) 0 0 := by
  refine zMi.of (cc := cX12_meaning) (maxL := 5) (ret := (some .int)) (by decide) rfl (Nat.le_of_ble_eq_true rfl) ?_
  intro p e s m args below meth c F G hr hlk hnm
  refine r_aload_n F dX12_meaning_0 rfl ?_
  refine gq_binding F G hS dX12_meaning_1 ?_
  refine r_iload_n F dX12_meaning_4 rfl ?_
  refine al_binding F G hS (y) rfl hy dX12_meaning_5 ?_
  refine r_iconst (v := 2) F dX12_meaning_6 (by decide) ?_
  refine r_icmp_ne (tgt := 26) F dX12_meaning_7 (by decide) (fun c7 => ?_) (fun c7 => ?_)
  · refine r_iconst (v := -1) F dX12_meaning_26 (by decide) ?_
    refine r_istore_n F dX12_meaning_27 (by decide) ?_
    refine r_iconst (v := 0) F dX12_meaning_28 (by decide) ?_
    refine r_istore_n F dX12_meaning_29 (by decide) ?_
    have hn := rg_1201 hv (k := 0) (by decide)
    have hn2 := hn.2
    refine z_loop (fun n S9 lv => ∃ o, o + n = cn v 1201 0 ∧ S = S9 ∧ fnd (ySt v (v.1 1214 y)) (16 * o) = none ∧ lv = [(3, .int (nI o)), (2, .int (enc (fnd (yWk v (v.1 1214 y)) (16 * o)))), (0, .ref g), (1, .int (nI y))]) (cn v 1201 0) ?_ ⟨0, by omega, rfl, rfl, rfl⟩
    rintro n S9 lv ⟨o, hn9, rfl, hst, rfl⟩ ih
    refine r_iload_n F dX12_meaning_30 rfl ?_
    refine r_aload_n F dX12_meaning_31 rfl ?_
    refine gi_objects F G hS dX12_meaning_32 ?_
    rw [hn.1]
    refine r_icmp_ge (tgt := 133) F dX12_meaning_35 (by decide) (fun c35 => ?_) (fun c35 => ?_)
    · refine r_iload_n F dX12_meaning_133 rfl ?_
      exact e_iret F hr hlk ⟨by
        have ho : o = cn v 1201 0 := by rw [nI_leI (by omega) (by omega)] at c35; omega
        have hgap : ∀ x, 16 * o ≤ x → x < 96 → ¬ x % 16 < cn v 1204 (x / 16) := fun x h1 h2 => by rw [(hA (x / 16) (by omega) (by omega)).2.2]; omega
        unfold mng
        rw [if_neg c7, show fnd (ySt v (v.1 1214 y)) 96 = none by rw [fnd_up (a := 16 * o) (by omega) (fun x h1 h2 => ySt_0 (Or.inl (hgap x h1 h2)))]; exact hst, fnd_up (a := 16 * o) (b := 96) (by omega) (fun x h1 h2 => yWk_0 (Or.inl (hgap x h1 h2)))], rfl⟩ (by decide) (by decide) dX12_meaning_134
    · have ho : o < cn v 1201 0 := by rw [nI_leI (by omega) (by omega)] at c35; omega
      have ho6 : o < 6 := by omega
      have hf := rg_1204 hv ho6
      have hf2 := hf.2
      refine r_bipush (v := 16) F dX12_meaning_38 (by decide) ?_
      refine r_iload_n F dX12_meaning_40 rfl ?_
      refine r_imul F dX12_meaning_41 ?_
      refine r_istore F dX12_meaning_42 (by decide) ?_
      refine z_loop (fun n S9 lv => ∃ j, j + n = cn v 1204 o ∧ S = S9 ∧ fnd (ySt v (v.1 1214 y)) (16 * o + j) = none ∧ lv = [(4, .int (nI (16 * o + j))), (3, .int (nI o)), (2, .int (enc (fnd (yWk v (v.1 1214 y)) (16 * o + j)))), (0, .ref g), (1, .int (nI y))]) (cn v 1204 o) ?_ ⟨0, by omega, rfl, hst, by rw [show (16 : Int32) * nI o = nI (16 * o + 0) by rw [nl16, nI_mul]; rfl]; rfl⟩
      rintro n2 S9 lv ⟨j, hn2, rfl, hst, rfl⟩ ih2
      refine r_iload F dX12_meaning_44 rfl ?_
      refine r_bipush (v := 16) F dX12_meaning_46 (by decide) ?_
      refine r_iload_n F dX12_meaning_48 rfl ?_
      refine r_imul F dX12_meaning_49 ?_
      refine r_aload_n F dX12_meaning_50 rfl ?_
      refine gq_symbols F G hS dX12_meaning_51 ?_
      refine r_iload_n F dX12_meaning_54 rfl ?_
      refine al_symbols F G hS (o) rfl ho6 dX12_meaning_55 ?_
      refine r_iadd F dX12_meaning_56 ?_
      rw [hf.1, show (16 : Int32) * nI o + nI (cn v 1204 o) = nI (16 * o + cn v 1204 o) by rw [nl16, nI_mul, nI_add]]
      refine r_icmp_ge (tgt := 127) F dX12_meaning_57 (by decide) (fun c57 => ?_) (fun c57 => ?_)
      · have hjn : j = cn v 1204 o := by rw [nI_leI (by omega) (by omega)] at c57; omega
        refine r_iinc F dX12_meaning_127 rfl (by decide) ?_
        refine r_goto (tgt := 30) F dX12_meaning_130 (by decide) ?_
        have hgap : ∀ x, 16 * o + j ≤ x → x < 16 * (o + 1) → ¬ x % 16 < cn v 1204 (x / 16) := fun x h1 h2 => by rw [show x / 16 = o by omega]; omega
        have hs2 : fnd (ySt v (v.1 1214 y)) (16 * (o + 1)) = none := by rw [fnd_up (a := 16 * o + j) (by omega) (fun x h1 h2 => ySt_0 (Or.inl (hgap x h1 h2)))]; exact hst
        have hw2 : fnd (yWk v (v.1 1214 y)) (16 * o + j) = fnd (yWk v (v.1 1214 y)) (16 * (o + 1)) := (fnd_up (by omega) (fun x h1 h2 => yWk_0 (Or.inl (hgap x h1 h2)))).symm
        rw [hw2]
        refine zsub (lv' := [(3, .int (nI (o + 1))), (2, .int (enc (fnd (yWk v (v.1 1214 y)) (16 * (o + 1))))), (0, .ref g), (1, .int (nI y))]) (by rw [show nI (o + 1) = nI o + Int32.ofInt 1 from (nI_add o 1).symm]; simp [zs1, Value.category]) ?_
        exact ih (n - 1) _ _ (by omega) ⟨o + 1, by omega, rfl, hs2, rfl⟩
      · have hjn : j < cn v 1204 o := by rw [nI_leI (by omega) (by omega)] at c57; omega
        have hth : (16 * o + j) % 16 < cn v 1204 ((16 * o + j) / 16) := by rw [show (16 * o + j) / 16 = o by omega]; omega
        refine r_aload_n F dX12_meaning_60 rfl ?_
        refine gq_binding F G hS dX12_meaning_61 ?_
        refine r_iload F dX12_meaning_64 rfl ?_
        refine al_binding F G hS (16 * o + j) rfl (by omega) dX12_meaning_66 ?_
        refine r_iconst (v := 2) F dX12_meaning_67 (by decide) ?_
        refine r_icmp_eq (tgt := 121) F dX12_meaning_68 (by decide) (fun c68 => ?_) (fun c68 => ?_)
        · have hst2 : fnd (ySt v (v.1 1214 y)) (16 * o + (j + 1)) = none := by rw [← Nat.add_assoc]; exact fnd_n hst (ySt_0 (Or.inr (Or.inl (by rw [c68]; decide))))
          have hwk : enc (fnd (yWk v (v.1 1214 y)) (16 * o + j)) = enc (fnd (yWk v (v.1 1214 y)) (16 * o + (j + 1))) := by rw [← Nat.add_assoc, fnd_f (yWk_0 (Or.inr (Or.inr (Or.inl c68))))]
          refine r_iinc F dX12_meaning_121 rfl (by decide) ?_
          refine r_goto (tgt := 44) F dX12_meaning_124 (by decide) ?_
          rw [hwk]
          refine zsub (lv' := [(4, .int (nI (16 * o + (j + 1)))), (3, .int (nI o)), (2, .int (enc (fnd (yWk v (v.1 1214 y)) (16 * o + (j + 1))))), (0, .ref g), (1, .int (nI y))]) (by rw [show nI (16 * o + (j + 1)) = nI (16 * o + j) + Int32.ofInt 1 from (nI_add (16 * o + j) 1).symm]; simp [zs1, Value.category]) ?_
          exact ih2 (n2 - 1) _ _ (by omega) ⟨j + 1, by omega, rfl, hst2, rfl⟩
        · refine r_aload_n F dX12_meaning_71 rfl ?_
          refine gq_name F G hS dX12_meaning_72 ?_
          refine r_iload F dX12_meaning_75 rfl ?_
          refine al_name F G hS (16 * o + j) rfl (by omega) dX12_meaning_77 ?_
          refine r_aload_n F dX12_meaning_78 rfl ?_
          refine gq_name F G hS dX12_meaning_79 ?_
          refine r_iload_n F dX12_meaning_82 rfl ?_
          refine al_name F G hS (y) rfl hy dX12_meaning_83 ?_
          refine r_icmp_ne (tgt := 121) F dX12_meaning_84 (by decide) (fun c84 => ?_) (fun c84 => ?_)
          · have hst2 : fnd (ySt v (v.1 1214 y)) (16 * o + (j + 1)) = none := by rw [← Nat.add_assoc]; exact fnd_n hst (ySt_0 (Or.inr (Or.inr (Or.inl c84))))
            have hwk : enc (fnd (yWk v (v.1 1214 y)) (16 * o + j)) = enc (fnd (yWk v (v.1 1214 y)) (16 * o + (j + 1))) := by rw [← Nat.add_assoc, fnd_f (yWk_0 (Or.inr (Or.inr (Or.inr (Or.inl c84)))))]
            refine r_iinc F dX12_meaning_121 rfl (by decide) ?_
            refine r_goto (tgt := 44) F dX12_meaning_124 (by decide) ?_
            rw [hwk]
            refine zsub (lv' := [(4, .int (nI (16 * o + (j + 1)))), (3, .int (nI o)), (2, .int (enc (fnd (yWk v (v.1 1214 y)) (16 * o + (j + 1))))), (0, .ref g), (1, .int (nI y))]) (by rw [show nI (16 * o + (j + 1)) = nI (16 * o + j) + Int32.ofInt 1 from (nI_add (16 * o + j) 1).symm]; simp [zs1, Value.category]) ?_
            exact ih2 (n2 - 1) _ _ (by omega) ⟨j + 1, by omega, rfl, hst2, rfl⟩
          · refine r_aload_n F dX12_meaning_87 rfl ?_
            refine gq_defines F G hS dX12_meaning_88 ?_
            refine r_iload F dX12_meaning_91 rfl ?_
            refine al_defines F G hS (16 * o + j) rfl (by omega) dX12_meaning_93 ?_
            refine r_iconst (v := -1) F dX12_meaning_94 (by decide) ?_
            refine r_icmp_ne (tgt := 101) F dX12_meaning_95 (by decide) (fun c95 => ?_) (fun c95 => ?_)
            · refine r_aload_n F dX12_meaning_101 rfl ?_
              refine gq_binding F G hS dX12_meaning_102 ?_
              refine r_iload F dX12_meaning_105 rfl ?_
              refine al_binding F G hS (16 * o + j) rfl (by omega) dX12_meaning_107 ?_
              refine r_if_ne (tgt := 114) F dX12_meaning_108 (by decide) (fun c108 => ?_) (fun c108 => ?_)
              · refine r_iload_n F dX12_meaning_114 rfl ?_
                refine r_if_ge (tgt := 121) F dX12_meaning_115 (by decide) (fun c115 => ?_) (fun c115 => ?_)
                · have hst2 : fnd (ySt v (v.1 1214 y)) (16 * o + (j + 1)) = none := by rw [← Nat.add_assoc]; exact fnd_n hst (ySt_0 (Or.inr (Or.inl c108)))
                  have hwk : enc (fnd (yWk v (v.1 1214 y)) (16 * o + j)) = enc (fnd (yWk v (v.1 1214 y)) (16 * o + (j + 1))) := by
                    obtain ⟨w, hw⟩ := enc_some (by omega) c115
                    rw [← Nat.add_assoc, fnd_s hw, hw]
                  refine r_iinc F dX12_meaning_121 rfl (by decide) ?_
                  refine r_goto (tgt := 44) F dX12_meaning_124 (by decide) ?_
                  rw [hwk]
                  refine zsub (lv' := [(4, .int (nI (16 * o + (j + 1)))), (3, .int (nI o)), (2, .int (enc (fnd (yWk v (v.1 1214 y)) (16 * o + (j + 1))))), (0, .ref g), (1, .int (nI y))]) (by rw [show nI (16 * o + (j + 1)) = nI (16 * o + j) + Int32.ofInt 1 from (nI_add (16 * o + j) 1).symm]; simp [zs1, Value.category]) ?_
                  exact ih2 (n2 - 1) _ _ (by omega) ⟨j + 1, by omega, rfl, hst2, rfl⟩
                · refine r_iload F dX12_meaning_118 rfl ?_
                  refine r_istore_n F dX12_meaning_120 (by decide) ?_
                  have hst2 : fnd (ySt v (v.1 1214 y)) (16 * o + (j + 1)) = none := by rw [← Nat.add_assoc]; exact fnd_n hst (ySt_0 (Or.inr (Or.inl c108)))
                  have hwk : nI (16 * o + j) = enc (fnd (yWk v (v.1 1214 y)) (16 * o + (j + 1))) := by
                    rw [← Nat.add_assoc, fnd_t (enc_none (by omega) c115) (yWk_t hth c108 c68 c84 c95)]
                    rfl
                  refine r_iinc F dX12_meaning_121 rfl (by decide) ?_
                  refine r_goto (tgt := 44) F dX12_meaning_124 (by decide) ?_
                  refine zsub (lv' := [(4, .int (nI (16 * o + (j + 1)))), (3, .int (nI o)), (2, .int (enc (fnd (yWk v (v.1 1214 y)) (16 * o + (j + 1))))), (0, .ref g), (1, .int (nI y))]) (by rw [show nI (16 * o + (j + 1)) = nI (16 * o + j) + Int32.ofInt 1 from (nI_add (16 * o + j) 1).symm]; simp [zs1, Value.category]; first | exact hwk.symm | exact hwk) ?_
                  exact ih2 (n2 - 1) _ _ (by omega) ⟨j + 1, by omega, rfl, hst2, rfl⟩
              · refine r_iload F dX12_meaning_111 rfl ?_
                exact e_iret F hr hlk ⟨by unfold mng; rw [if_neg c7, show fnd (ySt v (v.1 1214 y)) 96 = some (16 * o + j) from fnd_iff.mpr ⟨by omega, ySt_t hth c108 c84 c95, fnd_none.mp hst⟩]; rfl, rfl⟩ (by decide) (by decide) dX12_meaning_113
            · refine r_goto (tgt := 121) F dX12_meaning_98 (by decide) ?_
              have hst2 : fnd (ySt v (v.1 1214 y)) (16 * o + (j + 1)) = none := by rw [← Nat.add_assoc]; exact fnd_n hst (ySt_0 (Or.inr (Or.inr (Or.inr c95))))
              have hwk : enc (fnd (yWk v (v.1 1214 y)) (16 * o + j)) = enc (fnd (yWk v (v.1 1214 y)) (16 * o + (j + 1))) := by rw [← Nat.add_assoc, fnd_f (yWk_0 (Or.inr (Or.inr (Or.inr (Or.inr c95)))))]
              refine r_iinc F dX12_meaning_121 rfl (by decide) ?_
              refine r_goto (tgt := 44) F dX12_meaning_124 (by decide) ?_
              rw [hwk]
              refine zsub (lv' := [(4, .int (nI (16 * o + (j + 1)))), (3, .int (nI o)), (2, .int (enc (fnd (yWk v (v.1 1214 y)) (16 * o + (j + 1))))), (0, .ref g), (1, .int (nI y))]) (by rw [show nI (16 * o + (j + 1)) = nI (16 * o + j) + Int32.ofInt 1 from (nI_add (16 * o + j) 1).symm]; simp [zs1, Value.category]) ?_
              exact ih2 (n2 - 1) _ _ (by omega) ⟨j + 1, by omega, rfl, hst2, rfl⟩
  · refine r_aload_n F dX12_meaning_10 rfl ?_
    refine gq_defines F G hS dX12_meaning_11 ?_
    refine r_iload_n F dX12_meaning_14 rfl ?_
    refine al_defines F G hS (y) rfl hy dX12_meaning_15 ?_
    refine r_iconst (v := -1) F dX12_meaning_16 (by decide) ?_
    refine r_icmp_ne (tgt := 24) F dX12_meaning_17 (by decide) (fun c17 => ?_) (fun c17 => ?_)
    · refine r_iload_n F dX12_meaning_24 rfl ?_
      exact e_iret F hr hlk ⟨by unfold mng; rw [if_pos c7, if_neg c17]; rfl, rfl⟩ (by decide) (by decide) dX12_meaning_25
    · refine r_iconst (v := -1) F dX12_meaning_20 (by decide) ?_
      refine r_goto (tgt := 25) F dX12_meaning_21 (by decide) ?_
      exact e_iret F hr hlk ⟨by unfold mng; rw [if_pos c7, if_pos c17]; rfl, rfl⟩ (by decide) (by decide) dX12_meaning_25
