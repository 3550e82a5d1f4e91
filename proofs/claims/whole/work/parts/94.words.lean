/-- a word's number is one that the word takes -/
def gW (v : zV) (f w : Nat) (a : Int32) : Prop := (w = 1 ∨ w = 2 → ∃ j, j < cn v 1205 f + cn v 1207 f ∧ a = nI j) ∧ (19 ≤ w ∧ w ≤ 22 → ∃ j, j ≤ 1000 ∧ a = nI j) ∧ (23 ≤ w ∧ w ≤ 25 → ∃ j, j ≤ 1 ∧ a = nI j) ∧ (w = 28 ∨ w = 29 → ∃ j, j ≤ 30 ∧ a = nI j) ∧ (w = 31 ∨ w = 34 → ∃ j, j < cn v 1204 (f / 8) ∧ a = nI j ∧ v.1 1215 (16 * (f / 8) + j) = 0) ∧ (w = 32 → ∃ j, j ≤ 9 ∧ a = nI j) ∧ (w = 33 → ∃ j, j < cn v 1204 (f / 8) ∧ a = nI j ∧ v.1 1215 (16 * (f / 8) + j) = 1)
set_option maxRecDepth 100000 in
set_option maxHeartbeats 4000000 in
theorem mm_isWordGood {l : Launch} {N0 t0 : Nat} {D : va_G} {cy : Nat → ClassId} {S : zS} {S0 : zS} {g : Nat} {qa : Nat → Nat} {v : zV} (hS : zmR S0 g qa v S) {f w : Nat} {a : Int32} (hv : vRg v) (hf : f < 48) (hw : w < 36) : zMi l yX12_isWordGood (zws yX12_isWordGood cX12_isWordGood 5 (some .boolean)) { frames := 1, cells := 0, slots := 0, locals := 22 } N0 t0 D cy S [.ref g, .int (nI f), .int (nI w), .int a] (fun r S' => zbo r (gW v f w a) ∧ S' = S) 0 0 := by
  refine zMi.of (cc := cX12_isWordGood) (maxL := 5) (ret := (some .boolean)) (by decide) rfl (Nat.le_of_ble_eq_true rfl) ?_
  intro p e s m args below meth c F G hr hlk hnm
  have hf6 : f / 8 < 6 := by omega
  have hy := rg_1204 hv (k := f / 8) hf6
  have hy2 := hy.2
  refine r_iload_n F dX12_isWordGood_0 rfl ?_
  refine r_bipush (v := 8) F dX12_isWordGood_1 (by decide) ?_
  refine r_idiv F dX12_isWordGood_3 (by decide) ?_
  rw [show nI f / 8 = nI (f / 8) by rw [nl8]; exact nI_div (by omega) (by omega)]
  refine r_istore F dX12_isWordGood_4 (by decide) ?_
  refine r_iload_n F dX12_isWordGood_6 rfl ?_
  rcases (show (w = 0 ∨ (3 ≤ w ∧ w ≤ 18) ∨ (26 ≤ w ∧ w ≤ 27) ∨ w = 30 ∨ w = 35) ∨ ((1 ≤ w ∧ w ≤ 2)) ∨ ((19 ≤ w ∧ w ≤ 22)) ∨ ((23 ≤ w ∧ w ≤ 25)) ∨ ((28 ≤ w ∧ w ≤ 29)) ∨ (w = 31 ∨ w = 34) ∨ (w = 32) ∨ (w = 33) by omega) with w7 | w7 | w7 | w7 | w7 | w7 | w7 | w7
  · refine r_table (off := 275) (tgt := 282) F dX12_isWordGood_7 ((show ∀ w : Nat, w < 36 → (w = 0 ∨ (3 ≤ w ∧ w ≤ 18) ∨ (26 ≤ w ∧ w ≤ 27) ∨ w = 30 ∨ w = 35) → (if (nI w).toInt < 1 ∨ 34 < (nI w).toInt then some (275 : Int) else (#[149, 149, 275, 275, 275, 275, 275, 275, 275, 275, 275, 275, 275, 275, 275, 275, 275, 275, 170, 170, 170, 170, 179, 179, 179, 275, 275, 186, 186, 275, 194, 230, 238, 194] : Array Int)[((nI w).toInt - 1).toNat]?) = some (275 : Int) from by decide) w hw w7) (by decide) ?_
    refine r_iconst (v := 1) F dX12_isWordGood_282 (by decide) ?_
    exact e_zret F hr rfl hlk ⟨zbo.y ⟨fun h9 => by omega, fun h9 => by omega, fun h9 => by omega, fun h9 => by omega, fun h9 => by omega, fun h9 => by omega, fun h9 => by omega⟩, rfl⟩ (by decide) (by decide) dX12_isWordGood_283
  · refine r_table (off := 149) (tgt := 156) F dX12_isWordGood_7 ((show ∀ w : Nat, w < 36 → ((1 ≤ w ∧ w ≤ 2)) → (if (nI w).toInt < 1 ∨ 34 < (nI w).toInt then some (275 : Int) else (#[149, 149, 275, 275, 275, 275, 275, 275, 275, 275, 275, 275, 275, 275, 275, 275, 275, 275, 170, 170, 170, 170, 179, 179, 179, 275, 275, 186, 186, 275, 194, 230, 238, 194] : Array Int)[((nI w).toInt - 1).toNat]?) = some (149 : Int) from by decide) w hw w7) (by decide) ?_
    refine r_iload_n F dX12_isWordGood_156 rfl ?_
    refine r_iconst (v := 0) F dX12_isWordGood_157 (by decide) ?_
    refine r_aload_n F dX12_isWordGood_158 rfl ?_
    refine gq_parameters F G hS dX12_isWordGood_159 ?_
    refine r_iload_n F dX12_isWordGood_162 rfl ?_
    refine al_parameters F G hS (f) rfl hf dX12_isWordGood_163 ?_
    refine r_aload_n F dX12_isWordGood_164 rfl ?_
    refine gq_locals F G hS dX12_isWordGood_165 ?_
    refine r_iload_n F dX12_isWordGood_168 rfl ?_
    refine al_locals F G hS (f) rfl hf dX12_isWordGood_169 ?_
    refine r_iadd F dX12_isWordGood_170 ?_
    refine r_iconst (v := 1) F dX12_isWordGood_171 (by decide) ?_
    refine r_isub F dX12_isWordGood_172 ?_
    refine c_Si F G (mm_isIn _ _ _) (va_cwS 3 F.2.2.2.2 (zgS km_X12_126 ks_X12_isIn kn_X12 ko_X12_isIn) rfl rfl rfl hd_yX12_isIn ⟨Nat.le_of_ble_eq_true rfl, Nat.le_of_ble_eq_true rfl⟩) rfl rfl (Nat.le_of_ble_eq_true rfl) dX12_isWordGood_173 ⟨Nat.le_of_ble_eq_true rfl, Nat.le_of_ble_eq_true rfl⟩ (fun r173 S173 h173 => ?_)
    obtain ⟨a173, e173⟩ := h173
    have hs173 := e173.symm
    subst hs173
    have key : pIn a 0 (v.1 1205 f + v.1 1207 f - 1) ↔ ∃ j, j < cn v 1205 f + cn v 1207 f ∧ a = nI j := by
      have h5 := rg_1205 hv hf
      have h7 := rg_1207 hv hf
      have h52 := h5.2
      have h72 := h7.2
      rw [h5.1, h7.1, nI_add]
      exact pIn_dec (by omega)
    exact e_zret F hr a173.nar hlk ⟨(a173.iff key).iff ⟨fun q => ⟨fun _ => q, fun h9 => by omega, fun h9 => by omega, fun h9 => by omega, fun h9 => by omega, fun h9 => by omega, fun h9 => by omega⟩, fun h => h.1 (by omega)⟩, rfl⟩ (by decide) (by decide) dX12_isWordGood_176
  · refine r_table (off := 170) (tgt := 177) F dX12_isWordGood_7 ((show ∀ w : Nat, w < 36 → ((19 ≤ w ∧ w ≤ 22)) → (if (nI w).toInt < 1 ∨ 34 < (nI w).toInt then some (275 : Int) else (#[149, 149, 275, 275, 275, 275, 275, 275, 275, 275, 275, 275, 275, 275, 275, 275, 275, 275, 170, 170, 170, 170, 179, 179, 179, 275, 275, 186, 186, 275, 194, 230, 238, 194] : Array Int)[((nI w).toInt - 1).toNat]?) = some (170 : Int) from by decide) w hw w7) (by decide) ?_
    refine r_iload_n F dX12_isWordGood_177 rfl ?_
    refine r_iconst (v := 0) F dX12_isWordGood_178 (by decide) ?_
    refine r_sipush (v := 1000) F dX12_isWordGood_179 (by decide) ?_
    refine c_Si F G (mm_isIn _ _ _) (va_cwS 3 F.2.2.2.2 (zgS km_X12_126 ks_X12_isIn kn_X12 ko_X12_isIn) rfl rfl rfl hd_yX12_isIn ⟨Nat.le_of_ble_eq_true rfl, Nat.le_of_ble_eq_true rfl⟩) rfl rfl (Nat.le_of_ble_eq_true rfl) dX12_isWordGood_182 ⟨Nat.le_of_ble_eq_true rfl, Nat.le_of_ble_eq_true rfl⟩ (fun r182 S182 h182 => ?_)
    obtain ⟨a182, e182⟩ := h182
    have hs182 := e182.symm
    subst hs182
    have key : pIn a 0 1000 ↔ ∃ j, j ≤ 1000 ∧ a = nI j := pIn_iff (n := 1000) (by decide)
    exact e_zret F hr a182.nar hlk ⟨(a182.iff key).iff ⟨fun q => ⟨fun h9 => by omega, fun _ => q, fun h9 => by omega, fun h9 => by omega, fun h9 => by omega, fun h9 => by omega, fun h9 => by omega⟩, fun h => h.2.1 (by omega)⟩, rfl⟩ (by decide) (by decide) dX12_isWordGood_185
  · refine r_table (off := 179) (tgt := 186) F dX12_isWordGood_7 ((show ∀ w : Nat, w < 36 → ((23 ≤ w ∧ w ≤ 25)) → (if (nI w).toInt < 1 ∨ 34 < (nI w).toInt then some (275 : Int) else (#[149, 149, 275, 275, 275, 275, 275, 275, 275, 275, 275, 275, 275, 275, 275, 275, 275, 275, 170, 170, 170, 170, 179, 179, 179, 275, 275, 186, 186, 275, 194, 230, 238, 194] : Array Int)[((nI w).toInt - 1).toNat]?) = some (179 : Int) from by decide) w hw w7) (by decide) ?_
    refine r_iload_n F dX12_isWordGood_186 rfl ?_
    refine r_iconst (v := 0) F dX12_isWordGood_187 (by decide) ?_
    refine r_iconst (v := 1) F dX12_isWordGood_188 (by decide) ?_
    refine c_Si F G (mm_isIn _ _ _) (va_cwS 3 F.2.2.2.2 (zgS km_X12_126 ks_X12_isIn kn_X12 ko_X12_isIn) rfl rfl rfl hd_yX12_isIn ⟨Nat.le_of_ble_eq_true rfl, Nat.le_of_ble_eq_true rfl⟩) rfl rfl (Nat.le_of_ble_eq_true rfl) dX12_isWordGood_189 ⟨Nat.le_of_ble_eq_true rfl, Nat.le_of_ble_eq_true rfl⟩ (fun r189 S189 h189 => ?_)
    obtain ⟨a189, e189⟩ := h189
    have hs189 := e189.symm
    subst hs189
    have key : pIn a 0 1 ↔ ∃ j, j ≤ 1 ∧ a = nI j := pIn_iff (n := 1) (by decide)
    exact e_zret F hr a189.nar hlk ⟨(a189.iff key).iff ⟨fun q => ⟨fun h9 => by omega, fun h9 => by omega, fun _ => q, fun h9 => by omega, fun h9 => by omega, fun h9 => by omega, fun h9 => by omega⟩, fun h => h.2.2.1 (by omega)⟩, rfl⟩ (by decide) (by decide) dX12_isWordGood_192
  · refine r_table (off := 186) (tgt := 193) F dX12_isWordGood_7 ((show ∀ w : Nat, w < 36 → ((28 ≤ w ∧ w ≤ 29)) → (if (nI w).toInt < 1 ∨ 34 < (nI w).toInt then some (275 : Int) else (#[149, 149, 275, 275, 275, 275, 275, 275, 275, 275, 275, 275, 275, 275, 275, 275, 275, 275, 170, 170, 170, 170, 179, 179, 179, 275, 275, 186, 186, 275, 194, 230, 238, 194] : Array Int)[((nI w).toInt - 1).toNat]?) = some (186 : Int) from by decide) w hw w7) (by decide) ?_
    refine r_iload_n F dX12_isWordGood_193 rfl ?_
    refine r_iconst (v := 0) F dX12_isWordGood_194 (by decide) ?_
    refine r_bipush (v := 30) F dX12_isWordGood_195 (by decide) ?_
    refine c_Si F G (mm_isIn _ _ _) (va_cwS 3 F.2.2.2.2 (zgS km_X12_126 ks_X12_isIn kn_X12 ko_X12_isIn) rfl rfl rfl hd_yX12_isIn ⟨Nat.le_of_ble_eq_true rfl, Nat.le_of_ble_eq_true rfl⟩) rfl rfl (Nat.le_of_ble_eq_true rfl) dX12_isWordGood_197 ⟨Nat.le_of_ble_eq_true rfl, Nat.le_of_ble_eq_true rfl⟩ (fun r197 S197 h197 => ?_)
    obtain ⟨a197, e197⟩ := h197
    have hs197 := e197.symm
    subst hs197
    have key : pIn a 0 30 ↔ ∃ j, j ≤ 30 ∧ a = nI j := pIn_iff (n := 30) (by decide)
    exact e_zret F hr a197.nar hlk ⟨(a197.iff key).iff ⟨fun q => ⟨fun h9 => by omega, fun h9 => by omega, fun h9 => by omega, fun _ => q, fun h9 => by omega, fun h9 => by omega, fun h9 => by omega⟩, fun h => h.2.2.2.1 (by omega)⟩, rfl⟩ (by decide) (by decide) dX12_isWordGood_200
  · refine r_table (off := 194) (tgt := 201) F dX12_isWordGood_7 ((show ∀ w : Nat, w < 36 → (w = 31 ∨ w = 34) → (if (nI w).toInt < 1 ∨ 34 < (nI w).toInt then some (275 : Int) else (#[149, 149, 275, 275, 275, 275, 275, 275, 275, 275, 275, 275, 275, 275, 275, 275, 275, 275, 170, 170, 170, 170, 179, 179, 179, 275, 275, 186, 186, 275, 194, 230, 238, 194] : Array Int)[((nI w).toInt - 1).toNat]?) = some (194 : Int) from by decide) w hw w7) (by decide) ?_
    refine r_iload_n F dX12_isWordGood_201 rfl ?_
    refine r_if_lt (tgt := 235) F dX12_isWordGood_202 (by decide) (fun c202 => ?_) (fun c202 => ?_)
    · refine r_iconst (v := 0) F dX12_isWordGood_235 (by decide) ?_
      exact e_zret F hr rfl hlk ⟨zbo.n (fun h => by obtain ⟨j, q1, q2, _⟩ := h.2.2.2.2.1 (by omega); rw [q2] at c202; exact nI_pos (by omega) c202), rfl⟩ (by decide) (by decide) dX12_isWordGood_236
    · refine r_iload_n F dX12_isWordGood_205 rfl ?_
      refine r_aload_n F dX12_isWordGood_206 rfl ?_
      refine gq_symbols F G hS dX12_isWordGood_207 ?_
      refine r_iload F dX12_isWordGood_210 rfl ?_
      refine al_symbols F G hS (f / 8) rfl hf6 dX12_isWordGood_212 ?_
      refine r_icmp_ge (tgt := 235) F dX12_isWordGood_213 (by decide) (fun c213 => ?_) (fun c213 => ?_)
      · refine r_iconst (v := 0) F dX12_isWordGood_235 (by decide) ?_
        exact e_zret F hr rfl hlk ⟨zbo.n (fun h => by obtain ⟨j2, q1, q2, _⟩ := h.2.2.2.2.1 (by omega); rw [q2, hy.1, nI_leI (by omega) (by omega)] at c213; omega), rfl⟩ (by decide) (by decide) dX12_isWordGood_236
      · obtain ⟨j, hj31, ej⟩ := nI_of c202
        subst ej
        have hj : j < cn v 1204 (f / 8) := by have c9 := c213; rw [hy.1, nI_leI (by omega) (by omega)] at c9; omega
        refine r_aload_n F dX12_isWordGood_216 rfl ?_
        refine gq_kind F G hS dX12_isWordGood_217 ?_
        refine r_bipush (v := 16) F dX12_isWordGood_220 (by decide) ?_
        refine r_iload F dX12_isWordGood_222 rfl ?_
        refine r_imul F dX12_isWordGood_224 ?_
        refine r_iload_n F dX12_isWordGood_225 rfl ?_
        refine r_iadd F dX12_isWordGood_226 ?_
        refine al_kind F G hS (16 * (f / 8) + j) (show (16 : Int32) * nI (f / 8) + nI j = nI (16 * (f / 8) + j) by rw [nl16, nI_mul, nI_add]) (by omega) dX12_isWordGood_227 ?_
        refine r_if_ne (tgt := 235) F dX12_isWordGood_228 (by decide) (fun c228 => ?_) (fun c228 => ?_)
        · refine r_iconst (v := 0) F dX12_isWordGood_235 (by decide) ?_
          exact e_zret F hr rfl hlk ⟨zbo.n (fun h => by obtain ⟨j2, q1, q2, q3⟩ := h.2.2.2.2.1 (by omega); have q4 := (nI_eq (by omega) (by omega)).mp q2; subst q4; exact c228 q3), rfl⟩ (by decide) (by decide) dX12_isWordGood_236
        · refine r_iconst (v := 1) F dX12_isWordGood_231 (by decide) ?_
          refine r_goto (tgt := 236) F dX12_isWordGood_232 (by decide) ?_
          exact e_zret F hr rfl hlk ⟨zbo.y ⟨fun h9 => by omega, fun h9 => by omega, fun h9 => by omega, fun h9 => by omega, fun _ => ⟨j, hj, rfl, c228⟩, fun h9 => by omega, fun h9 => by omega⟩, rfl⟩ (by decide) (by decide) dX12_isWordGood_236
  · refine r_table (off := 230) (tgt := 237) F dX12_isWordGood_7 ((show ∀ w : Nat, w < 36 → (w = 32) → (if (nI w).toInt < 1 ∨ 34 < (nI w).toInt then some (275 : Int) else (#[149, 149, 275, 275, 275, 275, 275, 275, 275, 275, 275, 275, 275, 275, 275, 275, 275, 275, 170, 170, 170, 170, 179, 179, 179, 275, 275, 186, 186, 275, 194, 230, 238, 194] : Array Int)[((nI w).toInt - 1).toNat]?) = some (230 : Int) from by decide) w hw w7) (by decide) ?_
    refine r_iload_n F dX12_isWordGood_237 rfl ?_
    refine r_iconst (v := 0) F dX12_isWordGood_238 (by decide) ?_
    refine r_bipush (v := 9) F dX12_isWordGood_239 (by decide) ?_
    refine c_Si F G (mm_isIn _ _ _) (va_cwS 3 F.2.2.2.2 (zgS km_X12_126 ks_X12_isIn kn_X12 ko_X12_isIn) rfl rfl rfl hd_yX12_isIn ⟨Nat.le_of_ble_eq_true rfl, Nat.le_of_ble_eq_true rfl⟩) rfl rfl (Nat.le_of_ble_eq_true rfl) dX12_isWordGood_241 ⟨Nat.le_of_ble_eq_true rfl, Nat.le_of_ble_eq_true rfl⟩ (fun r241 S241 h241 => ?_)
    obtain ⟨a241, e241⟩ := h241
    have hs241 := e241.symm
    subst hs241
    have key : pIn a 0 9 ↔ ∃ j, j ≤ 9 ∧ a = nI j := pIn_iff (n := 9) (by decide)
    exact e_zret F hr a241.nar hlk ⟨(a241.iff key).iff ⟨fun q => ⟨fun h9 => by omega, fun h9 => by omega, fun h9 => by omega, fun h9 => by omega, fun h9 => by omega, fun _ => q, fun h9 => by omega⟩, fun h => h.2.2.2.2.2.1 (by omega)⟩, rfl⟩ (by decide) (by decide) dX12_isWordGood_244
  · refine r_table (off := 238) (tgt := 245) F dX12_isWordGood_7 ((show ∀ w : Nat, w < 36 → (w = 33) → (if (nI w).toInt < 1 ∨ 34 < (nI w).toInt then some (275 : Int) else (#[149, 149, 275, 275, 275, 275, 275, 275, 275, 275, 275, 275, 275, 275, 275, 275, 275, 275, 170, 170, 170, 170, 179, 179, 179, 275, 275, 186, 186, 275, 194, 230, 238, 194] : Array Int)[((nI w).toInt - 1).toNat]?) = some (238 : Int) from by decide) w hw w7) (by decide) ?_
    refine r_iload_n F dX12_isWordGood_245 rfl ?_
    refine r_if_lt (tgt := 280) F dX12_isWordGood_246 (by decide) (fun c246 => ?_) (fun c246 => ?_)
    · refine r_iconst (v := 0) F dX12_isWordGood_280 (by decide) ?_
      exact e_zret F hr rfl hlk ⟨zbo.n (fun h => by obtain ⟨j, q1, q2, _⟩ := h.2.2.2.2.2.2 (by omega); rw [q2] at c246; exact nI_pos (by omega) c246), rfl⟩ (by decide) (by decide) dX12_isWordGood_281
    · refine r_iload_n F dX12_isWordGood_249 rfl ?_
      refine r_aload_n F dX12_isWordGood_250 rfl ?_
      refine gq_symbols F G hS dX12_isWordGood_251 ?_
      refine r_iload F dX12_isWordGood_254 rfl ?_
      refine al_symbols F G hS (f / 8) rfl hf6 dX12_isWordGood_256 ?_
      refine r_icmp_ge (tgt := 280) F dX12_isWordGood_257 (by decide) (fun c257 => ?_) (fun c257 => ?_)
      · refine r_iconst (v := 0) F dX12_isWordGood_280 (by decide) ?_
        exact e_zret F hr rfl hlk ⟨zbo.n (fun h => by obtain ⟨j2, q1, q2, _⟩ := h.2.2.2.2.2.2 (by omega); rw [q2, hy.1, nI_leI (by omega) (by omega)] at c257; omega), rfl⟩ (by decide) (by decide) dX12_isWordGood_281
      · obtain ⟨j, hj31, ej⟩ := nI_of c246
        subst ej
        have hj : j < cn v 1204 (f / 8) := by have c9 := c257; rw [hy.1, nI_leI (by omega) (by omega)] at c9; omega
        refine r_aload_n F dX12_isWordGood_260 rfl ?_
        refine gq_kind F G hS dX12_isWordGood_261 ?_
        refine r_bipush (v := 16) F dX12_isWordGood_264 (by decide) ?_
        refine r_iload F dX12_isWordGood_266 rfl ?_
        refine r_imul F dX12_isWordGood_268 ?_
        refine r_iload_n F dX12_isWordGood_269 rfl ?_
        refine r_iadd F dX12_isWordGood_270 ?_
        refine al_kind F G hS (16 * (f / 8) + j) (show (16 : Int32) * nI (f / 8) + nI j = nI (16 * (f / 8) + j) by rw [nl16, nI_mul, nI_add]) (by omega) dX12_isWordGood_271 ?_
        refine r_iconst (v := 1) F dX12_isWordGood_272 (by decide) ?_
        refine r_icmp_ne (tgt := 280) F dX12_isWordGood_273 (by decide) (fun c273 => ?_) (fun c273 => ?_)
        · refine r_iconst (v := 0) F dX12_isWordGood_280 (by decide) ?_
          exact e_zret F hr rfl hlk ⟨zbo.n (fun h => by obtain ⟨j2, q1, q2, q3⟩ := h.2.2.2.2.2.2 (by omega); have q4 := (nI_eq (by omega) (by omega)).mp q2; subst q4; exact c273 q3), rfl⟩ (by decide) (by decide) dX12_isWordGood_281
        · refine r_iconst (v := 1) F dX12_isWordGood_276 (by decide) ?_
          refine r_goto (tgt := 281) F dX12_isWordGood_277 (by decide) ?_
          exact e_zret F hr rfl hlk ⟨zbo.y ⟨fun h9 => by omega, fun h9 => by omega, fun h9 => by omega, fun h9 => by omega, fun h9 => by omega, fun h9 => by omega, fun _ => ⟨j, hj, rfl, c273⟩⟩, rfl⟩ (by decide) (by decide) dX12_isWordGood_281
/-- a call of a function whose shape isn't the one that the symbol says -/
def wC (v : zV) (f w : Nat) (a : Int32) : Prop := w = 31 ∧ ∃ j g, a = nI j ∧ j < cn v 1204 (f / 8) ∧ fO v (16 * (f / 8) + j) = some g ∧ ¬ sh v g = sg v (16 * (f / 8) + j)
theorem fO_lt {v : zV} (hv : vRg v) (hD : vD v) {y g : Nat} (hy : y < 96) (ht : y % 16 < cn v 1204 (y / 16)) (h : fO v y = some g) : g < 48 := by
  unfold fO at h
  cases hz : mng v y with
  | none => rw [hz] at h; cases h
  | some z =>
    rw [hz] at h
    obtain ⟨h1, h2, h3⟩ := mng_t hy ht hz
    have h4 := (hD.d hv h1 h2 h3).2.1
    cases h
    show 8 * (z / 16) + cn v 1217 z < 48
    omega
theorem sg_le {v : zV} (hv : vRg v) (hD : vD v) {y : Nat} (hy : y < 96) (ht : y % 16 < cn v 1204 (y / 16)) : sg v y ≤ 64 := by
  unfold sg
  by_cases h : v.1 1217 y = -1
  · rw [if_pos h]
    exact (rg_1218 hv hy).2
  · rw [if_neg h]
    have h4 := (hD.d hv hy ht h).2.1
    have := sh_le hv (f := 8 * (y / 16) + cn v 1217 y) (by omega)
    omega
set_option maxRecDepth 100000 in
set_option maxHeartbeats 4000000 in
theorem mm_isWrongCall {l : Launch} {N0 t0 : Nat} {D : va_G} {cy : Nat → ClassId} {S : zS} {S0 : zS} {g : Nat} {qa : Nat → Nat} {v : zV} (hS : zmR S0 g qa v S) {f w : Nat} {a : Int32} (hv : vRg v) (hA : vA v) (hD : vD v) (hf : f < 48) (hw : w < 36) (ha : w = 31 → ∃ j, a = nI j ∧ j < cn v 1204 (f / 8)) : zMi l yX12_isWrongCall (zws yX12_isWrongCall cX12_isWrongCall 6 (some .boolean)) { frames := 2, cells := 0, slots := 0, locals := 48 } N0 t0 D cy S [.ref g, .int (nI f), .int (nI w), .int a] (fun r S' => zbo r (wC v f w a) ∧ S' = S) 0 0 := by
  refine zMi.of (cc := cX12_isWrongCall) (maxL := 6) (ret := (some .boolean)) (by decide) rfl (Nat.le_of_ble_eq_true rfl) ?_
  intro p e s m args below meth c F G hr hlk hnm
  refine r_iload_n F dX12_isWrongCall_0 rfl ?_
  refine r_bipush (v := 31) F dX12_isWrongCall_1 (by decide) ?_
  refine r_icmp_eq (tgt := 8) F dX12_isWrongCall_3 (by decide) (fun c3 => ?_) (fun c3 => ?_)
  · have hw31 : w = 31 := by rw [show (31 : Int32) = nI 31 from rfl, nI_eq (by omega) (by omega)] at c3; exact c3
    obtain ⟨j, ej, hj⟩ := ha hw31
    subst ej
    have hy2 := (rg_1204 hv (k := f / 8) (by omega)).2
    refine r_bipush (v := 16) F dX12_isWrongCall_8 (by decide) ?_
    refine r_iload_n F dX12_isWrongCall_10 rfl ?_
    refine r_bipush (v := 8) F dX12_isWrongCall_11 (by decide) ?_
    refine r_idiv F dX12_isWrongCall_13 (by decide) ?_
    refine r_imul F dX12_isWrongCall_14 ?_
    refine r_iload_n F dX12_isWrongCall_15 rfl ?_
    refine r_iadd F dX12_isWrongCall_16 ?_
    rw [show nI f / 8 = nI (f / 8) by rw [nl8]; exact nI_div (by omega) (by omega), show (16 : Int32) * nI (f / 8) + nI j = nI (16 * (f / 8) + j) by rw [nl16, nI_mul, nI_add]]
    have hY : (16 * (f / 8) + j) < 96 := by omega
    have hT : (16 * (f / 8) + j) % 16 < cn v 1204 ((16 * (f / 8) + j) / 16) := by rw [show (16 * (f / 8) + j) / 16 = f / 8 by omega]; omega
    refine r_istore F dX12_isWrongCall_17 (by decide) ?_
    refine r_aload_n F dX12_isWrongCall_19 rfl ?_
    refine r_iload F dX12_isWrongCall_20 rfl ?_
    refine c_Vi (ci := 12) F G (mm_functionOf hS (y := (16 * (f / 8) + j)) hv hA hD hY hT) (cwV 1 F.2.2.2.2 (zgV km_X12_189 ki_X12_functionOf ke_X12_X12_functionOf kn_X12 ko_X12_functionOf) rfl rfl rfl ⟨rfl, hd_yX12_functionOf⟩ ⟨Nat.le_of_ble_eq_true rfl, Nat.le_of_ble_eq_true rfl⟩) rfl (by decide) hS.al rfl rfl (Nat.le_of_ble_eq_true rfl) dX12_isWrongCall_22 ⟨Nat.le_of_ble_eq_true rfl, Nat.le_of_ble_eq_true rfl⟩ (fun r22 S22 h22 => ?_)
    obtain ⟨a22, e22⟩ := h22
    have hs22 := e22.symm
    subst hs22
    subst a22
    have hlt := enc_lt (x := fO v (16 * (f / 8) + j)) (fun z hz => by have := fO_lt hv hD hY hT hz; omega)
    refine r_istore F dX12_isWrongCall_25 (by decide) ?_
    refine r_iload F dX12_isWrongCall_27 rfl ?_
    refine r_if_lt (tgt := 51) F dX12_isWrongCall_29 (by decide) (fun c29 => ?_) (fun c29 => ?_)
    · refine r_iconst (v := 0) F dX12_isWrongCall_51 (by decide) ?_
      exact e_zret F hr rfl hlk ⟨zbo.n (fun h => by obtain ⟨_, j2, g2, q1, q2, q3, q4⟩ := h; have q5 := (nI_eq (by omega) (by omega)).mp q1; subst q5; rw [hlt.mp c29] at q3; cases q3), rfl⟩ (by decide) (by decide) dX12_isWrongCall_52
    · obtain ⟨g1, hg⟩ : ∃ g1, fO v (16 * (f / 8) + j) = some g1 := by
        cases hz : fO v (16 * (f / 8) + j) with
        | some z => exact ⟨z, rfl⟩
        | none => exact absurd (hlt.mpr hz) c29
      have hg48 := fO_lt hv hD hY hT hg
      rw [hg]
      show zW p l e _ s m args below meth c _ N0 D cy _ _ _ S (zs1 _ _ (.int (nI g1))) _ _
      have hs1 := sh_le hv hg48
      have hs2 := sg_le hv hD hY hT
      refine r_aload_n F dX12_isWrongCall_32 rfl ?_
      refine r_iload F dX12_isWrongCall_33 rfl ?_
      refine c_Vi (ci := 12) F G (mm_shape hS hv hg48) (cwV 1 F.2.2.2.2 (zgV km_X12_156 ki_X12_shape ke_X12_X12_shape kn_X12 ko_X12_shape) rfl rfl rfl ⟨rfl, hd_yX12_shape⟩ ⟨Nat.le_of_ble_eq_true rfl, Nat.le_of_ble_eq_true rfl⟩) rfl (by decide) hS.al rfl rfl (Nat.le_of_ble_eq_true rfl) dX12_isWrongCall_35 ⟨Nat.le_of_ble_eq_true rfl, Nat.le_of_ble_eq_true rfl⟩ (fun r35 S35 h35 => ?_)
      obtain ⟨a35, e35⟩ := h35
      have hs35 := e35.symm
      subst hs35
      subst a35
      refine r_aload_n F dX12_isWrongCall_38 rfl ?_
      refine r_iload F dX12_isWrongCall_39 rfl ?_
      refine c_Vi (ci := 12) F G (mm_signature hS (y := (16 * (f / 8) + j)) hv hA hD hY hT) (cwV 1 F.2.2.2.2 (zgV km_X12_168 ki_X12_signature ke_X12_X12_signature kn_X12 ko_X12_signature) rfl rfl rfl ⟨rfl, hd_yX12_signature⟩ ⟨Nat.le_of_ble_eq_true rfl, Nat.le_of_ble_eq_true rfl⟩) rfl (by decide) hS.al rfl rfl (Nat.le_of_ble_eq_true rfl) dX12_isWrongCall_41 ⟨Nat.le_of_ble_eq_true rfl, Nat.le_of_ble_eq_true rfl⟩ (fun r41 S41 h41 => ?_)
      obtain ⟨a41, e41⟩ := h41
      have hs41 := e41.symm
      subst hs41
      subst a41
      refine r_icmp_eq (tgt := 51) F dX12_isWrongCall_44 (by decide) (fun c44 => ?_) (fun c44 => ?_)
      · refine r_iconst (v := 0) F dX12_isWrongCall_51 (by decide) ?_
        exact e_zret F hr rfl hlk ⟨zbo.n (fun h => by obtain ⟨_, j2, g2, q1, q2, q3, q4⟩ := h; have q5 := (nI_eq (by omega) (by omega)).mp q1; subst q5; rw [hg] at q3; cases q3; exact q4 ((nI_eq (by omega) (by omega)).mp c44)), rfl⟩ (by decide) (by decide) dX12_isWrongCall_52
      · refine r_iconst (v := 1) F dX12_isWrongCall_47 (by decide) ?_
        refine r_goto (tgt := 52) F dX12_isWrongCall_48 (by decide) ?_
        exact e_zret F hr rfl hlk ⟨zbo.y ⟨hw31, j, g1, rfl, hj, hg, fun h9 => c44 (by rw [h9])⟩, rfl⟩ (by decide) (by decide) dX12_isWrongCall_52
  · refine r_iconst (v := 0) F dX12_isWrongCall_6 (by decide) ?_
    exact e_zret F hr rfl hlk ⟨zbo.n (fun h => c3 (by rw [h.1]; rfl)), rfl⟩ (by decide) (by decide) dX12_isWrongCall_7
set_option maxRecDepth 100000 in
set_option maxHeartbeats 4000000 in
theorem mm_fails {l : Launch} {N0 t0 : Nat} {D : va_G} {cy : Nat → ClassId} {S : zS} {S0 : zS} {g : Nat} {qa : Nat → Nat} {v : zV} (hS : zmR S0 g qa v S) {x y : Int32} : zMi l yX12_fails (zws yX12_fails cX12_fails 3 (some .boolean)) { frames := 0, cells := 0, slots := 0, locals := 0 } N0 t0 D cy S [.ref g, .int x, .int y] (fun r S' => r = 1 ∧ zmR S0 g qa (u1 (u1 v 1221 0 x) 1220 0 y) S') 0 0 := by
  refine zMi.of (cc := cX12_fails) (maxL := 3) (ret := (some .boolean)) (by decide) rfl (Nat.le_of_ble_eq_true rfl) ?_
  intro p e s m args below meth c F G hr hlk hnm
  refine r_aload_n F dX12_fails_0 rfl ?_
  refine r_iload_n F dX12_fails_1 rfl ?_
  refine pi_fault F G hS dX12_fails_2 (fun S hS => ?_)
  refine r_aload_n F dX12_fails_5 rfl ?_
  refine r_iload_n F dX12_fails_6 rfl ?_
  refine pi_place F G hS dX12_fails_7 (fun S hS => ?_)
  refine r_iconst (v := 1) F dX12_fails_10 (by decide) ?_
  exact e_zret F hr rfl hlk ⟨rfl, hS⟩ (by decide) (by decide) dX12_fails_11
/-- a fault's place at a symbol, at a word -/
def plY (y : Nat) : Nat := 100 * (y / 16) + y % 16
def plW (f k : Nat) : Nat := 1000 * (f / 8) + 100 * (f % 8) + k
def bY (v : zV) (w y : Nat) : Prop := if w = 3 then sD v y else if w = 4 then mS v y else oK v y
/-- the first bad one: z is the first below n that is there and bad -/
def isFst (P : Nat → Prop) (n : Nat) (r : Option Nat) : Prop := match r with
  | none => ∀ z, z < n → ¬ P z
  | some z => z < n ∧ P z ∧ ∀ x, x < z → ¬ P x
theorem isFst_s {P : Nat → Prop} {n z : Nat} (h1 : z < n) (h2 : P z) (h3 : ∀ x, x < z → ¬ P x) : isFst P n (some z) := ⟨h1, h2, h3⟩
theorem isFst_u {P : Nat → Prop} {n : Nat} {r r2 : Option Nat} (h : isFst P n r) (h2 : isFst P n r2) : r = r2 := by
  cases r with
  | none =>
    cases r2 with
    | none => rfl
    | some z => exact absurd h2.2.1 (h z h2.1)
  | some z =>
    cases r2 with
    | none => exact absurd h.2.1 (h2 z h.1)
    | some z2 =>
      rcases Nat.lt_trichotomy z z2 with q | q | q
      · exact absurd h.2.1 (h2.2.2 z q)
      · rw [q]
      · exact absurd h2.2.1 (h.2.2 z2 q)
set_option maxRecDepth 100000 in
set_option maxHeartbeats 4000000 in
theorem mm_failsInSymbols {l : Launch} {N0 t0 : Nat} {D : va_G} {cy : Nat → ClassId} {S : zS} {S0 : zS} {g : Nat} {qa : Nat → Nat} {v : zV} (hS : zmR S0 g qa v S) {w : Nat} (hv : vRg v) (hA : vA v) (hD : vD v) (hw : w = 3 ∨ w = 4 ∨ w = 5) : zMi l yX12_failsInSymbols (zws yX12_failsInSymbols cX12_failsInSymbols 4 (some .boolean)) { frames := 2, cells := 0, slots := 0, locals := 50 } N0 t0 D cy S [.ref g, .int (nI w)] (fun r S' => (r = 0 ∧ (∀ z, z < 96 → ¬ (z % 16 < cn v 1204 (z / 16) ∧ bY v w z)) ∧ S' = S) ∨ (r = 1 ∧ ∃ y, y < 96 ∧ (y % 16 < cn v 1204 (y / 16) ∧ bY v w y) ∧ (∀ z, z < y → ¬ (z % 16 < cn v 1204 (z / 16) ∧ bY v w z)) ∧ zmR S0 g qa (u1 (u1 v 1221 0 (nI w)) 1220 0 (nI (plY y))) S')) 0 0 := by
  refine zMi.of (cc := cX12_failsInSymbols) (maxL := 4) (ret := (some .boolean)) (by decide) rfl (Nat.le_of_ble_eq_true rfl) ?_
  intro p e s m args below meth c F G hr hlk hnm
  refine r_iconst (v := 0) F dX12_failsInSymbols_0 (by decide) ?_
  refine r_istore_n F dX12_failsInSymbols_1 (by decide) ?_
  refine z_loop (fun n S9 lv => ∃ y, y + n = 96 ∧ S = S9 ∧ (∀ z, z < y → ¬ (z % 16 < cn v 1204 (z / 16) ∧ bY v w z)) ∧ lv = [(2, .int (nI y)), (0, .ref g), (1, .int (nI w))]) 96 ?_ ⟨0, by omega, rfl, fun z hz => absurd hz (Nat.not_lt_zero z), rfl⟩
  rintro n S9 lv ⟨y, hn9, rfl, hst, rfl⟩ ih
  refine r_iload_n F dX12_failsInSymbols_2 rfl ?_
  refine r_bipush (v := 96) F dX12_failsInSymbols_3 (by decide) ?_
  rw [show (96 : Int32) = nI 96 from rfl]
  refine r_icmp_ge (tgt := 87) F dX12_failsInSymbols_5 (by decide) (fun c5 => ?_) (fun c5 => ?_)
  · refine r_iconst (v := 0) F dX12_failsInSymbols_87 (by decide) ?_
    exact e_zret F hr rfl hlk (Or.inl ⟨rfl, fun z hz => hst z (by rw [nI_leI (by omega) (by omega)] at c5; omega), rfl⟩) (by decide) (by decide) dX12_failsInSymbols_88
  · have hy : y < 96 := by rw [nI_leI (by omega) (by omega)] at c5; omega
    have hb4 := (rg_1204 hv (k := y / 16) (by omega)).2
    refine r_iload_n F dX12_failsInSymbols_8 rfl ?_
    refine r_bipush (v := 16) F dX12_failsInSymbols_9 (by decide) ?_
    refine r_irem F dX12_failsInSymbols_11 (by decide) ?_
    refine r_aload_n F dX12_failsInSymbols_12 rfl ?_
    refine gq_symbols F G hS dX12_failsInSymbols_13 ?_
    refine r_iload_n F dX12_failsInSymbols_16 rfl ?_
    refine r_bipush (v := 16) F dX12_failsInSymbols_17 (by decide) ?_
    refine r_idiv F dX12_failsInSymbols_19 (by decide) ?_
    refine al_symbols F G hS (y / 16) (show nI y / 16 = _ by rw [nl16]; exact nI_div (by omega) (by omega)) (by omega) dX12_failsInSymbols_20 ?_
    rw [show nI y - nI y / 16 * 16 = nI (y % 16) by rw [nl16]; exact nI_mod (by omega) (by omega), (rg_1204 hv (k := y / 16) (by omega)).1]
    refine r_icmp_lt (tgt := 27) F dX12_failsInSymbols_21 (by decide) (fun c21 => ?_) (fun c21 => ?_)
    · have ht : y % 16 < cn v 1204 (y / 16) := by rw [nI_ltI (by omega) (by omega)] at c21; omega
      refine r_iload_n F dX12_failsInSymbols_27 rfl ?_
      refine r_iconst (v := 3) F dX12_failsInSymbols_28 (by decide) ?_
      refine r_icmp_ne (tgt := 40) F dX12_failsInSymbols_29 (by decide) (fun c29 => ?_) (fun c29 => ?_)
      · refine r_iload_n F dX12_failsInSymbols_40 rfl ?_
        refine r_iconst (v := 4) F dX12_failsInSymbols_41 (by decide) ?_
        refine r_icmp_ne (tgt := 53) F dX12_failsInSymbols_42 (by decide) (fun c42 => ?_) (fun c42 => ?_)
        · refine r_aload_n F dX12_failsInSymbols_53 rfl ?_
          refine r_iload_n F dX12_failsInSymbols_54 rfl ?_
          refine c_Vi (ci := 12) F G (mm_isOtherKind hS hv hy) (cwV 1 F.2.2.2.2 (zgV km_X12_216 ki_X12_isOtherKind ke_X12_X12_isOtherKind kn_X12 ko_X12_isOtherKind) rfl rfl rfl ⟨rfl, hd_yX12_isOtherKind⟩ ⟨Nat.le_of_ble_eq_true rfl, Nat.le_of_ble_eq_true rfl⟩) rfl (by decide) hS.al rfl rfl (Nat.le_of_ble_eq_true rfl) dX12_failsInSymbols_55 ⟨Nat.le_of_ble_eq_true rfl, Nat.le_of_ble_eq_true rfl⟩ (fun r55 S55 h55 => ?_)
          obtain ⟨a55, e55⟩ := h55
          have hs55 := e55.symm
          subst hs55
          have eb : bY v w y = oK v y := by unfold bY; rw [if_neg (fun h9 => c29 (by rw [h9]; rfl)), if_neg (fun h9 => c42 (by rw [h9]; rfl))]
          have abad : zbo r55 (bY v w y) := by rw [eb]; exact a55
          refine r_istore_n F dX12_failsInSymbols_58 (by decide) ?_
          refine r_iload_n F dX12_failsInSymbols_59 rfl ?_
          refine r_if_eq (tgt := 81) F dX12_failsInSymbols_60 (by decide) (fun c60 => ?_) (fun c60 => ?_)
          · have hnb : ¬ (y % 16 < cn v 1204 (y / 16) ∧ bY v w y) := fun h9 => abad.f c60 h9.2
            refine r_iinc F dX12_failsInSymbols_81 rfl (by decide) ?_
            refine r_goto (tgt := 2) F dX12_failsInSymbols_84 (by decide) ?_
            refine zsub (lv' := [(2, .int (nI (y + 1))), (0, .ref g), (1, .int (nI w))]) (by rw [show nI (y + 1) = nI y + Int32.ofInt 1 from (nI_add y 1).symm]; simp [zs1, Value.category, show ((1 : Fin 4) : Nat) = 1 from rfl, show ((2 : Fin 4) : Nat) = 2 from rfl, show ((3 : Fin 4) : Nat) = 3 from rfl]) ?_
            exact ih (n - 1) _ _ (by omega) ⟨y + 1, by omega, rfl, fun z hz h9 => by
              rcases Nat.lt_or_ge z y with h8 | h8
              · exact hst z h8 h9
              · rw [show z = y by omega] at h9
                exact hnb h9, rfl⟩
          · refine r_aload_n F dX12_failsInSymbols_63 rfl ?_
            refine r_iload_n F dX12_failsInSymbols_64 rfl ?_
            refine r_bipush (v := 100) F dX12_failsInSymbols_65 (by decide) ?_
            refine r_iload_n F dX12_failsInSymbols_67 rfl ?_
            refine r_bipush (v := 16) F dX12_failsInSymbols_68 (by decide) ?_
            refine r_idiv F dX12_failsInSymbols_70 (by decide) ?_
            refine r_imul F dX12_failsInSymbols_71 ?_
            refine r_iload_n F dX12_failsInSymbols_72 rfl ?_
            refine r_bipush (v := 16) F dX12_failsInSymbols_73 (by decide) ?_
            refine r_irem F dX12_failsInSymbols_75 (by decide) ?_
            refine r_iadd F dX12_failsInSymbols_76 ?_
            rw [show nI y / 16 = nI (y / 16) by rw [nl16]; exact nI_div (by omega) (by omega), show nI y - nI (y / 16) * 16 = nI (y % 16) by rw [nl16, ← nI_mod (a := y) (b := 16) (by omega) (by omega), nI_div (by omega) (by omega)], show (100 : Int32) * nI (y / 16) + nI (y % 16) = nI (plY y) by rw [show (100 : Int32) = nI 100 from rfl, nI_mul, nI_add]; rfl]
            refine c_Vi (ci := 12) F G (mm_fails hS) (cwV 2 F.2.2.2.2 (zgV km_X12_201 ki_X12_fails ke_X12_X12_fails kn_X12 ko_X12_fails) rfl rfl rfl ⟨rfl, hd_yX12_fails⟩ ⟨Nat.le_of_ble_eq_true rfl, Nat.le_of_ble_eq_true rfl⟩) rfl (by decide) hS.al rfl rfl (Nat.le_of_ble_eq_true rfl) dX12_failsInSymbols_77 ⟨Nat.le_of_ble_eq_true rfl, Nat.le_of_ble_eq_true rfl⟩ (fun r77 S77 h77 => ?_)
            obtain ⟨a77, b77⟩ := h77
            subst a77
            exact e_zret F hr rfl hlk (Or.inr ⟨rfl, y, hy, ⟨ht, abad.t c60⟩, hst, b77⟩) (by decide) (by decide) dX12_failsInSymbols_80
        · refine r_aload_n F dX12_failsInSymbols_45 rfl ?_
          refine r_iload_n F dX12_failsInSymbols_46 rfl ?_
          refine c_Vi (ci := 12) F G (mm_isMissing hS hv hA hD hy ht) (cwV 1 F.2.2.2.2 (zgV km_X12_213 ki_X12_isMissing ke_X12_X12_isMissing kn_X12 ko_X12_isMissing) rfl rfl rfl ⟨rfl, hd_yX12_isMissing⟩ ⟨Nat.le_of_ble_eq_true rfl, Nat.le_of_ble_eq_true rfl⟩) rfl (by decide) hS.al rfl rfl (Nat.le_of_ble_eq_true rfl) dX12_failsInSymbols_47 ⟨Nat.le_of_ble_eq_true rfl, Nat.le_of_ble_eq_true rfl⟩ (fun r47 S47 h47 => ?_)
          obtain ⟨a47, e47⟩ := h47
          have hs47 := e47.symm
          subst hs47
          have eb : bY v w y = mS v y := by unfold bY; rw [if_neg (fun h9 => c29 (by rw [h9]; rfl)), if_pos (by rw [nl4, nI_eq (by omega) (by omega)] at c42; exact c42)]
          have abad : zbo r47 (bY v w y) := by rw [eb]; exact a47
          refine r_goto (tgt := 58) F dX12_failsInSymbols_50 (by decide) ?_
          refine r_istore_n F dX12_failsInSymbols_58 (by decide) ?_
          refine r_iload_n F dX12_failsInSymbols_59 rfl ?_
          refine r_if_eq (tgt := 81) F dX12_failsInSymbols_60 (by decide) (fun c60 => ?_) (fun c60 => ?_)
          · have hnb : ¬ (y % 16 < cn v 1204 (y / 16) ∧ bY v w y) := fun h9 => abad.f c60 h9.2
            refine r_iinc F dX12_failsInSymbols_81 rfl (by decide) ?_
            refine r_goto (tgt := 2) F dX12_failsInSymbols_84 (by decide) ?_
            refine zsub (lv' := [(2, .int (nI (y + 1))), (0, .ref g), (1, .int (nI w))]) (by rw [show nI (y + 1) = nI y + Int32.ofInt 1 from (nI_add y 1).symm]; simp [zs1, Value.category, show ((1 : Fin 4) : Nat) = 1 from rfl, show ((2 : Fin 4) : Nat) = 2 from rfl, show ((3 : Fin 4) : Nat) = 3 from rfl]) ?_
            exact ih (n - 1) _ _ (by omega) ⟨y + 1, by omega, rfl, fun z hz h9 => by
              rcases Nat.lt_or_ge z y with h8 | h8
              · exact hst z h8 h9
              · rw [show z = y by omega] at h9
                exact hnb h9, rfl⟩
          · refine r_aload_n F dX12_failsInSymbols_63 rfl ?_
            refine r_iload_n F dX12_failsInSymbols_64 rfl ?_
            refine r_bipush (v := 100) F dX12_failsInSymbols_65 (by decide) ?_
            refine r_iload_n F dX12_failsInSymbols_67 rfl ?_
            refine r_bipush (v := 16) F dX12_failsInSymbols_68 (by decide) ?_
            refine r_idiv F dX12_failsInSymbols_70 (by decide) ?_
            refine r_imul F dX12_failsInSymbols_71 ?_
            refine r_iload_n F dX12_failsInSymbols_72 rfl ?_
            refine r_bipush (v := 16) F dX12_failsInSymbols_73 (by decide) ?_
            refine r_irem F dX12_failsInSymbols_75 (by decide) ?_
            refine r_iadd F dX12_failsInSymbols_76 ?_
            rw [show nI y / 16 = nI (y / 16) by rw [nl16]; exact nI_div (by omega) (by omega), show nI y - nI (y / 16) * 16 = nI (y % 16) by rw [nl16, ← nI_mod (a := y) (b := 16) (by omega) (by omega), nI_div (by omega) (by omega)], show (100 : Int32) * nI (y / 16) + nI (y % 16) = nI (plY y) by rw [show (100 : Int32) = nI 100 from rfl, nI_mul, nI_add]; rfl]
            refine c_Vi (ci := 12) F G (mm_fails hS) (cwV 2 F.2.2.2.2 (zgV km_X12_201 ki_X12_fails ke_X12_X12_fails kn_X12 ko_X12_fails) rfl rfl rfl ⟨rfl, hd_yX12_fails⟩ ⟨Nat.le_of_ble_eq_true rfl, Nat.le_of_ble_eq_true rfl⟩) rfl (by decide) hS.al rfl rfl (Nat.le_of_ble_eq_true rfl) dX12_failsInSymbols_77 ⟨Nat.le_of_ble_eq_true rfl, Nat.le_of_ble_eq_true rfl⟩ (fun r77 S77 h77 => ?_)
            obtain ⟨a77, b77⟩ := h77
            subst a77
            exact e_zret F hr rfl hlk (Or.inr ⟨rfl, y, hy, ⟨ht, abad.t c60⟩, hst, b77⟩) (by decide) (by decide) dX12_failsInSymbols_80
      · refine r_aload_n F dX12_failsInSymbols_32 rfl ?_
        refine r_iload_n F dX12_failsInSymbols_33 rfl ?_
        refine c_Vi (ci := 12) F G (mm_isStrongDouble hS hv hy) (cwV 1 F.2.2.2.2 (zgV km_X12_210 ki_X12_isStrongDouble ke_X12_X12_isStrongDouble kn_X12 ko_X12_isStrongDouble) rfl rfl rfl ⟨rfl, hd_yX12_isStrongDouble⟩ ⟨Nat.le_of_ble_eq_true rfl, Nat.le_of_ble_eq_true rfl⟩) rfl (by decide) hS.al rfl rfl (Nat.le_of_ble_eq_true rfl) dX12_failsInSymbols_34 ⟨Nat.le_of_ble_eq_true rfl, Nat.le_of_ble_eq_true rfl⟩ (fun r34 S34 h34 => ?_)
        obtain ⟨a34, e34⟩ := h34
        have hs34 := e34.symm
        subst hs34
        have eb : bY v w y = sD v y := if_pos (by rw [nl3, nI_eq (by omega) (by omega)] at c29; exact c29)
        have abad : zbo r34 (bY v w y) := by rw [eb]; exact a34
        refine r_goto (tgt := 58) F dX12_failsInSymbols_37 (by decide) ?_
        refine r_istore_n F dX12_failsInSymbols_58 (by decide) ?_
        refine r_iload_n F dX12_failsInSymbols_59 rfl ?_
        refine r_if_eq (tgt := 81) F dX12_failsInSymbols_60 (by decide) (fun c60 => ?_) (fun c60 => ?_)
        · have hnb : ¬ (y % 16 < cn v 1204 (y / 16) ∧ bY v w y) := fun h9 => abad.f c60 h9.2
          refine r_iinc F dX12_failsInSymbols_81 rfl (by decide) ?_
          refine r_goto (tgt := 2) F dX12_failsInSymbols_84 (by decide) ?_
          refine zsub (lv' := [(2, .int (nI (y + 1))), (0, .ref g), (1, .int (nI w))]) (by rw [show nI (y + 1) = nI y + Int32.ofInt 1 from (nI_add y 1).symm]; simp [zs1, Value.category, show ((1 : Fin 4) : Nat) = 1 from rfl, show ((2 : Fin 4) : Nat) = 2 from rfl, show ((3 : Fin 4) : Nat) = 3 from rfl]) ?_
          exact ih (n - 1) _ _ (by omega) ⟨y + 1, by omega, rfl, fun z hz h9 => by
            rcases Nat.lt_or_ge z y with h8 | h8
            · exact hst z h8 h9
            · rw [show z = y by omega] at h9
              exact hnb h9, rfl⟩
        · refine r_aload_n F dX12_failsInSymbols_63 rfl ?_
          refine r_iload_n F dX12_failsInSymbols_64 rfl ?_
          refine r_bipush (v := 100) F dX12_failsInSymbols_65 (by decide) ?_
          refine r_iload_n F dX12_failsInSymbols_67 rfl ?_
          refine r_bipush (v := 16) F dX12_failsInSymbols_68 (by decide) ?_
          refine r_idiv F dX12_failsInSymbols_70 (by decide) ?_
          refine r_imul F dX12_failsInSymbols_71 ?_
          refine r_iload_n F dX12_failsInSymbols_72 rfl ?_
          refine r_bipush (v := 16) F dX12_failsInSymbols_73 (by decide) ?_
          refine r_irem F dX12_failsInSymbols_75 (by decide) ?_
          refine r_iadd F dX12_failsInSymbols_76 ?_
          rw [show nI y / 16 = nI (y / 16) by rw [nl16]; exact nI_div (by omega) (by omega), show nI y - nI (y / 16) * 16 = nI (y % 16) by rw [nl16, ← nI_mod (a := y) (b := 16) (by omega) (by omega), nI_div (by omega) (by omega)], show (100 : Int32) * nI (y / 16) + nI (y % 16) = nI (plY y) by rw [show (100 : Int32) = nI 100 from rfl, nI_mul, nI_add]; rfl]
          refine c_Vi (ci := 12) F G (mm_fails hS) (cwV 2 F.2.2.2.2 (zgV km_X12_201 ki_X12_fails ke_X12_X12_fails kn_X12 ko_X12_fails) rfl rfl rfl ⟨rfl, hd_yX12_fails⟩ ⟨Nat.le_of_ble_eq_true rfl, Nat.le_of_ble_eq_true rfl⟩) rfl (by decide) hS.al rfl rfl (Nat.le_of_ble_eq_true rfl) dX12_failsInSymbols_77 ⟨Nat.le_of_ble_eq_true rfl, Nat.le_of_ble_eq_true rfl⟩ (fun r77 S77 h77 => ?_)
          obtain ⟨a77, b77⟩ := h77
          subst a77
          exact e_zret F hr rfl hlk (Or.inr ⟨rfl, y, hy, ⟨ht, abad.t c60⟩, hst, b77⟩) (by decide) (by decide) dX12_failsInSymbols_80
    · refine r_goto (tgt := 81) F dX12_failsInSymbols_24 (by decide) ?_
      have hnb : ¬ (y % 16 < cn v 1204 (y / 16) ∧ bY v w y) := fun h9 => by rw [nI_ltI (by omega) (by omega)] at c21; omega
      refine r_iinc F dX12_failsInSymbols_81 rfl (by decide) ?_
      refine r_goto (tgt := 2) F dX12_failsInSymbols_84 (by decide) ?_
      refine zsub (lv' := [(2, .int (nI (y + 1))), (0, .ref g), (1, .int (nI w))]) (by rw [show nI (y + 1) = nI y + Int32.ofInt 1 from (nI_add y 1).symm]; simp [zs1, Value.category, show ((1 : Fin 4) : Nat) = 1 from rfl, show ((2 : Fin 4) : Nat) = 2 from rfl, show ((3 : Fin 4) : Nat) = 3 from rfl]) ?_
      exact ih (n - 1) _ _ (by omega) ⟨y + 1, by omega, rfl, fun z hz h9 => by
        rcases Nat.lt_or_ge z y with h8 | h8
        · exact hst z h8 h9
        · rw [show z = y by omega] at h9
          exact hnb h9, rfl⟩
