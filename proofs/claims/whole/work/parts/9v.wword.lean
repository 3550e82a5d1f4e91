theorem aO_lt {v : zV} (hv : vRg v) (hD : vD v) {y : Nat} (hy : y < 96) (ht : y % 16 < cn v 1204 (y / 16)) (hk : ∀ z, mng v y = some z → ¬ v.1 1215 z = 0) : aO v y < 2 ^ 31 := by
  unfold aO
  cases hm : mng v y with
  | none =>
    show 0 < 2 ^ 31
    decide
  | some z =>
    obtain ⟨h1, h2, h3⟩ := mng_t hy ht hm
    have h4 := (hD.d hv h1 h2 h3).2.2.2 (hk z hm)
    have h5 := (rg_1203 hv (k := z / 16) (by omega)).2
    have h6 := aS_le hv (4 * (z / 16) + cn v 1217 z) (by omega)
    have h7 := rs_le (x := aS v (4 * (z / 16) + cn v 1217 z)) (k := cn v 1212 (4 * (z / 16) + cn v 1217 z)) (by have := (rg_1212 hv (k := 4 * (z / 16) + cn v 1217 z) (by omega)).2; omega)
    have h8 := (rg_1218 hv h1).2
    show rs (aS v (4 * (z / 16) + cn v 1217 z)) (cn v 1212 (4 * (z / 16) + cn v 1217 z)) + cn v 1218 z < 2 ^ 31
    omega
theorem vM.Q {v v1 : zV} (h : vM v v1) {t c : Nat} {Ts : List Nat} (ht : t ≠ 1222 ∧ t ≠ 1223) (hc : c ≠ 1222 ∧ c ≠ 1223) (hT : tQ v t c Ts) : tQ v1 t c Ts := ⟨(h.1 c 0 hc.1 hc.2).trans hT.1, fun k hk => (h.1 t k ht.1 ht.2).trans (hT.2 k hk)⟩
set_option maxRecDepth 100000 in
set_option maxHeartbeats 4000000 in
theorem mm_writeWord {l : Launch} {N0 t0 : Nat} {D : va_G} {cy : Nat → ClassId} {S : zS} {S0 : zS} {g : Nat} {qa : Nat → Nat} {v : zV} {T : Nat → Int32} {L : List Int32} (hm : mT S0 g qa v T L S) {f w : Nat} {a : Int32} {Ts Ss : List Nat} (hv : vRg v) (hA : vA v) (hD : vD v) (hf : f < 48) (hw : w < 36) (hg : gW v f w a) (hT : tQ v 1226 1227 Ts) (hU : tQ v 1224 1225 Ss) (hnT : nD Ts 10) (hnS : nD Ss 48) (h32 : w = 32 → ∃ k, plc Ts (some a.toNatClampNeg) = some k) (hkd : w = 33 → ∀ z, mng v (16 * (f / 8) + a.toNatClampNeg) = some z → ¬ v.1 1215 z = 0) (hb : L.length + 16 ≤ 40000) : zMv l yX12_writeWord (zws yX12_writeWord cX12_writeWord 5 none) { frames := 3, cells := 0, slots := 0, locals := 67 } N0 t0 D cy S [.ref g, .int (nI (f / 8)), .int (nI w), .int a] (fun S' => mT S0 g qa v T (L ++ wB v Ts Ss (f / 8) w a) S') 0 0 := by
  refine zMv.of (cc := cX12_writeWord) (maxL := 5) (ret := none) (by decide) rfl (Nat.le_of_ble_eq_true rfl) ?_
  intro p e s m args below meth c F G hr hlk hnm
  have hm0 := hm
  have hle1 := nD_len _ _ hnT
  have hle2 := nD_len _ _ hnS
  obtain ⟨v1, hS, hX, hB⟩ := hm
  refine r_iload_n F dX12_writeWord_0 rfl ?_
  rcases (show (w = 0) ∨ ((1 ≤ w ∧ w ≤ 2)) ∨ ((3 ≤ w ∧ w ≤ 6)) ∨ (w = 7) ∨ ((8 ≤ w ∧ w ≤ 13)) ∨ (w = 14) ∨ (w = 15) ∨ (w = 16) ∨ (w = 17) ∨ (w = 18) ∨ (w = 19) ∨ (w = 20) ∨ (w = 21) ∨ (w = 22) ∨ ((23 ≤ w ∧ w ≤ 24)) ∨ (w = 25) ∨ (w = 26) ∨ (w = 27) ∨ (w = 28) ∨ (w = 29) ∨ (w = 30) ∨ (w = 31) ∨ (w = 32) ∨ (w = 33) ∨ (w = 34) ∨ (w = 35) by omega) with w1 | w1 | w1 | w1 | w1 | w1 | w1 | w1 | w1 | w1 | w1 | w1 | w1 | w1 | w1 | w1 | w1 | w1 | w1 | w1 | w1 | w1 | w1 | w1 | w1 | w1
  · refine r_table (off := 155) (tgt := 156) F dX12_writeWord_1 ((show ∀ w : Nat, w < 36 → (w = 0) → (if (nI w).toInt < 0 ∨ 34 < (nI w).toInt then some (560 : Int) else (#[155, 169, 169, 185, 185, 185, 185, 196, 206, 206, 206, 206, 206, 206, 217, 229, 241, 253, 265, 274, 289, 304, 319, 334, 334, 356, 382, 390, 399, 413, 430, 439, 484, 510, 533] : Array Int)[((nI w).toInt - 0).toNat]?) = some (155 : Int) from by decide) w hw w1) (by decide) ?_
    refine r_aload_n F dX12_writeWord_156 rfl ?_
    refine r_bipush (v := 66) F dX12_writeWord_157 (by decide) ?_
    refine c_Vv (ci := 12) F G (mm_put hm0 (x := nI 66) (by first | omega | (simp only [List.length_append, List.length_cons, List.length_nil, wid_l]; omega))) (cwV 1 F.2.2.2.2 (zgV km_X12_235 ki_X12_put ke_X12_X12_put kn_X12 ko_X12_put) rfl rfl rfl ⟨rfl, hd_yX12_put⟩ ⟨Nat.le_of_ble_eq_true rfl, Nat.le_of_ble_eq_true rfl⟩) rfl (by decide) hS.al rfl rfl (Nat.le_of_ble_eq_true rfl) dX12_writeWord_159 ⟨Nat.le_of_ble_eq_true rfl, Nat.le_of_ble_eq_true rfl⟩ (fun S159 hm159 => ?_)
    have hm0 := hm159
    obtain ⟨v1, hS, hX, hB⟩ := hm159
    refine r_aload_n F dX12_writeWord_162 rfl ?_
    refine r_iload_n F dX12_writeWord_163 rfl ?_
    refine c_Vv (ci := 12) F G (mm_signed hm0 (x := a) (by first | omega | (simp only [List.length_append, List.length_cons, List.length_nil, wid_l]; omega))) (cwV 1 F.2.2.2.2 (zgV km_X12_284 ki_X12_signed ke_X12_X12_signed kn_X12 ko_X12_signed) rfl rfl rfl ⟨rfl, hd_yX12_signed⟩ ⟨Nat.le_of_ble_eq_true rfl, Nat.le_of_ble_eq_true rfl⟩) rfl (by decide) hS.al rfl rfl (Nat.le_of_ble_eq_true rfl) dX12_writeWord_164 ⟨Nat.le_of_ble_eq_true rfl, Nat.le_of_ble_eq_true rfl⟩ (fun S164 hm164 => ?_)
    have hm0 := hm164
    obtain ⟨v1, hS, hX, hB⟩ := hm164
    refine r_goto (tgt := 574) F dX12_writeWord_167 (by decide) ?_
    rw [w1]
    exact e_vret F hr hlk (by rw [wB_0]; simpa only [List.append_assoc, List.cons_append, List.nil_append, Option.getD_some] using hm0) (by decide) (by decide) dX12_writeWord_574
  · refine r_table (off := 169) (tgt := 170) F dX12_writeWord_1 ((show ∀ w : Nat, w < 36 → ((1 ≤ w ∧ w ≤ 2)) → (if (nI w).toInt < 0 ∨ 34 < (nI w).toInt then some (560 : Int) else (#[155, 169, 169, 185, 185, 185, 185, 196, 206, 206, 206, 206, 206, 206, 217, 229, 241, 253, 265, 274, 289, 304, 319, 334, 334, 356, 382, 390, 399, 413, 430, 439, 484, 510, 533] : Array Int)[((nI w).toInt - 0).toNat]?) = some (169 : Int) from by decide) w hw w1) (by decide) ?_
    obtain ⟨j, hj, ej⟩ := hg.1 (by omega)
    subst ej
    refine r_aload_n F dX12_writeWord_170 rfl ?_
    refine r_bipush (v := 31) F dX12_writeWord_171 (by decide) ?_
    refine r_iload_n F dX12_writeWord_173 rfl ?_
    refine r_iadd F dX12_writeWord_174 ?_
    rw [show (31 : Int32) + nI w = nI (31 + w) from nI_add 31 w]
    refine c_Vv (ci := 12) F G (mm_put hm0 (x := nI (31 + w)) (by first | omega | (simp only [List.length_append, List.length_cons, List.length_nil, wid_l]; omega))) (cwV 1 F.2.2.2.2 (zgV km_X12_235 ki_X12_put ke_X12_X12_put kn_X12 ko_X12_put) rfl rfl rfl ⟨rfl, hd_yX12_put⟩ ⟨Nat.le_of_ble_eq_true rfl, Nat.le_of_ble_eq_true rfl⟩) rfl (by decide) hS.al rfl rfl (Nat.le_of_ble_eq_true rfl) dX12_writeWord_175 ⟨Nat.le_of_ble_eq_true rfl, Nat.le_of_ble_eq_true rfl⟩ (fun S175 hm175 => ?_)
    have hm0 := hm175
    obtain ⟨v1, hS, hX, hB⟩ := hm175
    refine r_aload_n F dX12_writeWord_178 rfl ?_
    refine r_iload_n F dX12_writeWord_179 rfl ?_
    have hj9 : j < 2 ^ 31 := by have := (rg_1205 hv hf).2; have := (rg_1207 hv hf).2; omega
    refine c_Vv (ci := 12) F G (mm_unsigned hm0 (n := j) (by omega) (by first | omega | (simp only [List.length_append, List.length_cons, List.length_nil, wid_l]; omega))) (cwV 1 F.2.2.2.2 (zgV km_X12_245 ki_X12_unsigned ke_X12_X12_unsigned kn_X12 ko_X12_unsigned) rfl rfl rfl ⟨rfl, hd_yX12_unsigned⟩ ⟨Nat.le_of_ble_eq_true rfl, Nat.le_of_ble_eq_true rfl⟩) rfl (by decide) hS.al rfl rfl (Nat.le_of_ble_eq_true rfl) dX12_writeWord_180 ⟨Nat.le_of_ble_eq_true rfl, Nat.le_of_ble_eq_true rfl⟩ (fun S180 hm180 => ?_)
    have hm0 := hm180
    obtain ⟨v1, hS, hX, hB⟩ := hm180
    refine r_goto (tgt := 574) F dX12_writeWord_183 (by decide) ?_
    exact e_vret F hr hlk (by rw [wB_1 (by omega), nI_clamp (by omega)]; simpa only [List.append_assoc, List.cons_append, List.nil_append, Option.getD_some] using hm0) (by decide) (by decide) dX12_writeWord_574
  · refine r_table (off := 185) (tgt := 186) F dX12_writeWord_1 ((show ∀ w : Nat, w < 36 → ((3 ≤ w ∧ w ≤ 6)) → (if (nI w).toInt < 0 ∨ 34 < (nI w).toInt then some (560 : Int) else (#[155, 169, 169, 185, 185, 185, 185, 196, 206, 206, 206, 206, 206, 206, 217, 229, 241, 253, 265, 274, 289, 304, 319, 334, 334, 356, 382, 390, 399, 413, 430, 439, 484, 510, 533] : Array Int)[((nI w).toInt - 0).toNat]?) = some (185 : Int) from by decide) w hw w1) (by decide) ?_
    refine r_aload_n F dX12_writeWord_186 rfl ?_
    refine r_bipush (v := 121) F dX12_writeWord_187 (by decide) ?_
    refine r_iload_n F dX12_writeWord_189 rfl ?_
    refine r_iadd F dX12_writeWord_190 ?_
    rw [show (121 : Int32) + nI w = nI (121 + w) from nI_add 121 w]
    refine c_Vv (ci := 12) F G (mm_put hm0 (x := nI (121 + w)) (by first | omega | (simp only [List.length_append, List.length_cons, List.length_nil, wid_l]; omega))) (cwV 1 F.2.2.2.2 (zgV km_X12_235 ki_X12_put ke_X12_X12_put kn_X12 ko_X12_put) rfl rfl rfl ⟨rfl, hd_yX12_put⟩ ⟨Nat.le_of_ble_eq_true rfl, Nat.le_of_ble_eq_true rfl⟩) rfl (by decide) hS.al rfl rfl (Nat.le_of_ble_eq_true rfl) dX12_writeWord_191 ⟨Nat.le_of_ble_eq_true rfl, Nat.le_of_ble_eq_true rfl⟩ (fun S191 hm191 => ?_)
    have hm0 := hm191
    obtain ⟨v1, hS, hX, hB⟩ := hm191
    refine r_goto (tgt := 574) F dX12_writeWord_194 (by decide) ?_
    exact e_vret F hr hlk (by rw [wB_3 (by omega)]; simpa only [List.append_assoc, List.cons_append, List.nil_append, Option.getD_some] using hm0) (by decide) (by decide) dX12_writeWord_574
  · refine r_table (off := 196) (tgt := 197) F dX12_writeWord_1 ((show ∀ w : Nat, w < 36 → (w = 7) → (if (nI w).toInt < 0 ∨ 34 < (nI w).toInt then some (560 : Int) else (#[155, 169, 169, 185, 185, 185, 185, 196, 206, 206, 206, 206, 206, 206, 217, 229, 241, 253, 265, 274, 289, 304, 319, 334, 334, 356, 382, 390, 399, 413, 430, 439, 484, 510, 533] : Array Int)[((nI w).toInt - 0).toNat]?) = some (196 : Int) from by decide) w hw w1) (by decide) ?_
    refine r_aload_n F dX12_writeWord_197 rfl ?_
    refine r_sipush (v := 129) F dX12_writeWord_198 (by decide) ?_
    refine c_Vv (ci := 12) F G (mm_put hm0 (x := nI 129) (by first | omega | (simp only [List.length_append, List.length_cons, List.length_nil, wid_l]; omega))) (cwV 1 F.2.2.2.2 (zgV km_X12_235 ki_X12_put ke_X12_X12_put kn_X12 ko_X12_put) rfl rfl rfl ⟨rfl, hd_yX12_put⟩ ⟨Nat.le_of_ble_eq_true rfl, Nat.le_of_ble_eq_true rfl⟩) rfl (by decide) hS.al rfl rfl (Nat.le_of_ble_eq_true rfl) dX12_writeWord_201 ⟨Nat.le_of_ble_eq_true rfl, Nat.le_of_ble_eq_true rfl⟩ (fun S201 hm201 => ?_)
    have hm0 := hm201
    obtain ⟨v1, hS, hX, hB⟩ := hm201
    refine r_goto (tgt := 574) F dX12_writeWord_204 (by decide) ?_
    rw [w1]
    exact e_vret F hr hlk (by rw [wB_7]; simpa only [List.append_assoc, List.cons_append, List.nil_append, Option.getD_some] using hm0) (by decide) (by decide) dX12_writeWord_574
  · refine r_table (off := 206) (tgt := 207) F dX12_writeWord_1 ((show ∀ w : Nat, w < 36 → ((8 ≤ w ∧ w ≤ 13)) → (if (nI w).toInt < 0 ∨ 34 < (nI w).toInt then some (560 : Int) else (#[155, 169, 169, 185, 185, 185, 185, 196, 206, 206, 206, 206, 206, 206, 217, 229, 241, 253, 265, 274, 289, 304, 319, 334, 334, 356, 382, 390, 399, 413, 430, 439, 484, 510, 533] : Array Int)[((nI w).toInt - 0).toNat]?) = some (206 : Int) from by decide) w hw w1) (by decide) ?_
    refine r_aload_n F dX12_writeWord_207 rfl ?_
    refine r_bipush (v := 123) F dX12_writeWord_208 (by decide) ?_
    refine r_iload_n F dX12_writeWord_210 rfl ?_
    refine r_iadd F dX12_writeWord_211 ?_
    rw [show (123 : Int32) + nI w = nI (123 + w) from nI_add 123 w]
    refine c_Vv (ci := 12) F G (mm_put hm0 (x := nI (123 + w)) (by first | omega | (simp only [List.length_append, List.length_cons, List.length_nil, wid_l]; omega))) (cwV 1 F.2.2.2.2 (zgV km_X12_235 ki_X12_put ke_X12_X12_put kn_X12 ko_X12_put) rfl rfl rfl ⟨rfl, hd_yX12_put⟩ ⟨Nat.le_of_ble_eq_true rfl, Nat.le_of_ble_eq_true rfl⟩) rfl (by decide) hS.al rfl rfl (Nat.le_of_ble_eq_true rfl) dX12_writeWord_212 ⟨Nat.le_of_ble_eq_true rfl, Nat.le_of_ble_eq_true rfl⟩ (fun S212 hm212 => ?_)
    have hm0 := hm212
    obtain ⟨v1, hS, hX, hB⟩ := hm212
    refine r_goto (tgt := 574) F dX12_writeWord_215 (by decide) ?_
    exact e_vret F hr hlk (by rw [wB_8 (by omega)]; simpa only [List.append_assoc, List.cons_append, List.nil_append, Option.getD_some] using hm0) (by decide) (by decide) dX12_writeWord_574
  · refine r_table (off := 217) (tgt := 218) F dX12_writeWord_1 ((show ∀ w : Nat, w < 36 → (w = 14) → (if (nI w).toInt < 0 ∨ 34 < (nI w).toInt then some (560 : Int) else (#[155, 169, 169, 185, 185, 185, 185, 196, 206, 206, 206, 206, 206, 206, 217, 229, 241, 253, 265, 274, 289, 304, 319, 334, 334, 356, 382, 390, 399, 413, 430, 439, 484, 510, 533] : Array Int)[((nI w).toInt - 0).toNat]?) = some (217 : Int) from by decide) w hw w1) (by decide) ?_
    refine r_aload_n F dX12_writeWord_218 rfl ?_
    refine r_bipush (v := 81) F dX12_writeWord_219 (by decide) ?_
    refine r_sipush (v := 173) F dX12_writeWord_221 (by decide) ?_
    refine c_Vv (ci := 12) F G (mm_two hm0 (x := nI 81) (y := nI 173) (by first | omega | (simp only [List.length_append, List.length_cons, List.length_nil, wid_l]; omega))) (cwV 2 F.2.2.2.2 (zgV km_X12_291 ki_X12_two ke_X12_X12_two kn_X12 ko_X12_two) rfl rfl rfl ⟨rfl, hd_yX12_two⟩ ⟨Nat.le_of_ble_eq_true rfl, Nat.le_of_ble_eq_true rfl⟩) rfl (by decide) hS.al rfl rfl (Nat.le_of_ble_eq_true rfl) dX12_writeWord_224 ⟨Nat.le_of_ble_eq_true rfl, Nat.le_of_ble_eq_true rfl⟩ (fun S224 hm224 => ?_)
    have hm0 := hm224
    obtain ⟨v1, hS, hX, hB⟩ := hm224
    refine r_goto (tgt := 574) F dX12_writeWord_227 (by decide) ?_
    rw [w1]
    exact e_vret F hr hlk (by rw [wB_14]; simpa only [List.append_assoc, List.cons_append, List.nil_append, Option.getD_some] using hm0) (by decide) (by decide) dX12_writeWord_574
  · refine r_table (off := 229) (tgt := 230) F dX12_writeWord_1 ((show ∀ w : Nat, w < 36 → (w = 15) → (if (nI w).toInt < 0 ∨ 34 < (nI w).toInt then some (560 : Int) else (#[155, 169, 169, 185, 185, 185, 185, 196, 206, 206, 206, 206, 206, 206, 217, 229, 241, 253, 265, 274, 289, 304, 319, 334, 334, 356, 382, 390, 399, 413, 430, 439, 484, 510, 533] : Array Int)[((nI w).toInt - 0).toNat]?) = some (229 : Int) from by decide) w hw w1) (by decide) ?_
    refine r_aload_n F dX12_writeWord_230 rfl ?_
    refine r_bipush (v := 83) F dX12_writeWord_231 (by decide) ?_
    refine r_sipush (v := 173) F dX12_writeWord_233 (by decide) ?_
    refine c_Vv (ci := 12) F G (mm_two hm0 (x := nI 83) (y := nI 173) (by first | omega | (simp only [List.length_append, List.length_cons, List.length_nil, wid_l]; omega))) (cwV 2 F.2.2.2.2 (zgV km_X12_291 ki_X12_two ke_X12_X12_two kn_X12 ko_X12_two) rfl rfl rfl ⟨rfl, hd_yX12_two⟩ ⟨Nat.le_of_ble_eq_true rfl, Nat.le_of_ble_eq_true rfl⟩) rfl (by decide) hS.al rfl rfl (Nat.le_of_ble_eq_true rfl) dX12_writeWord_236 ⟨Nat.le_of_ble_eq_true rfl, Nat.le_of_ble_eq_true rfl⟩ (fun S236 hm236 => ?_)
    have hm0 := hm236
    obtain ⟨v1, hS, hX, hB⟩ := hm236
    refine r_goto (tgt := 574) F dX12_writeWord_239 (by decide) ?_
    rw [w1]
    exact e_vret F hr hlk (by rw [wB_15]; simpa only [List.append_assoc, List.cons_append, List.nil_append, Option.getD_some] using hm0) (by decide) (by decide) dX12_writeWord_574
  · refine r_table (off := 241) (tgt := 242) F dX12_writeWord_1 ((show ∀ w : Nat, w < 36 → (w = 16) → (if (nI w).toInt < 0 ∨ 34 < (nI w).toInt then some (560 : Int) else (#[155, 169, 169, 185, 185, 185, 185, 196, 206, 206, 206, 206, 206, 206, 217, 229, 241, 253, 265, 274, 289, 304, 319, 334, 334, 356, 382, 390, 399, 413, 430, 439, 484, 510, 533] : Array Int)[((nI w).toInt - 0).toNat]?) = some (241 : Int) from by decide) w hw w1) (by decide) ?_
    refine r_aload_n F dX12_writeWord_242 rfl ?_
    refine r_bipush (v := 84) F dX12_writeWord_243 (by decide) ?_
    refine r_sipush (v := 173) F dX12_writeWord_245 (by decide) ?_
    refine c_Vv (ci := 12) F G (mm_two hm0 (x := nI 84) (y := nI 173) (by first | omega | (simp only [List.length_append, List.length_cons, List.length_nil, wid_l]; omega))) (cwV 2 F.2.2.2.2 (zgV km_X12_291 ki_X12_two ke_X12_X12_two kn_X12 ko_X12_two) rfl rfl rfl ⟨rfl, hd_yX12_two⟩ ⟨Nat.le_of_ble_eq_true rfl, Nat.le_of_ble_eq_true rfl⟩) rfl (by decide) hS.al rfl rfl (Nat.le_of_ble_eq_true rfl) dX12_writeWord_248 ⟨Nat.le_of_ble_eq_true rfl, Nat.le_of_ble_eq_true rfl⟩ (fun S248 hm248 => ?_)
    have hm0 := hm248
    obtain ⟨v1, hS, hX, hB⟩ := hm248
    refine r_goto (tgt := 574) F dX12_writeWord_251 (by decide) ?_
    rw [w1]
    exact e_vret F hr hlk (by rw [wB_16]; simpa only [List.append_assoc, List.cons_append, List.nil_append, Option.getD_some] using hm0) (by decide) (by decide) dX12_writeWord_574
  · refine r_table (off := 253) (tgt := 254) F dX12_writeWord_1 ((show ∀ w : Nat, w < 36 → (w = 17) → (if (nI w).toInt < 0 ∨ 34 < (nI w).toInt then some (560 : Int) else (#[155, 169, 169, 185, 185, 185, 185, 196, 206, 206, 206, 206, 206, 206, 217, 229, 241, 253, 265, 274, 289, 304, 319, 334, 334, 356, 382, 390, 399, 413, 430, 439, 484, 510, 533] : Array Int)[((nI w).toInt - 0).toNat]?) = some (253 : Int) from by decide) w hw w1) (by decide) ?_
    refine r_aload_n F dX12_writeWord_254 rfl ?_
    refine r_sipush (v := 167) F dX12_writeWord_255 (by decide) ?_
    refine r_bipush (v := 27) F dX12_writeWord_258 (by decide) ?_
    refine c_Vv (ci := 12) F G (mm_two hm0 (x := nI 167) (y := nI 27) (by first | omega | (simp only [List.length_append, List.length_cons, List.length_nil, wid_l]; omega))) (cwV 2 F.2.2.2.2 (zgV km_X12_291 ki_X12_two ke_X12_X12_two kn_X12 ko_X12_two) rfl rfl rfl ⟨rfl, hd_yX12_two⟩ ⟨Nat.le_of_ble_eq_true rfl, Nat.le_of_ble_eq_true rfl⟩) rfl (by decide) hS.al rfl rfl (Nat.le_of_ble_eq_true rfl) dX12_writeWord_260 ⟨Nat.le_of_ble_eq_true rfl, Nat.le_of_ble_eq_true rfl⟩ (fun S260 hm260 => ?_)
    have hm0 := hm260
    obtain ⟨v1, hS, hX, hB⟩ := hm260
    refine r_goto (tgt := 574) F dX12_writeWord_263 (by decide) ?_
    rw [w1]
    exact e_vret F hr hlk (by rw [wB_17]; simpa only [List.append_assoc, List.cons_append, List.nil_append, Option.getD_some] using hm0) (by decide) (by decide) dX12_writeWord_574
  · refine r_table (off := 265) (tgt := 266) F dX12_writeWord_1 ((show ∀ w : Nat, w < 36 → (w = 18) → (if (nI w).toInt < 0 ∨ 34 < (nI w).toInt then some (560 : Int) else (#[155, 169, 169, 185, 185, 185, 185, 196, 206, 206, 206, 206, 206, 206, 217, 229, 241, 253, 265, 274, 289, 304, 319, 334, 334, 356, 382, 390, 399, 413, 430, 439, 484, 510, 533] : Array Int)[((nI w).toInt - 0).toNat]?) = some (265 : Int) from by decide) w hw w1) (by decide) ?_
    refine r_aload_n F dX12_writeWord_266 rfl ?_
    refine r_bipush (v := 26) F dX12_writeWord_267 (by decide) ?_
    refine c_Vv (ci := 12) F G (mm_put hm0 (x := nI 26) (by first | omega | (simp only [List.length_append, List.length_cons, List.length_nil, wid_l]; omega))) (cwV 1 F.2.2.2.2 (zgV km_X12_235 ki_X12_put ke_X12_X12_put kn_X12 ko_X12_put) rfl rfl rfl ⟨rfl, hd_yX12_put⟩ ⟨Nat.le_of_ble_eq_true rfl, Nat.le_of_ble_eq_true rfl⟩) rfl (by decide) hS.al rfl rfl (Nat.le_of_ble_eq_true rfl) dX12_writeWord_269 ⟨Nat.le_of_ble_eq_true rfl, Nat.le_of_ble_eq_true rfl⟩ (fun S269 hm269 => ?_)
    have hm0 := hm269
    obtain ⟨v1, hS, hX, hB⟩ := hm269
    refine r_goto (tgt := 574) F dX12_writeWord_272 (by decide) ?_
    rw [w1]
    exact e_vret F hr hlk (by rw [wB_18]; simpa only [List.append_assoc, List.cons_append, List.nil_append, Option.getD_some] using hm0) (by decide) (by decide) dX12_writeWord_574
  · refine r_table (off := 274) (tgt := 275) F dX12_writeWord_1 ((show ∀ w : Nat, w < 36 → (w = 19) → (if (nI w).toInt < 0 ∨ 34 < (nI w).toInt then some (560 : Int) else (#[155, 169, 169, 185, 185, 185, 185, 196, 206, 206, 206, 206, 206, 206, 217, 229, 241, 253, 265, 274, 289, 304, 319, 334, 334, 356, 382, 390, 399, 413, 430, 439, 484, 510, 533] : Array Int)[((nI w).toInt - 0).toNat]?) = some (274 : Int) from by decide) w hw w1) (by decide) ?_
    obtain ⟨j, hj, ej⟩ := hg.2.1 (by omega)
    subst ej
    refine r_aload_n F dX12_writeWord_275 rfl ?_
    refine r_bipush (v := 41) F dX12_writeWord_276 (by decide) ?_
    refine r_iconst (v := 3) F dX12_writeWord_278 (by decide) ?_
    refine c_Vv (ci := 12) F G (mm_two hm0 (x := nI 41) (y := nI 3) (by first | omega | (simp only [List.length_append, List.length_cons, List.length_nil, wid_l]; omega))) (cwV 2 F.2.2.2.2 (zgV km_X12_291 ki_X12_two ke_X12_X12_two kn_X12 ko_X12_two) rfl rfl rfl ⟨rfl, hd_yX12_two⟩ ⟨Nat.le_of_ble_eq_true rfl, Nat.le_of_ble_eq_true rfl⟩) rfl (by decide) hS.al rfl rfl (Nat.le_of_ble_eq_true rfl) dX12_writeWord_279 ⟨Nat.le_of_ble_eq_true rfl, Nat.le_of_ble_eq_true rfl⟩ (fun S279 hm279 => ?_)
    have hm0 := hm279
    obtain ⟨v1, hS, hX, hB⟩ := hm279
    refine r_aload_n F dX12_writeWord_282 rfl ?_
    refine r_iload_n F dX12_writeWord_283 rfl ?_
    refine c_Vv (ci := 12) F G (mm_unsigned hm0 (n := j) (by omega) (by first | omega | (simp only [List.length_append, List.length_cons, List.length_nil, wid_l]; omega))) (cwV 1 F.2.2.2.2 (zgV km_X12_245 ki_X12_unsigned ke_X12_X12_unsigned kn_X12 ko_X12_unsigned) rfl rfl rfl ⟨rfl, hd_yX12_unsigned⟩ ⟨Nat.le_of_ble_eq_true rfl, Nat.le_of_ble_eq_true rfl⟩) rfl (by decide) hS.al rfl rfl (Nat.le_of_ble_eq_true rfl) dX12_writeWord_284 ⟨Nat.le_of_ble_eq_true rfl, Nat.le_of_ble_eq_true rfl⟩ (fun S284 hm284 => ?_)
    have hm0 := hm284
    obtain ⟨v1, hS, hX, hB⟩ := hm284
    refine r_goto (tgt := 574) F dX12_writeWord_287 (by decide) ?_
    rw [w1]
    exact e_vret F hr hlk (by rw [wB_19, nI_clamp (by omega)]; simpa only [List.append_assoc, List.cons_append, List.nil_append, Option.getD_some] using hm0) (by decide) (by decide) dX12_writeWord_574
  · refine r_table (off := 289) (tgt := 290) F dX12_writeWord_1 ((show ∀ w : Nat, w < 36 → (w = 20) → (if (nI w).toInt < 0 ∨ 34 < (nI w).toInt then some (560 : Int) else (#[155, 169, 169, 185, 185, 185, 185, 196, 206, 206, 206, 206, 206, 206, 217, 229, 241, 253, 265, 274, 289, 304, 319, 334, 334, 356, 382, 390, 399, 413, 430, 439, 484, 510, 533] : Array Int)[((nI w).toInt - 0).toNat]?) = some (289 : Int) from by decide) w hw w1) (by decide) ?_
    obtain ⟨j, hj, ej⟩ := hg.2.1 (by omega)
    subst ej
    refine r_aload_n F dX12_writeWord_290 rfl ?_
    refine r_bipush (v := 55) F dX12_writeWord_291 (by decide) ?_
    refine r_iconst (v := 3) F dX12_writeWord_293 (by decide) ?_
    refine c_Vv (ci := 12) F G (mm_two hm0 (x := nI 55) (y := nI 3) (by first | omega | (simp only [List.length_append, List.length_cons, List.length_nil, wid_l]; omega))) (cwV 2 F.2.2.2.2 (zgV km_X12_291 ki_X12_two ke_X12_X12_two kn_X12 ko_X12_two) rfl rfl rfl ⟨rfl, hd_yX12_two⟩ ⟨Nat.le_of_ble_eq_true rfl, Nat.le_of_ble_eq_true rfl⟩) rfl (by decide) hS.al rfl rfl (Nat.le_of_ble_eq_true rfl) dX12_writeWord_294 ⟨Nat.le_of_ble_eq_true rfl, Nat.le_of_ble_eq_true rfl⟩ (fun S294 hm294 => ?_)
    have hm0 := hm294
    obtain ⟨v1, hS, hX, hB⟩ := hm294
    refine r_aload_n F dX12_writeWord_297 rfl ?_
    refine r_iload_n F dX12_writeWord_298 rfl ?_
    refine c_Vv (ci := 12) F G (mm_unsigned hm0 (n := j) (by omega) (by first | omega | (simp only [List.length_append, List.length_cons, List.length_nil, wid_l]; omega))) (cwV 1 F.2.2.2.2 (zgV km_X12_245 ki_X12_unsigned ke_X12_X12_unsigned kn_X12 ko_X12_unsigned) rfl rfl rfl ⟨rfl, hd_yX12_unsigned⟩ ⟨Nat.le_of_ble_eq_true rfl, Nat.le_of_ble_eq_true rfl⟩) rfl (by decide) hS.al rfl rfl (Nat.le_of_ble_eq_true rfl) dX12_writeWord_299 ⟨Nat.le_of_ble_eq_true rfl, Nat.le_of_ble_eq_true rfl⟩ (fun S299 hm299 => ?_)
    have hm0 := hm299
    obtain ⟨v1, hS, hX, hB⟩ := hm299
    refine r_goto (tgt := 574) F dX12_writeWord_302 (by decide) ?_
    rw [w1]
    exact e_vret F hr hlk (by rw [wB_20, nI_clamp (by omega)]; simpa only [List.append_assoc, List.cons_append, List.nil_append, Option.getD_some] using hm0) (by decide) (by decide) dX12_writeWord_574
  · refine r_table (off := 304) (tgt := 305) F dX12_writeWord_1 ((show ∀ w : Nat, w < 36 → (w = 21) → (if (nI w).toInt < 0 ∨ 34 < (nI w).toInt then some (560 : Int) else (#[155, 169, 169, 185, 185, 185, 185, 196, 206, 206, 206, 206, 206, 206, 217, 229, 241, 253, 265, 274, 289, 304, 319, 334, 334, 356, 382, 390, 399, 413, 430, 439, 484, 510, 533] : Array Int)[((nI w).toInt - 0).toNat]?) = some (304 : Int) from by decide) w hw w1) (by decide) ?_
    obtain ⟨j, hj, ej⟩ := hg.2.1 (by omega)
    subst ej
    refine r_aload_n F dX12_writeWord_305 rfl ?_
    refine r_bipush (v := 49) F dX12_writeWord_306 (by decide) ?_
    refine r_iconst (v := 0) F dX12_writeWord_308 (by decide) ?_
    refine c_Vv (ci := 12) F G (mm_two hm0 (x := nI 49) (y := nI 0) (by first | omega | (simp only [List.length_append, List.length_cons, List.length_nil, wid_l]; omega))) (cwV 2 F.2.2.2.2 (zgV km_X12_291 ki_X12_two ke_X12_X12_two kn_X12 ko_X12_two) rfl rfl rfl ⟨rfl, hd_yX12_two⟩ ⟨Nat.le_of_ble_eq_true rfl, Nat.le_of_ble_eq_true rfl⟩) rfl (by decide) hS.al rfl rfl (Nat.le_of_ble_eq_true rfl) dX12_writeWord_309 ⟨Nat.le_of_ble_eq_true rfl, Nat.le_of_ble_eq_true rfl⟩ (fun S309 hm309 => ?_)
    have hm0 := hm309
    obtain ⟨v1, hS, hX, hB⟩ := hm309
    refine r_aload_n F dX12_writeWord_312 rfl ?_
    refine r_iload_n F dX12_writeWord_313 rfl ?_
    refine c_Vv (ci := 12) F G (mm_unsigned hm0 (n := j) (by omega) (by first | omega | (simp only [List.length_append, List.length_cons, List.length_nil, wid_l]; omega))) (cwV 1 F.2.2.2.2 (zgV km_X12_245 ki_X12_unsigned ke_X12_X12_unsigned kn_X12 ko_X12_unsigned) rfl rfl rfl ⟨rfl, hd_yX12_unsigned⟩ ⟨Nat.le_of_ble_eq_true rfl, Nat.le_of_ble_eq_true rfl⟩) rfl (by decide) hS.al rfl rfl (Nat.le_of_ble_eq_true rfl) dX12_writeWord_314 ⟨Nat.le_of_ble_eq_true rfl, Nat.le_of_ble_eq_true rfl⟩ (fun S314 hm314 => ?_)
    have hm0 := hm314
    obtain ⟨v1, hS, hX, hB⟩ := hm314
    refine r_goto (tgt := 574) F dX12_writeWord_317 (by decide) ?_
    rw [w1]
    exact e_vret F hr hlk (by rw [wB_21, nI_clamp (by omega)]; simpa only [List.append_assoc, List.cons_append, List.nil_append, Option.getD_some] using hm0) (by decide) (by decide) dX12_writeWord_574
  · refine r_table (off := 319) (tgt := 320) F dX12_writeWord_1 ((show ∀ w : Nat, w < 36 → (w = 22) → (if (nI w).toInt < 0 ∨ 34 < (nI w).toInt then some (560 : Int) else (#[155, 169, 169, 185, 185, 185, 185, 196, 206, 206, 206, 206, 206, 206, 217, 229, 241, 253, 265, 274, 289, 304, 319, 334, 334, 356, 382, 390, 399, 413, 430, 439, 484, 510, 533] : Array Int)[((nI w).toInt - 0).toNat]?) = some (319 : Int) from by decide) w hw w1) (by decide) ?_
    obtain ⟨j, hj, ej⟩ := hg.2.1 (by omega)
    subst ej
    refine r_aload_n F dX12_writeWord_320 rfl ?_
    refine r_bipush (v := 60) F dX12_writeWord_321 (by decide) ?_
    refine r_iconst (v := 0) F dX12_writeWord_323 (by decide) ?_
    refine c_Vv (ci := 12) F G (mm_two hm0 (x := nI 60) (y := nI 0) (by first | omega | (simp only [List.length_append, List.length_cons, List.length_nil, wid_l]; omega))) (cwV 2 F.2.2.2.2 (zgV km_X12_291 ki_X12_two ke_X12_X12_two kn_X12 ko_X12_two) rfl rfl rfl ⟨rfl, hd_yX12_two⟩ ⟨Nat.le_of_ble_eq_true rfl, Nat.le_of_ble_eq_true rfl⟩) rfl (by decide) hS.al rfl rfl (Nat.le_of_ble_eq_true rfl) dX12_writeWord_324 ⟨Nat.le_of_ble_eq_true rfl, Nat.le_of_ble_eq_true rfl⟩ (fun S324 hm324 => ?_)
    have hm0 := hm324
    obtain ⟨v1, hS, hX, hB⟩ := hm324
    refine r_aload_n F dX12_writeWord_327 rfl ?_
    refine r_iload_n F dX12_writeWord_328 rfl ?_
    refine c_Vv (ci := 12) F G (mm_unsigned hm0 (n := j) (by omega) (by first | omega | (simp only [List.length_append, List.length_cons, List.length_nil, wid_l]; omega))) (cwV 1 F.2.2.2.2 (zgV km_X12_245 ki_X12_unsigned ke_X12_X12_unsigned kn_X12 ko_X12_unsigned) rfl rfl rfl ⟨rfl, hd_yX12_unsigned⟩ ⟨Nat.le_of_ble_eq_true rfl, Nat.le_of_ble_eq_true rfl⟩) rfl (by decide) hS.al rfl rfl (Nat.le_of_ble_eq_true rfl) dX12_writeWord_329 ⟨Nat.le_of_ble_eq_true rfl, Nat.le_of_ble_eq_true rfl⟩ (fun S329 hm329 => ?_)
    have hm0 := hm329
    obtain ⟨v1, hS, hX, hB⟩ := hm329
    refine r_goto (tgt := 574) F dX12_writeWord_332 (by decide) ?_
    rw [w1]
    exact e_vret F hr hlk (by rw [wB_22, nI_clamp (by omega)]; simpa only [List.append_assoc, List.cons_append, List.nil_append, Option.getD_some] using hm0) (by decide) (by decide) dX12_writeWord_574
  · refine r_table (off := 334) (tgt := 335) F dX12_writeWord_1 ((show ∀ w : Nat, w < 36 → ((23 ≤ w ∧ w ≤ 24)) → (if (nI w).toInt < 0 ∨ 34 < (nI w).toInt then some (560 : Int) else (#[155, 169, 169, 185, 185, 185, 185, 196, 206, 206, 206, 206, 206, 206, 217, 229, 241, 253, 265, 274, 289, 304, 319, 334, 334, 356, 382, 390, 399, 413, 430, 439, 484, 510, 533] : Array Int)[((nI w).toInt - 0).toNat]?) = some (334 : Int) from by decide) w hw w1) (by decide) ?_
    refine r_aload_n F dX12_writeWord_335 rfl ?_
    refine r_iload_n F dX12_writeWord_336 rfl ?_
    refine r_bipush (v := 21) F dX12_writeWord_337 (by decide) ?_
    refine r_isub F dX12_writeWord_339 ?_
    refine r_iload_n F dX12_writeWord_340 rfl ?_
    refine r_if_ne (tgt := 349) F dX12_writeWord_341 (by decide) (fun c341 => ?_) (fun c341 => ?_)
    · refine r_bipush (v := 126) F dX12_writeWord_349 (by decide) ?_
      rw [show nI w - 21 = nI (w - 21) from nI_sub (b := 21) (by omega)]
      refine c_Vv (ci := 12) F G (mm_two hm0 (x := nI (w - 21)) (y := nI 126) (by first | omega | (simp only [List.length_append, List.length_cons, List.length_nil, wid_l]; omega))) (cwV 2 F.2.2.2.2 (zgV km_X12_291 ki_X12_two ke_X12_X12_two kn_X12 ko_X12_two) rfl rfl rfl ⟨rfl, hd_yX12_two⟩ ⟨Nat.le_of_ble_eq_true rfl, Nat.le_of_ble_eq_true rfl⟩) rfl (by decide) hS.al rfl rfl (Nat.le_of_ble_eq_true rfl) dX12_writeWord_351 ⟨Nat.le_of_ble_eq_true rfl, Nat.le_of_ble_eq_true rfl⟩ (fun S351 hm351 => ?_)
      have hm0 := hm351
      obtain ⟨v1, hS, hX, hB⟩ := hm351
      refine r_goto (tgt := 574) F dX12_writeWord_354 (by decide) ?_
      exact e_vret F hr hlk (by rw [wB_23 (by omega), if_neg c341]; simpa only [List.append_assoc, List.cons_append, List.nil_append, Option.getD_some] using hm0) (by decide) (by decide) dX12_writeWord_574
    · refine r_bipush (v := 64) F dX12_writeWord_344 (by decide) ?_
      refine r_goto (tgt := 351) F dX12_writeWord_346 (by decide) ?_
      rw [show nI w - 21 = nI (w - 21) from nI_sub (b := 21) (by omega)]
      refine c_Vv (ci := 12) F G (mm_two hm0 (x := nI (w - 21)) (y := nI 64) (by first | omega | (simp only [List.length_append, List.length_cons, List.length_nil, wid_l]; omega))) (cwV 2 F.2.2.2.2 (zgV km_X12_291 ki_X12_two ke_X12_X12_two kn_X12 ko_X12_two) rfl rfl rfl ⟨rfl, hd_yX12_two⟩ ⟨Nat.le_of_ble_eq_true rfl, Nat.le_of_ble_eq_true rfl⟩) rfl (by decide) hS.al rfl rfl (Nat.le_of_ble_eq_true rfl) dX12_writeWord_351 ⟨Nat.le_of_ble_eq_true rfl, Nat.le_of_ble_eq_true rfl⟩ (fun S351 hm351 => ?_)
      have hm0 := hm351
      obtain ⟨v1, hS, hX, hB⟩ := hm351
      refine r_goto (tgt := 574) F dX12_writeWord_354 (by decide) ?_
      exact e_vret F hr hlk (by rw [wB_23 (by omega), if_pos c341]; simpa only [List.append_assoc, List.cons_append, List.nil_append, Option.getD_some] using hm0) (by decide) (by decide) dX12_writeWord_574
  · refine r_table (off := 356) (tgt := 357) F dX12_writeWord_1 ((show ∀ w : Nat, w < 36 → (w = 25) → (if (nI w).toInt < 0 ∨ 34 < (nI w).toInt then some (560 : Int) else (#[155, 169, 169, 185, 185, 185, 185, 196, 206, 206, 206, 206, 206, 206, 217, 229, 241, 253, 265, 274, 289, 304, 319, 334, 334, 356, 382, 390, 399, 413, 430, 439, 484, 510, 533] : Array Int)[((nI w).toInt - 0).toNat]?) = some (356 : Int) from by decide) w hw w1) (by decide) ?_
    refine r_aload_n F dX12_writeWord_357 rfl ?_
    refine r_sipush (v := 167) F dX12_writeWord_358 (by decide) ?_
    refine r_iconst (v := 4) F dX12_writeWord_361 (by decide) ?_
    refine c_Vv (ci := 12) F G (mm_two hm0 (x := nI 167) (y := nI 4) (by first | omega | (simp only [List.length_append, List.length_cons, List.length_nil, wid_l]; omega))) (cwV 2 F.2.2.2.2 (zgV km_X12_291 ki_X12_two ke_X12_X12_two kn_X12 ko_X12_two) rfl rfl rfl ⟨rfl, hd_yX12_two⟩ ⟨Nat.le_of_ble_eq_true rfl, Nat.le_of_ble_eq_true rfl⟩) rfl (by decide) hS.al rfl rfl (Nat.le_of_ble_eq_true rfl) dX12_writeWord_362 ⟨Nat.le_of_ble_eq_true rfl, Nat.le_of_ble_eq_true rfl⟩ (fun S362 hm362 => ?_)
    have hm0 := hm362
    obtain ⟨v1, hS, hX, hB⟩ := hm362
    refine r_aload_n F dX12_writeWord_365 rfl ?_
    refine r_iload_n F dX12_writeWord_366 rfl ?_
    refine r_if_ne (tgt := 375) F dX12_writeWord_367 (by decide) (fun c367 => ?_) (fun c367 => ?_)
    · refine r_bipush (v := 126) F dX12_writeWord_375 (by decide) ?_
      refine c_Vv (ci := 12) F G (mm_put hm0 (x := nI 126) (by first | omega | (simp only [List.length_append, List.length_cons, List.length_nil, wid_l]; omega))) (cwV 1 F.2.2.2.2 (zgV km_X12_235 ki_X12_put ke_X12_X12_put kn_X12 ko_X12_put) rfl rfl rfl ⟨rfl, hd_yX12_put⟩ ⟨Nat.le_of_ble_eq_true rfl, Nat.le_of_ble_eq_true rfl⟩) rfl (by decide) hS.al rfl rfl (Nat.le_of_ble_eq_true rfl) dX12_writeWord_377 ⟨Nat.le_of_ble_eq_true rfl, Nat.le_of_ble_eq_true rfl⟩ (fun S377 hm377 => ?_)
      have hm0 := hm377
      obtain ⟨v1, hS, hX, hB⟩ := hm377
      refine r_goto (tgt := 574) F dX12_writeWord_380 (by decide) ?_
      rw [w1]
      exact e_vret F hr hlk (by rw [wB_25, if_neg c367]; simpa only [List.append_assoc, List.cons_append, List.nil_append, Option.getD_some] using hm0) (by decide) (by decide) dX12_writeWord_574
    · refine r_bipush (v := 64) F dX12_writeWord_370 (by decide) ?_
      refine r_goto (tgt := 377) F dX12_writeWord_372 (by decide) ?_
      refine c_Vv (ci := 12) F G (mm_put hm0 (x := nI 64) (by first | omega | (simp only [List.length_append, List.length_cons, List.length_nil, wid_l]; omega))) (cwV 1 F.2.2.2.2 (zgV km_X12_235 ki_X12_put ke_X12_X12_put kn_X12 ko_X12_put) rfl rfl rfl ⟨rfl, hd_yX12_put⟩ ⟨Nat.le_of_ble_eq_true rfl, Nat.le_of_ble_eq_true rfl⟩) rfl (by decide) hS.al rfl rfl (Nat.le_of_ble_eq_true rfl) dX12_writeWord_377 ⟨Nat.le_of_ble_eq_true rfl, Nat.le_of_ble_eq_true rfl⟩ (fun S377 hm377 => ?_)
      have hm0 := hm377
      obtain ⟨v1, hS, hX, hB⟩ := hm377
      refine r_goto (tgt := 574) F dX12_writeWord_380 (by decide) ?_
      rw [w1]
      exact e_vret F hr hlk (by rw [wB_25, if_pos c367]; simpa only [List.append_assoc, List.cons_append, List.nil_append, Option.getD_some] using hm0) (by decide) (by decide) dX12_writeWord_574
  · refine r_table (off := 382) (tgt := 383) F dX12_writeWord_1 ((show ∀ w : Nat, w < 36 → (w = 26) → (if (nI w).toInt < 0 ∨ 34 < (nI w).toInt then some (560 : Int) else (#[155, 169, 169, 185, 185, 185, 185, 196, 206, 206, 206, 206, 206, 206, 217, 229, 241, 253, 265, 274, 289, 304, 319, 334, 334, 356, 382, 390, 399, 413, 430, 439, 484, 510, 533] : Array Int)[((nI w).toInt - 0).toNat]?) = some (382 : Int) from by decide) w hw w1) (by decide) ?_
    refine r_aload_n F dX12_writeWord_383 rfl ?_
    refine r_iconst (v := 5) F dX12_writeWord_384 (by decide) ?_
    refine c_Vv (ci := 12) F G (mm_put hm0 (x := nI 5) (by first | omega | (simp only [List.length_append, List.length_cons, List.length_nil, wid_l]; omega))) (cwV 1 F.2.2.2.2 (zgV km_X12_235 ki_X12_put ke_X12_X12_put kn_X12 ko_X12_put) rfl rfl rfl ⟨rfl, hd_yX12_put⟩ ⟨Nat.le_of_ble_eq_true rfl, Nat.le_of_ble_eq_true rfl⟩) rfl (by decide) hS.al rfl rfl (Nat.le_of_ble_eq_true rfl) dX12_writeWord_385 ⟨Nat.le_of_ble_eq_true rfl, Nat.le_of_ble_eq_true rfl⟩ (fun S385 hm385 => ?_)
    have hm0 := hm385
    obtain ⟨v1, hS, hX, hB⟩ := hm385
    refine r_goto (tgt := 574) F dX12_writeWord_388 (by decide) ?_
    rw [w1]
    exact e_vret F hr hlk (by rw [wB_26]; simpa only [List.append_assoc, List.cons_append, List.nil_append, Option.getD_some] using hm0) (by decide) (by decide) dX12_writeWord_574
  · refine r_table (off := 390) (tgt := 391) F dX12_writeWord_1 ((show ∀ w : Nat, w < 36 → (w = 27) → (if (nI w).toInt < 0 ∨ 34 < (nI w).toInt then some (560 : Int) else (#[155, 169, 169, 185, 185, 185, 185, 196, 206, 206, 206, 206, 206, 206, 217, 229, 241, 253, 265, 274, 289, 304, 319, 334, 334, 356, 382, 390, 399, 413, 430, 439, 484, 510, 533] : Array Int)[((nI w).toInt - 0).toNat]?) = some (390 : Int) from by decide) w hw w1) (by decide) ?_
    refine r_aload_n F dX12_writeWord_391 rfl ?_
    refine r_bipush (v := 11) F dX12_writeWord_392 (by decide) ?_
    refine c_Vv (ci := 12) F G (mm_put hm0 (x := nI 11) (by first | omega | (simp only [List.length_append, List.length_cons, List.length_nil, wid_l]; omega))) (cwV 1 F.2.2.2.2 (zgV km_X12_235 ki_X12_put ke_X12_X12_put kn_X12 ko_X12_put) rfl rfl rfl ⟨rfl, hd_yX12_put⟩ ⟨Nat.le_of_ble_eq_true rfl, Nat.le_of_ble_eq_true rfl⟩) rfl (by decide) hS.al rfl rfl (Nat.le_of_ble_eq_true rfl) dX12_writeWord_394 ⟨Nat.le_of_ble_eq_true rfl, Nat.le_of_ble_eq_true rfl⟩ (fun S394 hm394 => ?_)
    have hm0 := hm394
    obtain ⟨v1, hS, hX, hB⟩ := hm394
    refine r_goto (tgt := 574) F dX12_writeWord_397 (by decide) ?_
    rw [w1]
    exact e_vret F hr hlk (by rw [wB_27]; simpa only [List.append_assoc, List.cons_append, List.nil_append, Option.getD_some] using hm0) (by decide) (by decide) dX12_writeWord_574
  · refine r_table (off := 399) (tgt := 400) F dX12_writeWord_1 ((show ∀ w : Nat, w < 36 → (w = 28) → (if (nI w).toInt < 0 ∨ 34 < (nI w).toInt then some (560 : Int) else (#[155, 169, 169, 185, 185, 185, 185, 196, 206, 206, 206, 206, 206, 206, 217, 229, 241, 253, 265, 274, 289, 304, 319, 334, 334, 356, 382, 390, 399, 413, 430, 439, 484, 510, 533] : Array Int)[((nI w).toInt - 0).toNat]?) = some (399 : Int) from by decide) w hw w1) (by decide) ?_
    obtain ⟨j, hj, ej⟩ := hg.2.2.2.1 (by omega)
    subst ej
    refine r_aload_n F dX12_writeWord_400 rfl ?_
    refine r_bipush (v := 12) F dX12_writeWord_401 (by decide) ?_
    refine c_Vv (ci := 12) F G (mm_put hm0 (x := nI 12) (by first | omega | (simp only [List.length_append, List.length_cons, List.length_nil, wid_l]; omega))) (cwV 1 F.2.2.2.2 (zgV km_X12_235 ki_X12_put ke_X12_X12_put kn_X12 ko_X12_put) rfl rfl rfl ⟨rfl, hd_yX12_put⟩ ⟨Nat.le_of_ble_eq_true rfl, Nat.le_of_ble_eq_true rfl⟩) rfl (by decide) hS.al rfl rfl (Nat.le_of_ble_eq_true rfl) dX12_writeWord_403 ⟨Nat.le_of_ble_eq_true rfl, Nat.le_of_ble_eq_true rfl⟩ (fun S403 hm403 => ?_)
    have hm0 := hm403
    obtain ⟨v1, hS, hX, hB⟩ := hm403
    refine r_aload_n F dX12_writeWord_406 rfl ?_
    refine r_iload_n F dX12_writeWord_407 rfl ?_
    refine c_Vv (ci := 12) F G (mm_unsigned hm0 (n := j) (by omega) (by first | omega | (simp only [List.length_append, List.length_cons, List.length_nil, wid_l]; omega))) (cwV 1 F.2.2.2.2 (zgV km_X12_245 ki_X12_unsigned ke_X12_X12_unsigned kn_X12 ko_X12_unsigned) rfl rfl rfl ⟨rfl, hd_yX12_unsigned⟩ ⟨Nat.le_of_ble_eq_true rfl, Nat.le_of_ble_eq_true rfl⟩) rfl (by decide) hS.al rfl rfl (Nat.le_of_ble_eq_true rfl) dX12_writeWord_408 ⟨Nat.le_of_ble_eq_true rfl, Nat.le_of_ble_eq_true rfl⟩ (fun S408 hm408 => ?_)
    have hm0 := hm408
    obtain ⟨v1, hS, hX, hB⟩ := hm408
    refine r_goto (tgt := 574) F dX12_writeWord_411 (by decide) ?_
    rw [w1]
    exact e_vret F hr hlk (by rw [wB_28, nI_clamp (by omega)]; simpa only [List.append_assoc, List.cons_append, List.nil_append, Option.getD_some] using hm0) (by decide) (by decide) dX12_writeWord_574
  · refine r_table (off := 413) (tgt := 414) F dX12_writeWord_1 ((show ∀ w : Nat, w < 36 → (w = 29) → (if (nI w).toInt < 0 ∨ 34 < (nI w).toInt then some (560 : Int) else (#[155, 169, 169, 185, 185, 185, 185, 196, 206, 206, 206, 206, 206, 206, 217, 229, 241, 253, 265, 274, 289, 304, 319, 334, 334, 356, 382, 390, 399, 413, 430, 439, 484, 510, 533] : Array Int)[((nI w).toInt - 0).toNat]?) = some (413 : Int) from by decide) w hw w1) (by decide) ?_
    obtain ⟨j, hj, ej⟩ := hg.2.2.2.1 (by omega)
    subst ej
    refine r_aload_n F dX12_writeWord_414 rfl ?_
    refine r_sipush (v := 167) F dX12_writeWord_415 (by decide) ?_
    refine r_bipush (v := 13) F dX12_writeWord_418 (by decide) ?_
    refine c_Vv (ci := 12) F G (mm_two hm0 (x := nI 167) (y := nI 13) (by first | omega | (simp only [List.length_append, List.length_cons, List.length_nil, wid_l]; omega))) (cwV 2 F.2.2.2.2 (zgV km_X12_291 ki_X12_two ke_X12_X12_two kn_X12 ko_X12_two) rfl rfl rfl ⟨rfl, hd_yX12_two⟩ ⟨Nat.le_of_ble_eq_true rfl, Nat.le_of_ble_eq_true rfl⟩) rfl (by decide) hS.al rfl rfl (Nat.le_of_ble_eq_true rfl) dX12_writeWord_420 ⟨Nat.le_of_ble_eq_true rfl, Nat.le_of_ble_eq_true rfl⟩ (fun S420 hm420 => ?_)
    have hm0 := hm420
    obtain ⟨v1, hS, hX, hB⟩ := hm420
    refine r_aload_n F dX12_writeWord_423 rfl ?_
    refine r_iload_n F dX12_writeWord_424 rfl ?_
    refine c_Vv (ci := 12) F G (mm_unsigned hm0 (n := j) (by omega) (by first | omega | (simp only [List.length_append, List.length_cons, List.length_nil, wid_l]; omega))) (cwV 1 F.2.2.2.2 (zgV km_X12_245 ki_X12_unsigned ke_X12_X12_unsigned kn_X12 ko_X12_unsigned) rfl rfl rfl ⟨rfl, hd_yX12_unsigned⟩ ⟨Nat.le_of_ble_eq_true rfl, Nat.le_of_ble_eq_true rfl⟩) rfl (by decide) hS.al rfl rfl (Nat.le_of_ble_eq_true rfl) dX12_writeWord_425 ⟨Nat.le_of_ble_eq_true rfl, Nat.le_of_ble_eq_true rfl⟩ (fun S425 hm425 => ?_)
    have hm0 := hm425
    obtain ⟨v1, hS, hX, hB⟩ := hm425
    refine r_goto (tgt := 574) F dX12_writeWord_428 (by decide) ?_
    rw [w1]
    exact e_vret F hr hlk (by rw [wB_29, nI_clamp (by omega)]; simpa only [List.append_assoc, List.cons_append, List.nil_append, Option.getD_some] using hm0) (by decide) (by decide) dX12_writeWord_574
  · refine r_table (off := 430) (tgt := 431) F dX12_writeWord_1 ((show ∀ w : Nat, w < 36 → (w = 30) → (if (nI w).toInt < 0 ∨ 34 < (nI w).toInt then some (560 : Int) else (#[155, 169, 169, 185, 185, 185, 185, 196, 206, 206, 206, 206, 206, 206, 217, 229, 241, 253, 265, 274, 289, 304, 319, 334, 334, 356, 382, 390, 399, 413, 430, 439, 484, 510, 533] : Array Int)[((nI w).toInt - 0).toNat]?) = some (430 : Int) from by decide) w hw w1) (by decide) ?_
    refine r_aload_n F dX12_writeWord_431 rfl ?_
    refine r_bipush (v := 15) F dX12_writeWord_432 (by decide) ?_
    refine c_Vv (ci := 12) F G (mm_put hm0 (x := nI 15) (by first | omega | (simp only [List.length_append, List.length_cons, List.length_nil, wid_l]; omega))) (cwV 1 F.2.2.2.2 (zgV km_X12_235 ki_X12_put ke_X12_X12_put kn_X12 ko_X12_put) rfl rfl rfl ⟨rfl, hd_yX12_put⟩ ⟨Nat.le_of_ble_eq_true rfl, Nat.le_of_ble_eq_true rfl⟩) rfl (by decide) hS.al rfl rfl (Nat.le_of_ble_eq_true rfl) dX12_writeWord_434 ⟨Nat.le_of_ble_eq_true rfl, Nat.le_of_ble_eq_true rfl⟩ (fun S434 hm434 => ?_)
    have hm0 := hm434
    obtain ⟨v1, hS, hX, hB⟩ := hm434
    refine r_goto (tgt := 574) F dX12_writeWord_437 (by decide) ?_
    rw [w1]
    exact e_vret F hr hlk (by rw [wB_30]; simpa only [List.append_assoc, List.cons_append, List.nil_append, Option.getD_some] using hm0) (by decide) (by decide) dX12_writeWord_574
  · refine r_table (off := 439) (tgt := 440) F dX12_writeWord_1 ((show ∀ w : Nat, w < 36 → (w = 31) → (if (nI w).toInt < 0 ∨ 34 < (nI w).toInt then some (560 : Int) else (#[155, 169, 169, 185, 185, 185, 185, 196, 206, 206, 206, 206, 206, 206, 217, 229, 241, 253, 265, 274, 289, 304, 319, 334, 334, 356, 382, 390, 399, 413, 430, 439, 484, 510, 533] : Array Int)[((nI w).toInt - 0).toNat]?) = some (439 : Int) from by decide) w hw w1) (by decide) ?_
    obtain ⟨j, hj, ej, hk9⟩ := hg.2.2.2.2.1 (Or.inl w1)
    have hyb := (rg_1204 hv (k := f / 8) (by omega)).2
    have hy : 16 * (f / 8) + j < 96 := by omega
    have ht9 : (16 * (f / 8) + j) % 16 < cn v 1204 ((16 * (f / 8) + j) / 16) := by rw [show (16 * (f / 8) + j) / 16 = f / 8 by omega]; omega
    subst ej
    have ec : (nI j).toNatClampNeg = j := nI_clamp (by omega)
    refine r_aload_n F dX12_writeWord_440 rfl ?_
    refine r_bipush (v := 16) F dX12_writeWord_441 (by decide) ?_
    refine r_iload_n F dX12_writeWord_443 rfl ?_
    refine r_imul F dX12_writeWord_444 ?_
    refine r_iload_n F dX12_writeWord_445 rfl ?_
    refine r_iadd F dX12_writeWord_446 ?_
    rw [show (16 : Int32) * nI (f / 8) + nI j = nI (16 * (f / 8) + j) by rw [nl16, nI_mul, nI_add]]
    refine c_Vi (ci := 12) F G (mm_functionOf hS (hX.L.rg hv) (hX.L.A hA) (hX.L.D hD) hy (by rw [hX.L.c (by omega)]; exact ht9)) (cwV 1 F.2.2.2.2 (zgV km_X12_189 ki_X12_functionOf ke_X12_X12_functionOf kn_X12 ko_X12_functionOf) rfl rfl rfl ⟨rfl, hd_yX12_functionOf⟩ ⟨Nat.le_of_ble_eq_true rfl, Nat.le_of_ble_eq_true rfl⟩) rfl (by decide) hS.al rfl rfl (Nat.le_of_ble_eq_true rfl) dX12_writeWord_447 ⟨Nat.le_of_ble_eq_true rfl, Nat.le_of_ble_eq_true rfl⟩ (fun r447 S447 h447 => ?_)
    obtain ⟨a447, e447⟩ := h447
    have hs447 := e447.symm
    subst hs447
    subst a447
    rw [hX.L.efO]
    refine r_istore F dX12_writeWord_450 (by decide) ?_
    refine r_aload_n F dX12_writeWord_452 rfl ?_
    refine r_iload F dX12_writeWord_453 rfl ?_
    refine r_if_ge (tgt := 462) F dX12_writeWord_455 (by decide) (fun c455 => ?_) (fun c455 => ?_)
    · refine r_bipush (v := 16) F dX12_writeWord_462 (by decide) ?_
      refine c_Vv (ci := 12) F G (mm_put hm0 (x := nI 16) (by first | omega | (simp only [List.length_append, List.length_cons, List.length_nil, wid_l]; omega))) (cwV 1 F.2.2.2.2 (zgV km_X12_235 ki_X12_put ke_X12_X12_put kn_X12 ko_X12_put) rfl rfl rfl ⟨rfl, hd_yX12_put⟩ ⟨Nat.le_of_ble_eq_true rfl, Nat.le_of_ble_eq_true rfl⟩) rfl (by decide) hS.al rfl rfl (Nat.le_of_ble_eq_true rfl) dX12_writeWord_464 ⟨Nat.le_of_ble_eq_true rfl, Nat.le_of_ble_eq_true rfl⟩ (fun S464 hm464 => ?_)
      have hm0 := hm464
      obtain ⟨v1, hS, hX, hB⟩ := hm464
      refine r_iload F dX12_writeWord_467 rfl ?_
      refine r_if_lt (tgt := 574) F dX12_writeWord_469 (by decide) (fun h9 => absurd h9 (Int32.not_lt.mpr c455)) (fun _ => ?_)
      obtain ⟨gg, hfo⟩ : ∃ gg, fO v (16 * (f / 8) + j) = some gg := by
        cases he : fO v (16 * (f / 8) + j) with
        | none => exact absurd (show enc (fO v (16 * (f / 8) + j)) < 0 by rw [he]; decide) (Int32.not_lt.mpr c455)
        | some gg => exact ⟨gg, rfl⟩
      have hgg := fO_lt hv hD hy ht9 hfo
      rw [hfo]
      refine r_aload_n F dX12_writeWord_472 rfl ?_
      refine r_aload_n F dX12_writeWord_473 rfl ?_
      refine r_iload F dX12_writeWord_474 rfl ?_
      refine c_Vi (ci := 12) F G (mm_numberOf hS (f := gg) (hX.L.rg hv) hgg) (cwV 1 F.2.2.2.2 (zgV km_X12_272 ki_X12_numberOf ke_X12_X12_numberOf kn_X12 ko_X12_numberOf) rfl rfl rfl ⟨rfl, hd_yX12_numberOf⟩ ⟨Nat.le_of_ble_eq_true rfl, Nat.le_of_ble_eq_true rfl⟩) rfl (by decide) hS.al rfl rfl (Nat.le_of_ble_eq_true rfl) dX12_writeWord_476 ⟨Nat.le_of_ble_eq_true rfl, Nat.le_of_ble_eq_true rfl⟩ (fun r476 S476 h476 => ?_)
      obtain ⟨a476, e476⟩ := h476
      have hs476 := e476.symm
      subst hs476
      subst a476
      rw [hX.L.epS (by omega)]
      have hpn : pS v 1202 (gg / 8) + gg % 8 < 2 ^ 31 := by have := pS_b (v := v) (t := 1202) (M := 8) (fun o ho => (rg_1202 hv ho).2) (gg / 8) (by omega); omega
      refine c_Vv (ci := 12) F G (mm_wide hm0 (n := (pN v 1202 8 gg)) hpn (by first | omega | (simp only [List.length_append, List.length_cons, List.length_nil, wid_l]; omega))) (cwV 1 F.2.2.2.2 (zgV km_X12_294 ki_X12_wide ke_X12_X12_wide kn_X12 ko_X12_wide) rfl rfl rfl ⟨rfl, hd_yX12_wide⟩ ⟨Nat.le_of_ble_eq_true rfl, Nat.le_of_ble_eq_true rfl⟩) rfl (by decide) hS.al rfl rfl (Nat.le_of_ble_eq_true rfl) dX12_writeWord_479 ⟨Nat.le_of_ble_eq_true rfl, Nat.le_of_ble_eq_true rfl⟩ (fun S479 hm479 => ?_)
      have hm0 := hm479
      obtain ⟨v1, hS, hX, hB⟩ := hm479
      refine r_goto (tgt := 574) F dX12_writeWord_482 (by decide) ?_
      rw [w1]
      exact e_vret F hr hlk (by rw [wB_31s (z := gg) (by rw [ec]; exact hfo)]; simpa only [List.append_assoc, List.cons_append, List.nil_append, Option.getD_some] using hm0) (by decide) (by decide) dX12_writeWord_574
    · refine r_iconst (v := 0) F dX12_writeWord_458 (by decide) ?_
      refine r_goto (tgt := 464) F dX12_writeWord_459 (by decide) ?_
      refine c_Vv (ci := 12) F G (mm_put hm0 (x := nI 0) (by first | omega | (simp only [List.length_append, List.length_cons, List.length_nil, wid_l]; omega))) (cwV 1 F.2.2.2.2 (zgV km_X12_235 ki_X12_put ke_X12_X12_put kn_X12 ko_X12_put) rfl rfl rfl ⟨rfl, hd_yX12_put⟩ ⟨Nat.le_of_ble_eq_true rfl, Nat.le_of_ble_eq_true rfl⟩) rfl (by decide) hS.al rfl rfl (Nat.le_of_ble_eq_true rfl) dX12_writeWord_464 ⟨Nat.le_of_ble_eq_true rfl, Nat.le_of_ble_eq_true rfl⟩ (fun S464 hm464 => ?_)
      have hm0 := hm464
      obtain ⟨v1, hS, hX, hB⟩ := hm464
      refine r_iload F dX12_writeWord_467 rfl ?_
      refine r_if_lt (tgt := 574) F dX12_writeWord_469 (by decide) (fun _ => ?_) (fun h9 => absurd (Int32.not_le.mp c455) h9)
      rw [w1]
      exact e_vret F hr hlk (by rw [wB_31n (by rw [ec]; exact (enc_lt (fun z hz => by have := fO_lt hv hD hy ht9 hz; omega)).mp (Int32.not_le.mp c455))]; simpa only [List.append_assoc, List.cons_append, List.nil_append, Option.getD_some] using hm0) (by decide) (by decide) dX12_writeWord_574
  · refine r_table (off := 484) (tgt := 485) F dX12_writeWord_1 ((show ∀ w : Nat, w < 36 → (w = 32) → (if (nI w).toInt < 0 ∨ 34 < (nI w).toInt then some (560 : Int) else (#[155, 169, 169, 185, 185, 185, 185, 196, 206, 206, 206, 206, 206, 206, 217, 229, 241, 253, 265, 274, 289, 304, 319, 334, 334, 356, 382, 390, 399, 413, 430, 439, 484, 510, 533] : Array Int)[((nI w).toInt - 0).toNat]?) = some (484 : Int) from by decide) w hw w1) (by decide) ?_
    obtain ⟨j, hj, ej⟩ := hg.2.2.2.2.2.1 w1
    subst ej
    have ec : (nI j).toNatClampNeg = j := nI_clamp (by omega)
    obtain ⟨pk, hpk⟩ := h32 w1
    refine r_aload_n F dX12_writeWord_485 rfl ?_
    refine r_sipush (v := 167) F dX12_writeWord_486 (by decide) ?_
    refine r_bipush (v := 17) F dX12_writeWord_489 (by decide) ?_
    refine c_Vv (ci := 12) F G (mm_two hm0 (x := nI 167) (y := nI 17) (by first | omega | (simp only [List.length_append, List.length_cons, List.length_nil, wid_l]; omega))) (cwV 2 F.2.2.2.2 (zgV km_X12_291 ki_X12_two ke_X12_X12_two kn_X12 ko_X12_two) rfl rfl rfl ⟨rfl, hd_yX12_two⟩ ⟨Nat.le_of_ble_eq_true rfl, Nat.le_of_ble_eq_true rfl⟩) rfl (by decide) hS.al rfl rfl (Nat.le_of_ble_eq_true rfl) dX12_writeWord_491 ⟨Nat.le_of_ble_eq_true rfl, Nat.le_of_ble_eq_true rfl⟩ (fun S491 hm491 => ?_)
    have hm0 := hm491
    obtain ⟨v1, hS, hX, hB⟩ := hm491
    refine r_aload_n F dX12_writeWord_494 rfl ?_
    refine r_aload_n F dX12_writeWord_495 rfl ?_
    refine r_iload_n F dX12_writeWord_496 rfl ?_
    refine c_Vi (ci := 12) F G (mm_typeOf hS (hX.Q (by decide) (by decide) hT) (by omega) (fun k hk => Nat.lt_trans (hnT.2 _ (getD_mem hk)) (by decide)) (t := j) (by omega)) (cwV 1 F.2.2.2.2 (zgV km_X12_254 ki_X12_typeOf ke_X12_X12_typeOf kn_X12 ko_X12_typeOf) rfl rfl rfl ⟨rfl, hd_yX12_typeOf⟩ ⟨Nat.le_of_ble_eq_true rfl, Nat.le_of_ble_eq_true rfl⟩) rfl (by decide) hS.al rfl rfl (Nat.le_of_ble_eq_true rfl) dX12_writeWord_497 ⟨Nat.le_of_ble_eq_true rfl, Nat.le_of_ble_eq_true rfl⟩ (fun r497 S497 h497 => ?_)
    rw [ec] at hpk
    rcases h497 with ⟨k9, q1, q2, q3, q4⟩ | ⟨q1, _⟩
    rotate_left
    · rw [hpk] at q1; cases q1
    rw [hpk] at q1
    cases q1
    have hs497 := q4.symm
    subst hs497
    subst q3
    refine c_Vv (ci := 12) F G (mm_wide hm0 (n := pk) (by omega) (by first | omega | (simp only [List.length_append, List.length_cons, List.length_nil, wid_l]; omega))) (cwV 1 F.2.2.2.2 (zgV km_X12_294 ki_X12_wide ke_X12_X12_wide kn_X12 ko_X12_wide) rfl rfl rfl ⟨rfl, hd_yX12_wide⟩ ⟨Nat.le_of_ble_eq_true rfl, Nat.le_of_ble_eq_true rfl⟩) rfl (by decide) hS.al rfl rfl (Nat.le_of_ble_eq_true rfl) dX12_writeWord_500 ⟨Nat.le_of_ble_eq_true rfl, Nat.le_of_ble_eq_true rfl⟩ (fun S500 hm500 => ?_)
    have hm0 := hm500
    obtain ⟨v1, hS, hX, hB⟩ := hm500
    refine r_aload_n F dX12_writeWord_503 rfl ?_
    refine r_iconst (v := 0) F dX12_writeWord_504 (by decide) ?_
    refine c_Vv (ci := 12) F G (mm_put hm0 (x := nI 0) (by first | omega | (simp only [List.length_append, List.length_cons, List.length_nil, wid_l]; omega))) (cwV 1 F.2.2.2.2 (zgV km_X12_235 ki_X12_put ke_X12_X12_put kn_X12 ko_X12_put) rfl rfl rfl ⟨rfl, hd_yX12_put⟩ ⟨Nat.le_of_ble_eq_true rfl, Nat.le_of_ble_eq_true rfl⟩) rfl (by decide) hS.al rfl rfl (Nat.le_of_ble_eq_true rfl) dX12_writeWord_505 ⟨Nat.le_of_ble_eq_true rfl, Nat.le_of_ble_eq_true rfl⟩ (fun S505 hm505 => ?_)
    have hm0 := hm505
    obtain ⟨v1, hS, hX, hB⟩ := hm505
    refine r_goto (tgt := 574) F dX12_writeWord_508 (by decide) ?_
    rw [w1]
    exact e_vret F hr hlk (by rw [wB_32, ec, hpk]; simpa only [List.append_assoc, List.cons_append, List.nil_append, Option.getD_some] using hm0) (by decide) (by decide) dX12_writeWord_574
  · refine r_table (off := 510) (tgt := 511) F dX12_writeWord_1 ((show ∀ w : Nat, w < 36 → (w = 33) → (if (nI w).toInt < 0 ∨ 34 < (nI w).toInt then some (560 : Int) else (#[155, 169, 169, 185, 185, 185, 185, 196, 206, 206, 206, 206, 206, 206, 217, 229, 241, 253, 265, 274, 289, 304, 319, 334, 334, 356, 382, 390, 399, 413, 430, 439, 484, 510, 533] : Array Int)[((nI w).toInt - 0).toNat]?) = some (510 : Int) from by decide) w hw w1) (by decide) ?_
    obtain ⟨j, hj, ej, hk9⟩ := hg.2.2.2.2.2.2 w1
    have hyb := (rg_1204 hv (k := f / 8) (by omega)).2
    have hy : 16 * (f / 8) + j < 96 := by omega
    have ht9 : (16 * (f / 8) + j) % 16 < cn v 1204 ((16 * (f / 8) + j) / 16) := by rw [show (16 * (f / 8) + j) / 16 = f / 8 by omega]; omega
    subst ej
    have ec : (nI j).toNatClampNeg = j := nI_clamp (by omega)
    refine r_aload_n F dX12_writeWord_511 rfl ?_
    refine r_bipush (v := 66) F dX12_writeWord_512 (by decide) ?_
    refine c_Vv (ci := 12) F G (mm_put hm0 (x := nI 66) (by first | omega | (simp only [List.length_append, List.length_cons, List.length_nil, wid_l]; omega))) (cwV 1 F.2.2.2.2 (zgV km_X12_235 ki_X12_put ke_X12_X12_put kn_X12 ko_X12_put) rfl rfl rfl ⟨rfl, hd_yX12_put⟩ ⟨Nat.le_of_ble_eq_true rfl, Nat.le_of_ble_eq_true rfl⟩) rfl (by decide) hS.al rfl rfl (Nat.le_of_ble_eq_true rfl) dX12_writeWord_514 ⟨Nat.le_of_ble_eq_true rfl, Nat.le_of_ble_eq_true rfl⟩ (fun S514 hm514 => ?_)
    have hm0 := hm514
    obtain ⟨v1, hS, hX, hB⟩ := hm514
    refine r_aload_n F dX12_writeWord_517 rfl ?_
    refine r_aload_n F dX12_writeWord_518 rfl ?_
    refine r_bipush (v := 16) F dX12_writeWord_519 (by decide) ?_
    refine r_iload_n F dX12_writeWord_521 rfl ?_
    refine r_imul F dX12_writeWord_522 ?_
    refine r_iload_n F dX12_writeWord_523 rfl ?_
    refine r_iadd F dX12_writeWord_524 ?_
    rw [show (16 : Int32) * nI (f / 8) + nI j = nI (16 * (f / 8) + j) by rw [nl16, nI_mul, nI_add]]
    refine c_Vi (ci := 12) F G (mm_addressOf hS (hX.L.rg hv) (hX.L.A hA) (hX.L.D hD) hy (by rw [hX.L.c (by omega)]; exact ht9) (fun z hz => by rw [hX.L.emng] at hz; rw [hX.L 1215 z (by omega)]; exact hkd w1 z (by rw [ec]; exact hz))) (cwV 1 F.2.2.2.2 (zgV km_X12_297 ki_X12_addressOf ke_X12_X12_addressOf kn_X12 ko_X12_addressOf) rfl rfl rfl ⟨rfl, hd_yX12_addressOf⟩ ⟨Nat.le_of_ble_eq_true rfl, Nat.le_of_ble_eq_true rfl⟩) rfl (by decide) hS.al rfl rfl (Nat.le_of_ble_eq_true rfl) dX12_writeWord_525 ⟨Nat.le_of_ble_eq_true rfl, Nat.le_of_ble_eq_true rfl⟩ (fun r525 S525 h525 => ?_)
    obtain ⟨a525, e525⟩ := h525
    have hs525 := e525.symm
    subst hs525
    subst a525
    rw [hX.L.eaO]
    refine c_Vv (ci := 12) F G (mm_wide hm0 (n := (aO v (16 * (f / 8) + j))) (aO_lt hv hD hy ht9 (fun z hz => hkd w1 z (by rw [ec]; exact hz))) (by first | omega | (simp only [List.length_append, List.length_cons, List.length_nil, wid_l]; omega))) (cwV 1 F.2.2.2.2 (zgV km_X12_294 ki_X12_wide ke_X12_X12_wide kn_X12 ko_X12_wide) rfl rfl rfl ⟨rfl, hd_yX12_wide⟩ ⟨Nat.le_of_ble_eq_true rfl, Nat.le_of_ble_eq_true rfl⟩) rfl (by decide) hS.al rfl rfl (Nat.le_of_ble_eq_true rfl) dX12_writeWord_528 ⟨Nat.le_of_ble_eq_true rfl, Nat.le_of_ble_eq_true rfl⟩ (fun S528 hm528 => ?_)
    have hm0 := hm528
    obtain ⟨v1, hS, hX, hB⟩ := hm528
    refine r_goto (tgt := 574) F dX12_writeWord_531 (by decide) ?_
    rw [w1]
    exact e_vret F hr hlk (by rw [wB_33, ec]; simpa only [List.append_assoc, List.cons_append, List.nil_append, Option.getD_some] using hm0) (by decide) (by decide) dX12_writeWord_574
  · refine r_table (off := 533) (tgt := 534) F dX12_writeWord_1 ((show ∀ w : Nat, w < 36 → (w = 34) → (if (nI w).toInt < 0 ∨ 34 < (nI w).toInt then some (560 : Int) else (#[155, 169, 169, 185, 185, 185, 185, 196, 206, 206, 206, 206, 206, 206, 217, 229, 241, 253, 265, 274, 289, 304, 319, 334, 334, 356, 382, 390, 399, 413, 430, 439, 484, 510, 533] : Array Int)[((nI w).toInt - 0).toNat]?) = some (533 : Int) from by decide) w hw w1) (by decide) ?_
    obtain ⟨j, hj, ej, hk9⟩ := hg.2.2.2.2.1 (Or.inr w1)
    have hyb := (rg_1204 hv (k := f / 8) (by omega)).2
    have hy : 16 * (f / 8) + j < 96 := by omega
    have ht9 : (16 * (f / 8) + j) % 16 < cn v 1204 ((16 * (f / 8) + j) / 16) := by rw [show (16 * (f / 8) + j) / 16 = f / 8 by omega]; omega
    subst ej
    have ec : (nI j).toNatClampNeg = j := nI_clamp (by omega)
    refine r_aload_n F dX12_writeWord_534 rfl ?_
    refine r_bipush (v := 66) F dX12_writeWord_535 (by decide) ?_
    refine c_Vv (ci := 12) F G (mm_put hm0 (x := nI 66) (by first | omega | (simp only [List.length_append, List.length_cons, List.length_nil, wid_l]; omega))) (cwV 1 F.2.2.2.2 (zgV km_X12_235 ki_X12_put ke_X12_X12_put kn_X12 ko_X12_put) rfl rfl rfl ⟨rfl, hd_yX12_put⟩ ⟨Nat.le_of_ble_eq_true rfl, Nat.le_of_ble_eq_true rfl⟩) rfl (by decide) hS.al rfl rfl (Nat.le_of_ble_eq_true rfl) dX12_writeWord_537 ⟨Nat.le_of_ble_eq_true rfl, Nat.le_of_ble_eq_true rfl⟩ (fun S537 hm537 => ?_)
    have hm0 := hm537
    obtain ⟨v1, hS, hX, hB⟩ := hm537
    refine r_aload_n F dX12_writeWord_540 rfl ?_
    refine r_aload_n F dX12_writeWord_541 rfl ?_
    refine r_aload_n F dX12_writeWord_542 rfl ?_
    refine r_bipush (v := 16) F dX12_writeWord_543 (by decide) ?_
    refine r_iload_n F dX12_writeWord_545 rfl ?_
    refine r_imul F dX12_writeWord_546 ?_
    refine r_iload_n F dX12_writeWord_547 rfl ?_
    refine r_iadd F dX12_writeWord_548 ?_
    rw [show (16 : Int32) * nI (f / 8) + nI j = nI (16 * (f / 8) + j) by rw [nl16, nI_mul, nI_add]]
    refine c_Vi (ci := 12) F G (mm_functionOf hS (hX.L.rg hv) (hX.L.A hA) (hX.L.D hD) hy (by rw [hX.L.c (by omega)]; exact ht9)) (cwV 1 F.2.2.2.2 (zgV km_X12_189 ki_X12_functionOf ke_X12_X12_functionOf kn_X12 ko_X12_functionOf) rfl rfl rfl ⟨rfl, hd_yX12_functionOf⟩ ⟨Nat.le_of_ble_eq_true rfl, Nat.le_of_ble_eq_true rfl⟩) rfl (by decide) hS.al rfl rfl (Nat.le_of_ble_eq_true rfl) dX12_writeWord_549 ⟨Nat.le_of_ble_eq_true rfl, Nat.le_of_ble_eq_true rfl⟩ (fun r549 S549 h549 => ?_)
    obtain ⟨a549, e549⟩ := h549
    have hs549 := e549.symm
    subst hs549
    subst a549
    rw [hX.L.efO]
    refine c_Vi (ci := 12) F G (mm_slotOf hS (hX.Q (by decide) (by decide) hU) (by omega) (fun k hk => Nat.lt_trans (hnS.2 _ (getD_mem hk)) (by decide)) (x := fO v (16 * (f / 8) + j)) (fun z hz => by have := fO_lt hv hD hy ht9 hz; omega)) (cwV 1 F.2.2.2.2 (zgV km_X12_257 ki_X12_slotOf ke_X12_X12_slotOf kn_X12 ko_X12_slotOf) rfl rfl rfl ⟨rfl, hd_yX12_slotOf⟩ ⟨Nat.le_of_ble_eq_true rfl, Nat.le_of_ble_eq_true rfl⟩) rfl (by decide) hS.al rfl rfl (Nat.le_of_ble_eq_true rfl) dX12_writeWord_552 ⟨Nat.le_of_ble_eq_true rfl, Nat.le_of_ble_eq_true rfl⟩ (fun r552 S552 h552 => ?_)
    obtain ⟨e552, h552⟩ := h552
    have hs552 := e552.symm
    subst hs552
    have er : r552 = nI (slN Ss (fO v (16 * (f / 8) + j))) ∧ slN Ss (fO v (16 * (f / 8) + j)) ≤ 48 := by
      unfold slN
      rcases h552 with ⟨k9, q1, q2, q3⟩ | ⟨q1, q2⟩
      · rw [q1]; exact ⟨q3, by show k9 + 1 ≤ 48; omega⟩
      · rw [q1]; exact ⟨q2, Nat.zero_le _⟩
    rw [er.1]
    refine c_Vv (ci := 12) F G (mm_wide hm0 (n := (slN Ss (fO v (16 * (f / 8) + j)))) (by omega) (by first | omega | (simp only [List.length_append, List.length_cons, List.length_nil, wid_l]; omega))) (cwV 1 F.2.2.2.2 (zgV km_X12_294 ki_X12_wide ke_X12_X12_wide kn_X12 ko_X12_wide) rfl rfl rfl ⟨rfl, hd_yX12_wide⟩ ⟨Nat.le_of_ble_eq_true rfl, Nat.le_of_ble_eq_true rfl⟩) rfl (by decide) hS.al rfl rfl (Nat.le_of_ble_eq_true rfl) dX12_writeWord_555 ⟨Nat.le_of_ble_eq_true rfl, Nat.le_of_ble_eq_true rfl⟩ (fun S555 hm555 => ?_)
    have hm0 := hm555
    obtain ⟨v1, hS, hX, hB⟩ := hm555
    refine r_goto (tgt := 574) F dX12_writeWord_558 (by decide) ?_
    rw [w1]
    exact e_vret F hr hlk (by rw [wB_34, ec]; simpa only [List.append_assoc, List.cons_append, List.nil_append, Option.getD_some] using hm0) (by decide) (by decide) dX12_writeWord_574
  · refine r_table (off := 560) (tgt := 561) F dX12_writeWord_1 ((show ∀ w : Nat, w < 36 → (w = 35) → (if (nI w).toInt < 0 ∨ 34 < (nI w).toInt then some (560 : Int) else (#[155, 169, 169, 185, 185, 185, 185, 196, 206, 206, 206, 206, 206, 206, 217, 229, 241, 253, 265, 274, 289, 304, 319, 334, 334, 356, 382, 390, 399, 413, 430, 439, 484, 510, 533] : Array Int)[((nI w).toInt - 0).toNat]?) = some (560 : Int) from by decide) w hw w1) (by decide) ?_
    refine r_aload_n F dX12_writeWord_561 rfl ?_
    refine r_bipush (v := 66) F dX12_writeWord_562 (by decide) ?_
    refine c_Vv (ci := 12) F G (mm_put hm0 (x := nI 66) (by first | omega | (simp only [List.length_append, List.length_cons, List.length_nil, wid_l]; omega))) (cwV 1 F.2.2.2.2 (zgV km_X12_235 ki_X12_put ke_X12_X12_put kn_X12 ko_X12_put) rfl rfl rfl ⟨rfl, hd_yX12_put⟩ ⟨Nat.le_of_ble_eq_true rfl, Nat.le_of_ble_eq_true rfl⟩) rfl (by decide) hS.al rfl rfl (Nat.le_of_ble_eq_true rfl) dX12_writeWord_564 ⟨Nat.le_of_ble_eq_true rfl, Nat.le_of_ble_eq_true rfl⟩ (fun S564 hm564 => ?_)
    have hm0 := hm564
    obtain ⟨v1, hS, hX, hB⟩ := hm564
    refine r_aload_n F dX12_writeWord_567 rfl ?_
    refine r_sipush (v := 1024) F dX12_writeWord_568 (by decide) ?_
    refine c_Vv (ci := 12) F G (mm_signed hm0 (x := nI 1024) (by first | omega | (simp only [List.length_append, List.length_cons, List.length_nil, wid_l]; omega))) (cwV 1 F.2.2.2.2 (zgV km_X12_284 ki_X12_signed ke_X12_X12_signed kn_X12 ko_X12_signed) rfl rfl rfl ⟨rfl, hd_yX12_signed⟩ ⟨Nat.le_of_ble_eq_true rfl, Nat.le_of_ble_eq_true rfl⟩) rfl (by decide) hS.al rfl rfl (Nat.le_of_ble_eq_true rfl) dX12_writeWord_571 ⟨Nat.le_of_ble_eq_true rfl, Nat.le_of_ble_eq_true rfl⟩ (fun S571 hm571 => ?_)
    have hm0 := hm571
    obtain ⟨v1, hS, hX, hB⟩ := hm571
    rw [w1]
    exact e_vret F hr hlk (by rw [wB_35]; simpa only [List.append_assoc, List.cons_append, List.nil_append, Option.getD_some] using hm0) (by decide) (by decide) dX12_writeWord_574
