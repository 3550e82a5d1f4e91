section ZLR
variable {p : Program} {l : Launch} {e : Env} {R : Room} {s : State} {m : MethodId} {args : Array Value} {below : List Frame} {meth : Method} {c : Code} {Q : State → Prop} {N0 : Nat} {D : va_G} {cy : Nat → ClassId} {cc : ByteArray} {nL cells slots : Nat} {Ts : List Cond} {own : String} {S : zS} {lv : List (Nat × Value)} {pc : Nat} {rest : List Value}
/-- the script: its length, and an int of it -/
theorem r_slen (F : CallFix p m c cc nL s args Ts own) {b L : Nat} {xs : Nat → Int32} (hX : va_X b L xs s s.heap) (hbl : b < s.heap.size) (hbN : b < N0) (hdg : decode cc pc = .ok (.arraylength, 1)) (kk : zW p l e R s m args below meth c Q N0 D cy nL cells slots S lv (pc + 1) (.int (nI L) :: rest)) : zW p l e R s m args below meth c Q N0 D cy nL cells slots S lv pc (.ref b :: rest) := fun H locs ls hP hD hS hl => va_slen F.1 F.2.1 hX hbl (Nat.not_le.mpr hbN) hS hdg (kk H locs ls hP hD hS hl)
theorem r_sld (F : CallFix p m c cc nL s args Ts own) {b L : Nat} {xs : Nat → Int32} (hX : va_X b L xs s s.heap) (hbl : b < s.heap.size) (hbN : b < N0) {j : Int32} (n : Nat) (hj : j = nI n) (hn : n < L) (hL : L < 2 ^ 31) (hdg : decode cc pc = .ok (.iaload, 1)) (kk : zW p l e R s m args below meth c Q N0 D cy nL cells slots S lv (pc + 1) (.int (xs n) :: rest)) : zW p l e R s m args below meth c Q N0 D cy nL cells slots S lv pc (.int j :: .ref b :: rest) := by
  subst hj
  intro H locs ls hP hD hS hl
  refine va_sld F.1 F.2.1 hX hbl (Nat.not_le.mpr hbN) hS (vp_in_nI hn hL) hdg ?_
  rw [nI_clamp (by omega)]
  exact kk H locs ls hP hD hS hl
theorem r_ldcL (F : CallFix p m c cc nL s args Ts own) {idx : Nat} {v : Int64} (hc : Cond.constantLong own idx v ∈ Ts) (hdg : decode cc pc = .ok (.ldc2_w idx, 3)) (kk : zW p l e R s m args below meth c Q N0 D cy nL cells slots S lv (pc + 3) (.long v :: rest)) : zW p l e R s m args below meth c Q N0 D cy nL cells slots S lv pc rest := fun H locs ls hP hD hS hl => lv_ldc2 F.1 F.2.1 F.2.2.2.1 (F.2.2.2.2 _ hc) hdg (kk H locs ls hP hD hS hl)
/-- fewer locals are asked for -/
theorem r_lvk {lv' : List (Nat × Value)} (ks : List Nat) (h : lv_pick lv ks = lv') (kk : zW p l e R s m args below meth c Q N0 D cy nL cells slots S lv' pc rest) : zW p l e R s m args below meth c Q N0 D cy nL cells slots S lv pc rest := fun H locs ls hP hD hS hl => kk H locs ls hP hD hS (lv_sub hl ks h)
end ZLR
theorem lg_cmp_self (a : Int64) : lg_cmp a a = 0 := by simp [lg_cmp]
/-- two ints of the script as a long -/
def zjn (a b : Int32) : Int64 := (a.toInt64 <<< (32 : Int32).toInt64) ||| (b.toInt64 &&& 4294967295)
theorem hdL_object : yL_object.cls ≠ "java/lang/invoke/MethodHandle" ∧ yL_object.cls ≠ "java/lang/invoke/VarHandle" ∧ (parseMethodDescriptor yL_object.desc).map (fun d => d.parameters.length) = some 2 := by decide +kernel
theorem hdL_function : yL_function.cls ≠ "java/lang/invoke/MethodHandle" ∧ yL_function.cls ≠ "java/lang/invoke/VarHandle" ∧ (parseMethodDescriptor yL_function.desc).map (fun d => d.parameters.length) = some 6 := by decide +kernel
theorem hdL_code : yL_code.cls ≠ "java/lang/invoke/MethodHandle" ∧ yL_code.cls ≠ "java/lang/invoke/VarHandle" ∧ (parseMethodDescriptor yL_code.desc).map (fun d => d.parameters.length) = some 6 := by decide +kernel
theorem hdL_segment : yL_segment.cls ≠ "java/lang/invoke/MethodHandle" ∧ yL_segment.cls ≠ "java/lang/invoke/VarHandle" ∧ (parseMethodDescriptor yL_segment.desc).map (fun d => d.parameters.length) = some 5 := by decide +kernel
theorem hdL_fill : yL_fill.cls ≠ "java/lang/invoke/MethodHandle" ∧ yL_fill.cls ≠ "java/lang/invoke/VarHandle" ∧ (parseMethodDescriptor yL_fill.desc).map (fun d => d.parameters.length) = some 5 := by decide +kernel
theorem hdL_symbol : yL_symbol.cls ≠ "java/lang/invoke/MethodHandle" ∧ yL_symbol.cls ≠ "java/lang/invoke/VarHandle" ∧ (parseMethodDescriptor yL_symbol.desc).map (fun d => d.parameters.length) = some 8 := by decide +kernel
theorem hdL_link : yL_link.cls ≠ "java/lang/invoke/MethodHandle" ∧ yL_link.cls ≠ "java/lang/invoke/VarHandle" ∧ (parseMethodDescriptor yL_link.desc).map (fun d => d.parameters.length) = some 2 := by decide +kernel
theorem hdL_count : yL_count.cls ≠ "java/lang/invoke/MethodHandle" ∧ yL_count.cls ≠ "java/lang/invoke/VarHandle" ∧ (parseMethodDescriptor yL_count.desc).map (fun d => d.parameters.length) = some 3 := by decide +kernel
theorem hdL_byteAt : yL_byteAt.cls ≠ "java/lang/invoke/MethodHandle" ∧ yL_byteAt.cls ≠ "java/lang/invoke/VarHandle" ∧ (parseMethodDescriptor yL_byteAt.desc).map (fun d => d.parameters.length) = some 3 := by decide +kernel
theorem hdL_meant : yL_meant.cls ≠ "java/lang/invoke/MethodHandle" ∧ yL_meant.cls ≠ "java/lang/invoke/VarHandle" ∧ (parseMethodDescriptor yL_meant.desc).map (fun d => d.parameters.length) = some 5 := by decide +kernel
theorem hdL_run : yL_run.cls ≠ "java/lang/invoke/MethodHandle" ∧ yL_run.cls ≠ "java/lang/invoke/VarHandle" ∧ (parseMethodDescriptor yL_run.desc).map (fun d => d.parameters.length) = some 7 := by decide +kernel
theorem hdL_told : yL_told.cls ≠ "java/lang/invoke/MethodHandle" ∧ yL_told.cls ≠ "java/lang/invoke/VarHandle" ∧ (parseMethodDescriptor yL_told.desc).map (fun d => d.parameters.length) = some 3 := by decide +kernel
theorem hdL_memory : yL_memory.cls ≠ "java/lang/invoke/MethodHandle" ∧ yL_memory.cls ≠ "java/lang/invoke/VarHandle" ∧ (parseMethodDescriptor yL_memory.desc).map (fun d => d.parameters.length) = some 3 := by decide +kernel
section ZLC
variable {p : Program} {l : Launch} {e : Env} {R : Room} {s : State} {m : MethodId} {args : Array Value} {below : List Frame} {meth : Method} {c : Code} {Q : State → Prop} {N0 t0 : Nat} {D : va_G} {cy : Nat → ClassId} {cells slots : Nat} {z : Cond} {S : zS}
set_option maxRecDepth 100000 in
set_option maxHeartbeats 4000000 in
theorem lc_object (F : CallFix p m c cL_law 8 s args (z :: lw_good) RL) (G : zG N0 t0 D cy s s.heap) {b L : Nat} {xs : Nat → Int32} (hX : va_X b L xs s s.heap) (hbl : b < s.heap.size) (hbN : b < N0) {i : Nat} (hi : i + 8 ≤ L) (hL : L < 2 ^ 31) {x g o : Nat} (hx : zA S x 11) {post : Int32 → zS → Prop} {xp : String → zS → Prop} {f lo mc ms : Nat} (hK : zTi l yX11_object (zws yX11_object cX11_object 1 (some .int)) { frames := f, cells := mc, slots := ms, locals := lo } N0 t0 D cy S [.ref x] post xp mc ms) (hxp : ∀ E S', xp E S' → E = zISE) (hout : ∀ r S', post r S' → zA S' o 15 ∧ zn S' o = 1) {post2 : Int32 → zS → Int32 → zS → Prop} {f2 lo2 mc2 ms2 : Nat} (hM : ∀ (k : Int32) (S1 : zS), zwr1 o (fun r S1 => ∃ v : Int32, r = v.toInt64 ∧ post v S1) zISE xp k S1 → zA S1 g 12 ∧ zMi l yX12_object (zws yX12_object cX12_object 1 (some .int)) { frames := f2, cells := mc2, slots := ms2, locals := lo2 } N0 t0 D cy S1 [.ref g] (post2 k S1) mc2 ms2) {J : zS → Prop} (hJ : ∀ (k : Int32) (S1 : zS) (r : Int32) (S2 : zS), zwr1 o (fun r S1 => ∃ v : Int32, r = v.toInt64 ∧ post v S1) zISE xp k S1 → post2 k S1 r S2 → zA S2 g 12 ∧ zi S2 1200 g = k ∧ (k = 0 → zA S2 o 15 ∧ zn S2 o = 1 ∧ zrj S2 o 0 = r.toInt64) ∧ J S2) (hR : f + 2 ≤ R.frames ∧ lo + 80 ≤ R.locals ∧ f2 + 1 ≤ R.frames ∧ lo2 + 50 ≤ R.locals ∧ 3 ≤ R.frames ∧ 80 ≤ R.locals) (hc : cells + mc + mc2 ≤ R.cells) (hs : slots + ms + ms2 ≤ R.slots) (kk : ∀ S2, J S2 → zW p l e R s m args below meth c Q N0 D cy 8 (cells + mc + mc2) (slots + ms + ms2) S2 [(4, .int (nI i)), (3, .ref o), (2, .ref g), (1, .ref x), (0, .ref b)] 1174 []) : zW p l e R s m args below meth c Q N0 D cy 8 cells slots S [(4, .int (nI i)), (3, .ref o), (2, .ref g), (1, .ref x), (0, .ref b)] 112 [] := by
  obtain ⟨hR1, hR2, hR3, hR4, hR5, hR6⟩ := hR
  refine r_aload_n F dL_law_112 rfl ?_
  refine r_aload_n F dL_law_113 rfl ?_
  refine c_SWi F G (w_object hK hx hxp hout) (vx_cwSW 2 F.2.2.2.2 (zgSh km_L_64 ks_L_object kn_L kh_L_object) rfl rfl rfl hdL_object ⟨by dsimp only; omega, by dsimp only; omega⟩) rfl rfl (Nat.le_of_ble_eq_true rfl) dL_law_114 ⟨by omega, by omega⟩ (fun k S1 h1 => ?_)
  obtain ⟨hg1, hM1⟩ := hM k S1 h1
  refine r_istore F dL_law_117 (by decide) ?_
  refine r_aload_n F dL_law_119 rfl ?_
  refine c_Vi (ci := 12) F G hM1 (cwV 0 F.2.2.2.2 (zgV km_L_69 ki_X12_object ke_X12_X12_object kn_X12 ko_X12_object) rfl rfl rfl ⟨rfl, hd_yX12_object⟩ ⟨by dsimp only; omega, by dsimp only; omega⟩) rfl (by decide) hg1 rfl rfl (Nat.le_of_ble_eq_true rfl) dL_law_120 ⟨by omega, by omega⟩ (fun r S2 h2 => ?_)
  obtain ⟨hg2, hk2, hcm, hj2⟩ := hJ k S1 r S2 h1 h2
  refine r_istore F dL_law_123 (by decide) ?_
  refine r_aload_n F dL_law_125 rfl ?_
  refine c_Vi (ci := 12) F G (k_thrown hg2) (cwV 0 F.2.2.2.2 (zgV km_L_70 ki_X12_thrown ke_X12_X12_thrown kn_X12 ko_X12_thrown) rfl rfl rfl ⟨rfl, hd_yX12_thrown⟩ ⟨by dsimp only; omega, by dsimp only; omega⟩) rfl (by decide) hg2 rfl rfl (Nat.le_of_ble_eq_true rfl) dL_law_126 ⟨by omega, by omega⟩ (fun r3 S3 h3 => ?_)
  obtain ⟨h3a, h3b⟩ := h3
  have h3s := h3b.symm
  subst h3s
  refine r_iload F dL_law_129 rfl ?_
  refine r_icmp_eq (tgt := 136) F dL_law_131 (by decide) (fun _ => ?_) (fun h9 => absurd (h3a.trans hk2) h9)
  refine r_iload F dL_law_136 rfl ?_
  refine r_if_ne (tgt := 153) F dL_law_138 (by decide) (fun c138 => ?_) (fun c138 => ?_)
  · refine r_goto (tgt := 1174) F dL_law_153 (by decide) ?_
    exact r_lvk [2, 3, 4, 5, 6] rfl (kk S2 hj2)
  · refine r_aload_n F dL_law_141 rfl ?_
    refine r_iconst (v := 0) F dL_law_142 (by decide) ?_
    have hcm := hcm c138
    refine r_lald F G hcm.1 (show vp_in (0 : Int32) (zn S2 o) by rw [hcm.2.1]; exact vp_in_nI (n := 0) (by decide) (by decide)) dL_law_143 ?_
    refine r_iload F dL_law_144 rfl ?_
    refine r_i2l F dL_law_146 ?_
    refine r_lcmp F dL_law_147 ?_
    refine r_if_eq (tgt := 153) F dL_law_148 (by decide) (fun _ => ?_) (fun h9 => absurd (show lg_cmp (zrj S2 o 0) _ = 0 by rw [hcm.2.2]; exact lg_cmp_self _) h9)
    refine r_goto (tgt := 1174) F dL_law_153 (by decide) ?_
    exact r_lvk [2, 3, 4, 5, 6] rfl (kk S2 hj2)
set_option maxRecDepth 100000 in
set_option maxHeartbeats 4000000 in
theorem lc_function (F : CallFix p m c cL_law 8 s args (z :: lw_good) RL) (G : zG N0 t0 D cy s s.heap) {b L : Nat} {xs : Nat → Int32} (hX : va_X b L xs s s.heap) (hbl : b < s.heap.size) (hbN : b < N0) {i : Nat} (hi : i + 8 ≤ L) (hL : L < 2 ^ 31) {x g o : Nat} (hx : zA S x 11) {post : Int32 → zS → Prop} {xp : String → zS → Prop} {f lo mc ms : Nat} (hK : zTi l yX11_function (zws yX11_function cX11_function 7 (some .int)) { frames := f, cells := mc, slots := ms, locals := lo } N0 t0 D cy S [.ref x, .int (xs (i + 1)), .int (xs (i + 2)), .int (xs (i + 3)), .int (xs (i + 4))] post xp mc ms) (hxp : ∀ E S', xp E S' → E = zIAE ∨ E = zISE) (hout : ∀ r S', post r S' → zA S' o 15 ∧ zn S' o = 1) {post2 : Int32 → zS → Int32 → zS → Prop} {f2 lo2 mc2 ms2 : Nat} (hM : ∀ (k : Int32) (S1 : zS), zwr o (fun r S1 => ∃ v : Int32, r = v.toInt64 ∧ post v S1) xp k S1 → zA S1 g 12 ∧ zMi l yX12_function (zws yX12_function cX12_function 6 (some .int)) { frames := f2, cells := mc2, slots := ms2, locals := lo2 } N0 t0 D cy S1 [.ref g, .int (xs (i + 1)), .int (xs (i + 2)), .int (xs (i + 3)), .int (xs (i + 4))] (post2 k S1) mc2 ms2) {J : zS → Prop} (hJ : ∀ (k : Int32) (S1 : zS) (r : Int32) (S2 : zS), zwr o (fun r S1 => ∃ v : Int32, r = v.toInt64 ∧ post v S1) xp k S1 → post2 k S1 r S2 → zA S2 g 12 ∧ zi S2 1200 g = k ∧ (k = 0 → zA S2 o 15 ∧ zn S2 o = 1 ∧ zrj S2 o 0 = r.toInt64) ∧ J S2) (hR : f + 2 ≤ R.frames ∧ lo + 80 ≤ R.locals ∧ f2 + 1 ≤ R.frames ∧ lo2 + 50 ≤ R.locals ∧ 3 ≤ R.frames ∧ 80 ≤ R.locals) (hc : cells + mc + mc2 ≤ R.cells) (hs : slots + ms + ms2 ≤ R.slots) (kk : ∀ S2, J S2 → zW p l e R s m args below meth c Q N0 D cy 8 (cells + mc + mc2) (slots + ms + ms2) S2 [(4, .int (nI i)), (3, .ref o), (2, .ref g), (1, .ref x), (0, .ref b)] 1174 []) : zW p l e R s m args below meth c Q N0 D cy 8 cells slots S [(4, .int (nI i)), (3, .ref o), (2, .ref g), (1, .ref x), (0, .ref b)] 156 [] := by
  obtain ⟨hR1, hR2, hR3, hR4, hR5, hR6⟩ := hR
  refine r_aload_n F dL_law_156 rfl ?_
  refine r_aload_n F dL_law_157 rfl ?_
  refine r_iload F dL_law_158 rfl ?_
  refine r_iconst (v := 1) F dL_law_160 (by decide) ?_
  refine r_iadd F dL_law_161 ?_
  refine r_sld F hX hbl hbN (i + 1) (nI_add i 1) (by omega) hL dL_law_162 ?_
  refine r_aload_n F dL_law_163 rfl ?_
  refine r_iload F dL_law_164 rfl ?_
  refine r_iconst (v := 2) F dL_law_166 (by decide) ?_
  refine r_iadd F dL_law_167 ?_
  refine r_sld F hX hbl hbN (i + 2) (nI_add i 2) (by omega) hL dL_law_168 ?_
  refine r_aload_n F dL_law_169 rfl ?_
  refine r_iload F dL_law_170 rfl ?_
  refine r_iconst (v := 3) F dL_law_172 (by decide) ?_
  refine r_iadd F dL_law_173 ?_
  refine r_sld F hX hbl hbN (i + 3) (nI_add i 3) (by omega) hL dL_law_174 ?_
  refine r_aload_n F dL_law_175 rfl ?_
  refine r_iload F dL_law_176 rfl ?_
  refine r_iconst (v := 4) F dL_law_178 (by decide) ?_
  refine r_iadd F dL_law_179 ?_
  refine r_sld F hX hbl hbN (i + 4) (nI_add i 4) (by omega) hL dL_law_180 ?_
  refine r_aload_n F dL_law_181 rfl ?_
  refine c_SWi F G (w_function hK hx hxp hout) (vx_cwSW 6 F.2.2.2.2 (zgSh km_L_73 ks_L_function kn_L kh_L_function) rfl rfl rfl hdL_function ⟨by dsimp only; omega, by dsimp only; omega⟩) rfl rfl (Nat.le_of_ble_eq_true rfl) dL_law_182 ⟨by omega, by omega⟩ (fun k S1 h1 => ?_)
  obtain ⟨hg1, hM1⟩ := hM k S1 h1
  refine r_istore F dL_law_185 (by decide) ?_
  refine r_aload_n F dL_law_187 rfl ?_
  refine r_aload_n F dL_law_188 rfl ?_
  refine r_iload F dL_law_189 rfl ?_
  refine r_iconst (v := 1) F dL_law_191 (by decide) ?_
  refine r_iadd F dL_law_192 ?_
  refine r_sld F hX hbl hbN (i + 1) (nI_add i 1) (by omega) hL dL_law_193 ?_
  refine r_aload_n F dL_law_194 rfl ?_
  refine r_iload F dL_law_195 rfl ?_
  refine r_iconst (v := 2) F dL_law_197 (by decide) ?_
  refine r_iadd F dL_law_198 ?_
  refine r_sld F hX hbl hbN (i + 2) (nI_add i 2) (by omega) hL dL_law_199 ?_
  refine r_aload_n F dL_law_200 rfl ?_
  refine r_iload F dL_law_201 rfl ?_
  refine r_iconst (v := 3) F dL_law_203 (by decide) ?_
  refine r_iadd F dL_law_204 ?_
  refine r_sld F hX hbl hbN (i + 3) (nI_add i 3) (by omega) hL dL_law_205 ?_
  refine r_aload_n F dL_law_206 rfl ?_
  refine r_iload F dL_law_207 rfl ?_
  refine r_iconst (v := 4) F dL_law_209 (by decide) ?_
  refine r_iadd F dL_law_210 ?_
  refine r_sld F hX hbl hbN (i + 4) (nI_add i 4) (by omega) hL dL_law_211 ?_
  refine c_Vi (ci := 12) F G hM1 (cwV 4 F.2.2.2.2 (zgV km_L_76 ki_X12_function ke_X12_X12_function kn_X12 ko_X12_function) rfl rfl rfl ⟨rfl, hd_yX12_function⟩ ⟨by dsimp only; omega, by dsimp only; omega⟩) rfl (by decide) hg1 rfl rfl (Nat.le_of_ble_eq_true rfl) dL_law_212 ⟨by omega, by omega⟩ (fun r S2 h2 => ?_)
  obtain ⟨hg2, hk2, hcm, hj2⟩ := hJ k S1 r S2 h1 h2
  refine r_istore F dL_law_215 (by decide) ?_
  refine r_aload_n F dL_law_217 rfl ?_
  refine c_Vi (ci := 12) F G (k_thrown hg2) (cwV 0 F.2.2.2.2 (zgV km_L_70 ki_X12_thrown ke_X12_X12_thrown kn_X12 ko_X12_thrown) rfl rfl rfl ⟨rfl, hd_yX12_thrown⟩ ⟨by dsimp only; omega, by dsimp only; omega⟩) rfl (by decide) hg2 rfl rfl (Nat.le_of_ble_eq_true rfl) dL_law_218 ⟨by omega, by omega⟩ (fun r3 S3 h3 => ?_)
  obtain ⟨h3a, h3b⟩ := h3
  have h3s := h3b.symm
  subst h3s
  refine r_iload F dL_law_221 rfl ?_
  refine r_icmp_eq (tgt := 228) F dL_law_223 (by decide) (fun _ => ?_) (fun h9 => absurd (h3a.trans hk2) h9)
  refine r_iload F dL_law_228 rfl ?_
  refine r_if_ne (tgt := 245) F dL_law_230 (by decide) (fun c230 => ?_) (fun c230 => ?_)
  · refine r_goto (tgt := 1174) F dL_law_245 (by decide) ?_
    exact r_lvk [2, 3, 4, 5, 6] rfl (kk S2 hj2)
  · refine r_aload_n F dL_law_233 rfl ?_
    refine r_iconst (v := 0) F dL_law_234 (by decide) ?_
    have hcm := hcm c230
    refine r_lald F G hcm.1 (show vp_in (0 : Int32) (zn S2 o) by rw [hcm.2.1]; exact vp_in_nI (n := 0) (by decide) (by decide)) dL_law_235 ?_
    refine r_iload F dL_law_236 rfl ?_
    refine r_i2l F dL_law_238 ?_
    refine r_lcmp F dL_law_239 ?_
    refine r_if_eq (tgt := 245) F dL_law_240 (by decide) (fun _ => ?_) (fun h9 => absurd (show lg_cmp (zrj S2 o 0) _ = 0 by rw [hcm.2.2]; exact lg_cmp_self _) h9)
    refine r_goto (tgt := 1174) F dL_law_245 (by decide) ?_
    exact r_lvk [2, 3, 4, 5, 6] rfl (kk S2 hj2)
set_option maxRecDepth 100000 in
set_option maxHeartbeats 4000000 in
theorem lc_code (F : CallFix p m c cL_law 8 s args (z :: lw_good) RL) (G : zG N0 t0 D cy s s.heap) {b L : Nat} {xs : Nat → Int32} (hX : va_X b L xs s s.heap) (hbl : b < s.heap.size) (hbN : b < N0) {i : Nat} (hi : i + 8 ≤ L) (hL : L < 2 ^ 31) {x g o : Nat} (hx : zA S x 11) {post : Int32 → zS → Prop} {xp : String → zS → Prop} {f lo mc ms : Nat} (hK : zTi l yX11_code (zws yX11_code cX11_code 6 (some .int)) { frames := f, cells := mc, slots := ms, locals := lo } N0 t0 D cy S [.ref x, .int (xs (i + 1)), .int (xs (i + 2)), .int (xs (i + 3)), .int (xs (i + 4))] post xp mc ms) (hxp : ∀ E S', xp E S' → E = zIAE ∨ E = zISE) (hout : ∀ r S', post r S' → zA S' o 15 ∧ zn S' o = 1) {post2 : Int32 → zS → Int32 → zS → Prop} {f2 lo2 mc2 ms2 : Nat} (hM : ∀ (k : Int32) (S1 : zS), zwr o (fun r S1 => ∃ v : Int32, r = v.toInt64 ∧ post v S1) xp k S1 → zA S1 g 12 ∧ zMi l yX12_code (zws yX12_code cX12_code 6 (some .int)) { frames := f2, cells := mc2, slots := ms2, locals := lo2 } N0 t0 D cy S1 [.ref g, .int (xs (i + 1)), .int (xs (i + 2)), .int (xs (i + 3)), .int (xs (i + 4))] (post2 k S1) mc2 ms2) {J : zS → Prop} (hJ : ∀ (k : Int32) (S1 : zS) (r : Int32) (S2 : zS), zwr o (fun r S1 => ∃ v : Int32, r = v.toInt64 ∧ post v S1) xp k S1 → post2 k S1 r S2 → zA S2 g 12 ∧ zi S2 1200 g = k ∧ (k = 0 → zA S2 o 15 ∧ zn S2 o = 1 ∧ zrj S2 o 0 = r.toInt64) ∧ J S2) (hR : f + 2 ≤ R.frames ∧ lo + 80 ≤ R.locals ∧ f2 + 1 ≤ R.frames ∧ lo2 + 50 ≤ R.locals ∧ 3 ≤ R.frames ∧ 80 ≤ R.locals) (hc : cells + mc + mc2 ≤ R.cells) (hs : slots + ms + ms2 ≤ R.slots) (kk : ∀ S2, J S2 → zW p l e R s m args below meth c Q N0 D cy 8 (cells + mc + mc2) (slots + ms + ms2) S2 [(4, .int (nI i)), (3, .ref o), (2, .ref g), (1, .ref x), (0, .ref b)] 1174 []) : zW p l e R s m args below meth c Q N0 D cy 8 cells slots S [(4, .int (nI i)), (3, .ref o), (2, .ref g), (1, .ref x), (0, .ref b)] 248 [] := by
  obtain ⟨hR1, hR2, hR3, hR4, hR5, hR6⟩ := hR
  refine r_aload_n F dL_law_248 rfl ?_
  refine r_aload_n F dL_law_249 rfl ?_
  refine r_iload F dL_law_250 rfl ?_
  refine r_iconst (v := 1) F dL_law_252 (by decide) ?_
  refine r_iadd F dL_law_253 ?_
  refine r_sld F hX hbl hbN (i + 1) (nI_add i 1) (by omega) hL dL_law_254 ?_
  refine r_aload_n F dL_law_255 rfl ?_
  refine r_iload F dL_law_256 rfl ?_
  refine r_iconst (v := 2) F dL_law_258 (by decide) ?_
  refine r_iadd F dL_law_259 ?_
  refine r_sld F hX hbl hbN (i + 2) (nI_add i 2) (by omega) hL dL_law_260 ?_
  refine r_aload_n F dL_law_261 rfl ?_
  refine r_iload F dL_law_262 rfl ?_
  refine r_iconst (v := 3) F dL_law_264 (by decide) ?_
  refine r_iadd F dL_law_265 ?_
  refine r_sld F hX hbl hbN (i + 3) (nI_add i 3) (by omega) hL dL_law_266 ?_
  refine r_aload_n F dL_law_267 rfl ?_
  refine r_iload F dL_law_268 rfl ?_
  refine r_iconst (v := 4) F dL_law_270 (by decide) ?_
  refine r_iadd F dL_law_271 ?_
  refine r_sld F hX hbl hbN (i + 4) (nI_add i 4) (by omega) hL dL_law_272 ?_
  refine r_aload_n F dL_law_273 rfl ?_
  refine c_SWi F G (w_code hK hx hxp hout) (vx_cwSW 6 F.2.2.2.2 (zgSh km_L_77 ks_L_code kn_L kh_L_code) rfl rfl rfl hdL_code ⟨by dsimp only; omega, by dsimp only; omega⟩) rfl rfl (Nat.le_of_ble_eq_true rfl) dL_law_274 ⟨by omega, by omega⟩ (fun k S1 h1 => ?_)
  obtain ⟨hg1, hM1⟩ := hM k S1 h1
  refine r_istore F dL_law_277 (by decide) ?_
  refine r_aload_n F dL_law_279 rfl ?_
  refine r_aload_n F dL_law_280 rfl ?_
  refine r_iload F dL_law_281 rfl ?_
  refine r_iconst (v := 1) F dL_law_283 (by decide) ?_
  refine r_iadd F dL_law_284 ?_
  refine r_sld F hX hbl hbN (i + 1) (nI_add i 1) (by omega) hL dL_law_285 ?_
  refine r_aload_n F dL_law_286 rfl ?_
  refine r_iload F dL_law_287 rfl ?_
  refine r_iconst (v := 2) F dL_law_289 (by decide) ?_
  refine r_iadd F dL_law_290 ?_
  refine r_sld F hX hbl hbN (i + 2) (nI_add i 2) (by omega) hL dL_law_291 ?_
  refine r_aload_n F dL_law_292 rfl ?_
  refine r_iload F dL_law_293 rfl ?_
  refine r_iconst (v := 3) F dL_law_295 (by decide) ?_
  refine r_iadd F dL_law_296 ?_
  refine r_sld F hX hbl hbN (i + 3) (nI_add i 3) (by omega) hL dL_law_297 ?_
  refine r_aload_n F dL_law_298 rfl ?_
  refine r_iload F dL_law_299 rfl ?_
  refine r_iconst (v := 4) F dL_law_301 (by decide) ?_
  refine r_iadd F dL_law_302 ?_
  refine r_sld F hX hbl hbN (i + 4) (nI_add i 4) (by omega) hL dL_law_303 ?_
  refine c_Vi (ci := 12) F G hM1 (cwV 4 F.2.2.2.2 (zgV km_L_79 ki_X12_code ke_X12_X12_code kn_X12 ko_X12_code) rfl rfl rfl ⟨rfl, hd_yX12_code⟩ ⟨by dsimp only; omega, by dsimp only; omega⟩) rfl (by decide) hg1 rfl rfl (Nat.le_of_ble_eq_true rfl) dL_law_304 ⟨by omega, by omega⟩ (fun r S2 h2 => ?_)
  obtain ⟨hg2, hk2, hcm, hj2⟩ := hJ k S1 r S2 h1 h2
  refine r_istore F dL_law_307 (by decide) ?_
  refine r_aload_n F dL_law_309 rfl ?_
  refine c_Vi (ci := 12) F G (k_thrown hg2) (cwV 0 F.2.2.2.2 (zgV km_L_70 ki_X12_thrown ke_X12_X12_thrown kn_X12 ko_X12_thrown) rfl rfl rfl ⟨rfl, hd_yX12_thrown⟩ ⟨by dsimp only; omega, by dsimp only; omega⟩) rfl (by decide) hg2 rfl rfl (Nat.le_of_ble_eq_true rfl) dL_law_310 ⟨by omega, by omega⟩ (fun r3 S3 h3 => ?_)
  obtain ⟨h3a, h3b⟩ := h3
  have h3s := h3b.symm
  subst h3s
  refine r_iload F dL_law_313 rfl ?_
  refine r_icmp_eq (tgt := 320) F dL_law_315 (by decide) (fun _ => ?_) (fun h9 => absurd (h3a.trans hk2) h9)
  refine r_iload F dL_law_320 rfl ?_
  refine r_if_ne (tgt := 337) F dL_law_322 (by decide) (fun c322 => ?_) (fun c322 => ?_)
  · refine r_goto (tgt := 1174) F dL_law_337 (by decide) ?_
    exact r_lvk [2, 3, 4, 5, 6] rfl (kk S2 hj2)
  · refine r_aload_n F dL_law_325 rfl ?_
    refine r_iconst (v := 0) F dL_law_326 (by decide) ?_
    have hcm := hcm c322
    refine r_lald F G hcm.1 (show vp_in (0 : Int32) (zn S2 o) by rw [hcm.2.1]; exact vp_in_nI (n := 0) (by decide) (by decide)) dL_law_327 ?_
    refine r_iload F dL_law_328 rfl ?_
    refine r_i2l F dL_law_330 ?_
    refine r_lcmp F dL_law_331 ?_
    refine r_if_eq (tgt := 337) F dL_law_332 (by decide) (fun _ => ?_) (fun h9 => absurd (show lg_cmp (zrj S2 o 0) _ = 0 by rw [hcm.2.2]; exact lg_cmp_self _) h9)
    refine r_goto (tgt := 1174) F dL_law_337 (by decide) ?_
    exact r_lvk [2, 3, 4, 5, 6] rfl (kk S2 hj2)
set_option maxRecDepth 100000 in
set_option maxHeartbeats 4000000 in
theorem lc_segment (F : CallFix p m c cL_law 8 s args (z :: lw_good) RL) (G : zG N0 t0 D cy s s.heap) {b L : Nat} {xs : Nat → Int32} (hX : va_X b L xs s s.heap) (hbl : b < s.heap.size) (hbN : b < N0) {i : Nat} (hi : i + 8 ≤ L) (hL : L < 2 ^ 31) {x g o : Nat} (hx : zA S x 11) {post : Int32 → zS → Prop} {xp : String → zS → Prop} {f lo mc ms : Nat} (hK : zTi l yX11_segment (zws yX11_segment cX11_segment 6 (some .int)) { frames := f, cells := mc, slots := ms, locals := lo } N0 t0 D cy S [.ref x, .int (xs (i + 1)), .int (xs (i + 2)), .int (xs (i + 3))] post xp mc ms) (hxp : ∀ E S', xp E S' → E = zIAE ∨ E = zISE) (hout : ∀ r S', post r S' → zA S' o 15 ∧ zn S' o = 1) {post2 : Int32 → zS → Int32 → zS → Prop} {f2 lo2 mc2 ms2 : Nat} (hM : ∀ (k : Int32) (S1 : zS), zwr o (fun r S1 => ∃ v : Int32, r = v.toInt64 ∧ post v S1) xp k S1 → zA S1 g 12 ∧ zMi l yX12_segment (zws yX12_segment cX12_segment 4 (some .int)) { frames := f2, cells := mc2, slots := ms2, locals := lo2 } N0 t0 D cy S1 [.ref g, .int (xs (i + 1)), .int (xs (i + 2)), .int (xs (i + 3))] (post2 k S1) mc2 ms2) {J : zS → Prop} (hJ : ∀ (k : Int32) (S1 : zS) (r : Int32) (S2 : zS), zwr o (fun r S1 => ∃ v : Int32, r = v.toInt64 ∧ post v S1) xp k S1 → post2 k S1 r S2 → zA S2 g 12 ∧ zi S2 1200 g = k ∧ (k = 0 → zA S2 o 15 ∧ zn S2 o = 1 ∧ zrj S2 o 0 = r.toInt64) ∧ J S2) (hR : f + 2 ≤ R.frames ∧ lo + 80 ≤ R.locals ∧ f2 + 1 ≤ R.frames ∧ lo2 + 50 ≤ R.locals ∧ 3 ≤ R.frames ∧ 80 ≤ R.locals) (hc : cells + mc + mc2 ≤ R.cells) (hs : slots + ms + ms2 ≤ R.slots) (kk : ∀ S2, J S2 → zW p l e R s m args below meth c Q N0 D cy 8 (cells + mc + mc2) (slots + ms + ms2) S2 [(4, .int (nI i)), (3, .ref o), (2, .ref g), (1, .ref x), (0, .ref b)] 1174 []) : zW p l e R s m args below meth c Q N0 D cy 8 cells slots S [(4, .int (nI i)), (3, .ref o), (2, .ref g), (1, .ref x), (0, .ref b)] 340 [] := by
  obtain ⟨hR1, hR2, hR3, hR4, hR5, hR6⟩ := hR
  refine r_aload_n F dL_law_340 rfl ?_
  refine r_aload_n F dL_law_341 rfl ?_
  refine r_iload F dL_law_342 rfl ?_
  refine r_iconst (v := 1) F dL_law_344 (by decide) ?_
  refine r_iadd F dL_law_345 ?_
  refine r_sld F hX hbl hbN (i + 1) (nI_add i 1) (by omega) hL dL_law_346 ?_
  refine r_aload_n F dL_law_347 rfl ?_
  refine r_iload F dL_law_348 rfl ?_
  refine r_iconst (v := 2) F dL_law_350 (by decide) ?_
  refine r_iadd F dL_law_351 ?_
  refine r_sld F hX hbl hbN (i + 2) (nI_add i 2) (by omega) hL dL_law_352 ?_
  refine r_aload_n F dL_law_353 rfl ?_
  refine r_iload F dL_law_354 rfl ?_
  refine r_iconst (v := 3) F dL_law_356 (by decide) ?_
  refine r_iadd F dL_law_357 ?_
  refine r_sld F hX hbl hbN (i + 3) (nI_add i 3) (by omega) hL dL_law_358 ?_
  refine r_aload_n F dL_law_359 rfl ?_
  refine c_SWi F G (w_segment hK hx hxp hout) (vx_cwSW 5 F.2.2.2.2 (zgSh km_L_80 ks_L_segment kn_L kh_L_segment) rfl rfl rfl hdL_segment ⟨by dsimp only; omega, by dsimp only; omega⟩) rfl rfl (Nat.le_of_ble_eq_true rfl) dL_law_360 ⟨by omega, by omega⟩ (fun k S1 h1 => ?_)
  obtain ⟨hg1, hM1⟩ := hM k S1 h1
  refine r_istore F dL_law_363 (by decide) ?_
  refine r_aload_n F dL_law_365 rfl ?_
  refine r_aload_n F dL_law_366 rfl ?_
  refine r_iload F dL_law_367 rfl ?_
  refine r_iconst (v := 1) F dL_law_369 (by decide) ?_
  refine r_iadd F dL_law_370 ?_
  refine r_sld F hX hbl hbN (i + 1) (nI_add i 1) (by omega) hL dL_law_371 ?_
  refine r_aload_n F dL_law_372 rfl ?_
  refine r_iload F dL_law_373 rfl ?_
  refine r_iconst (v := 2) F dL_law_375 (by decide) ?_
  refine r_iadd F dL_law_376 ?_
  refine r_sld F hX hbl hbN (i + 2) (nI_add i 2) (by omega) hL dL_law_377 ?_
  refine r_aload_n F dL_law_378 rfl ?_
  refine r_iload F dL_law_379 rfl ?_
  refine r_iconst (v := 3) F dL_law_381 (by decide) ?_
  refine r_iadd F dL_law_382 ?_
  refine r_sld F hX hbl hbN (i + 3) (nI_add i 3) (by omega) hL dL_law_383 ?_
  refine c_Vi (ci := 12) F G hM1 (cwV 3 F.2.2.2.2 (zgV km_L_83 ki_X12_segment ke_X12_X12_segment kn_X12 ko_X12_segment) rfl rfl rfl ⟨rfl, hd_yX12_segment⟩ ⟨by dsimp only; omega, by dsimp only; omega⟩) rfl (by decide) hg1 rfl rfl (Nat.le_of_ble_eq_true rfl) dL_law_384 ⟨by omega, by omega⟩ (fun r S2 h2 => ?_)
  obtain ⟨hg2, hk2, hcm, hj2⟩ := hJ k S1 r S2 h1 h2
  refine r_istore F dL_law_387 (by decide) ?_
  refine r_aload_n F dL_law_389 rfl ?_
  refine c_Vi (ci := 12) F G (k_thrown hg2) (cwV 0 F.2.2.2.2 (zgV km_L_70 ki_X12_thrown ke_X12_X12_thrown kn_X12 ko_X12_thrown) rfl rfl rfl ⟨rfl, hd_yX12_thrown⟩ ⟨by dsimp only; omega, by dsimp only; omega⟩) rfl (by decide) hg2 rfl rfl (Nat.le_of_ble_eq_true rfl) dL_law_390 ⟨by omega, by omega⟩ (fun r3 S3 h3 => ?_)
  obtain ⟨h3a, h3b⟩ := h3
  have h3s := h3b.symm
  subst h3s
  refine r_iload F dL_law_393 rfl ?_
  refine r_icmp_eq (tgt := 400) F dL_law_395 (by decide) (fun _ => ?_) (fun h9 => absurd (h3a.trans hk2) h9)
  refine r_iload F dL_law_400 rfl ?_
  refine r_if_ne (tgt := 417) F dL_law_402 (by decide) (fun c402 => ?_) (fun c402 => ?_)
  · refine r_goto (tgt := 1174) F dL_law_417 (by decide) ?_
    exact r_lvk [2, 3, 4, 5, 6] rfl (kk S2 hj2)
  · refine r_aload_n F dL_law_405 rfl ?_
    refine r_iconst (v := 0) F dL_law_406 (by decide) ?_
    have hcm := hcm c402
    refine r_lald F G hcm.1 (show vp_in (0 : Int32) (zn S2 o) by rw [hcm.2.1]; exact vp_in_nI (n := 0) (by decide) (by decide)) dL_law_407 ?_
    refine r_iload F dL_law_408 rfl ?_
    refine r_i2l F dL_law_410 ?_
    refine r_lcmp F dL_law_411 ?_
    refine r_if_eq (tgt := 417) F dL_law_412 (by decide) (fun _ => ?_) (fun h9 => absurd (show lg_cmp (zrj S2 o 0) _ = 0 by rw [hcm.2.2]; exact lg_cmp_self _) h9)
    refine r_goto (tgt := 1174) F dL_law_417 (by decide) ?_
    exact r_lvk [2, 3, 4, 5, 6] rfl (kk S2 hj2)
set_option maxRecDepth 100000 in
set_option maxHeartbeats 4000000 in
theorem lc_fill (F : CallFix p m c cL_law 8 s args (z :: lw_good) RL) (G : zG N0 t0 D cy s s.heap) {b L : Nat} {xs : Nat → Int32} (hX : va_X b L xs s s.heap) (hbl : b < s.heap.size) (hbN : b < N0) {i : Nat} (hi : i + 8 ≤ L) (hL : L < 2 ^ 31) {x g o : Nat} (hx : zA S x 11) {post : zS → Prop} {xp : String → zS → Prop} {f lo mc ms : Nat} (hK : zTv l yX11_fill (zws yX11_fill cX11_fill 7 none) { frames := f, cells := mc, slots := ms, locals := lo } N0 t0 D cy S [.ref x, .int (xs (i + 1)), .int (xs (i + 2)), .int (xs (i + 3)), .long (zjn (xs (i + 4)) (xs (i + 5)))] post xp mc ms) (hxp : ∀ E S', xp E S' → E = zIAE) {post2 : Int32 → zS → zS → Prop} {f2 lo2 mc2 ms2 : Nat} (hM : ∀ (k : Int32) (S1 : zS), ((k = 0 ∧ post S1) ∨ (k = 1 ∧ xp zIAE S1)) → zA S1 g 12 ∧ zMv l yX12_fill (zws yX12_fill cX12_fill 7 none) { frames := f2, cells := mc2, slots := ms2, locals := lo2 } N0 t0 D cy S1 [.ref g, .int (xs (i + 1)), .int (xs (i + 2)), .int (xs (i + 3)), .long (zjn (xs (i + 4)) (xs (i + 5)))] (post2 k S1) mc2 ms2) {J : zS → Prop} (hJ : ∀ (k : Int32) (S1 : zS) (S2 : zS), ((k = 0 ∧ post S1) ∨ (k = 1 ∧ xp zIAE S1)) → post2 k S1 S2 → zA S2 g 12 ∧ zi S2 1200 g = k ∧ J S2) (hR : f + 2 ≤ R.frames ∧ lo + 80 ≤ R.locals ∧ f2 + 1 ≤ R.frames ∧ lo2 + 50 ≤ R.locals ∧ 3 ≤ R.frames ∧ 80 ≤ R.locals) (hc : cells + mc + mc2 ≤ R.cells) (hs : slots + ms + ms2 ≤ R.slots) (kk : ∀ S2, J S2 → zW p l e R s m args below meth c Q N0 D cy 8 (cells + mc + mc2) (slots + ms + ms2) S2 [(4, .int (nI i)), (3, .ref o), (2, .ref g), (1, .ref x), (0, .ref b)] 1174 []) : zW p l e R s m args below meth c Q N0 D cy 8 cells slots S [(4, .int (nI i)), (3, .ref o), (2, .ref g), (1, .ref x), (0, .ref b)] 420 [] := by
  obtain ⟨hR1, hR2, hR3, hR4, hR5, hR6⟩ := hR
  refine r_aload_n F dL_law_420 rfl ?_
  refine r_aload_n F dL_law_421 rfl ?_
  refine r_iload F dL_law_422 rfl ?_
  refine r_iconst (v := 1) F dL_law_424 (by decide) ?_
  refine r_iadd F dL_law_425 ?_
  refine r_sld F hX hbl hbN (i + 1) (nI_add i 1) (by omega) hL dL_law_426 ?_
  refine r_aload_n F dL_law_427 rfl ?_
  refine r_iload F dL_law_428 rfl ?_
  refine r_iconst (v := 2) F dL_law_430 (by decide) ?_
  refine r_iadd F dL_law_431 ?_
  refine r_sld F hX hbl hbN (i + 2) (nI_add i 2) (by omega) hL dL_law_432 ?_
  refine r_aload_n F dL_law_433 rfl ?_
  refine r_iload F dL_law_434 rfl ?_
  refine r_iconst (v := 3) F dL_law_436 (by decide) ?_
  refine r_iadd F dL_law_437 ?_
  refine r_sld F hX hbl hbN (i + 3) (nI_add i 3) (by omega) hL dL_law_438 ?_
  refine r_aload_n F dL_law_439 rfl ?_
  refine r_iload F dL_law_440 rfl ?_
  refine r_iconst (v := 4) F dL_law_442 (by decide) ?_
  refine r_iadd F dL_law_443 ?_
  refine r_sld F hX hbl hbN (i + 4) (nI_add i 4) (by omega) hL dL_law_444 ?_
  refine r_i2l F dL_law_445 ?_
  refine r_bipush (v := 32) F dL_law_446 (by decide) ?_
  refine r_lshl F dL_law_448 ?_
  refine r_aload_n F dL_law_449 rfl ?_
  refine r_iload F dL_law_450 rfl ?_
  refine r_iconst (v := 5) F dL_law_452 (by decide) ?_
  refine r_iadd F dL_law_453 ?_
  refine r_sld F hX hbl hbN (i + 5) (nI_add i 5) (by omega) hL dL_law_454 ?_
  refine r_i2l F dL_law_455 ?_
  refine r_ldcL F (zin kv_L_84) dL_law_456 ?_
  refine r_land F dL_law_459 ?_
  refine r_lor F dL_law_460 ?_
  refine c_SWi F G (w_fill hK hx hxp) (vx_cwSW 5 F.2.2.2.2 (zgSh km_L_86 ks_L_fill kn_L kh_L_fill) rfl rfl rfl hdL_fill ⟨by dsimp only; omega, by dsimp only; omega⟩) rfl rfl (Nat.le_of_ble_eq_true rfl) dL_law_461 ⟨by omega, by omega⟩ (fun k S1 h1 => ?_)
  obtain ⟨hg1, hM1⟩ := hM k S1 h1
  refine r_istore F dL_law_464 (by decide) ?_
  refine r_aload_n F dL_law_466 rfl ?_
  refine r_aload_n F dL_law_467 rfl ?_
  refine r_iload F dL_law_468 rfl ?_
  refine r_iconst (v := 1) F dL_law_470 (by decide) ?_
  refine r_iadd F dL_law_471 ?_
  refine r_sld F hX hbl hbN (i + 1) (nI_add i 1) (by omega) hL dL_law_472 ?_
  refine r_aload_n F dL_law_473 rfl ?_
  refine r_iload F dL_law_474 rfl ?_
  refine r_iconst (v := 2) F dL_law_476 (by decide) ?_
  refine r_iadd F dL_law_477 ?_
  refine r_sld F hX hbl hbN (i + 2) (nI_add i 2) (by omega) hL dL_law_478 ?_
  refine r_aload_n F dL_law_479 rfl ?_
  refine r_iload F dL_law_480 rfl ?_
  refine r_iconst (v := 3) F dL_law_482 (by decide) ?_
  refine r_iadd F dL_law_483 ?_
  refine r_sld F hX hbl hbN (i + 3) (nI_add i 3) (by omega) hL dL_law_484 ?_
  refine r_aload_n F dL_law_485 rfl ?_
  refine r_iload F dL_law_486 rfl ?_
  refine r_iconst (v := 4) F dL_law_488 (by decide) ?_
  refine r_iadd F dL_law_489 ?_
  refine r_sld F hX hbl hbN (i + 4) (nI_add i 4) (by omega) hL dL_law_490 ?_
  refine r_i2l F dL_law_491 ?_
  refine r_bipush (v := 32) F dL_law_492 (by decide) ?_
  refine r_lshl F dL_law_494 ?_
  refine r_aload_n F dL_law_495 rfl ?_
  refine r_iload F dL_law_496 rfl ?_
  refine r_iconst (v := 5) F dL_law_498 (by decide) ?_
  refine r_iadd F dL_law_499 ?_
  refine r_sld F hX hbl hbN (i + 5) (nI_add i 5) (by omega) hL dL_law_500 ?_
  refine r_i2l F dL_law_501 ?_
  refine r_ldcL F (zin kv_L_84) dL_law_502 ?_
  refine r_land F dL_law_505 ?_
  refine r_lor F dL_law_506 ?_
  refine c_Vv (ci := 12) F G hM1 (cwV 4 F.2.2.2.2 (zgV km_L_89 ki_X12_fill ke_X12_X12_fill kn_X12 ko_X12_fill) rfl rfl rfl ⟨rfl, hd_yX12_fill⟩ ⟨by dsimp only; omega, by dsimp only; omega⟩) rfl (by decide) hg1 rfl rfl (Nat.le_of_ble_eq_true rfl) dL_law_507 ⟨by omega, by omega⟩ (fun S2 h2 => ?_)
  obtain ⟨hg2, hk2, hj2⟩ := hJ k S1 S2 h1 h2
  refine r_aload_n F dL_law_510 rfl ?_
  refine c_Vi (ci := 12) F G (k_thrown hg2) (cwV 0 F.2.2.2.2 (zgV km_L_70 ki_X12_thrown ke_X12_X12_thrown kn_X12 ko_X12_thrown) rfl rfl rfl ⟨rfl, hd_yX12_thrown⟩ ⟨by dsimp only; omega, by dsimp only; omega⟩) rfl (by decide) hg2 rfl rfl (Nat.le_of_ble_eq_true rfl) dL_law_511 ⟨by omega, by omega⟩ (fun r3 S3 h3 => ?_)
  obtain ⟨h3a, h3b⟩ := h3
  have h3s := h3b.symm
  subst h3s
  refine r_iload F dL_law_514 rfl ?_
  refine r_icmp_eq (tgt := 521) F dL_law_516 (by decide) (fun _ => ?_) (fun h9 => absurd (h3a.trans hk2) h9)
  refine r_goto (tgt := 1174) F dL_law_521 (by decide) ?_
  exact r_lvk [1, 2, 3, 4, 5] rfl (kk S2 hj2)
set_option maxRecDepth 100000 in
set_option maxHeartbeats 4000000 in
theorem lc_symbol (F : CallFix p m c cL_law 8 s args (z :: lw_good) RL) (G : zG N0 t0 D cy s s.heap) {b L : Nat} {xs : Nat → Int32} (hX : va_X b L xs s s.heap) (hbl : b < s.heap.size) (hbN : b < N0) {i : Nat} (hi : i + 8 ≤ L) (hL : L < 2 ^ 31) {x g o : Nat} (hx : zA S x 11) {post : Int32 → zS → Prop} {xp : String → zS → Prop} {f lo mc ms : Nat} (hK : zTi l yX11_symbol (zws yX11_symbol cX11_symbol 11 (some .int)) { frames := f, cells := mc, slots := ms, locals := lo } N0 t0 D cy S [.ref x, .int (xs (i + 1)), .int (xs (i + 2)), .int (xs (i + 3)), .int (xs (i + 4)), .int (xs (i + 5)), .int (xs (i + 6))] post xp mc ms) (hxp : ∀ E S', xp E S' → E = zIAE ∨ E = zISE) (hout : ∀ r S', post r S' → zA S' o 15 ∧ zn S' o = 1) {post2 : Int32 → zS → Int32 → zS → Prop} {f2 lo2 mc2 ms2 : Nat} (hM : ∀ (k : Int32) (S1 : zS), zwr o (fun r S1 => ∃ v : Int32, r = v.toInt64 ∧ post v S1) xp k S1 → zA S1 g 12 ∧ zMi l yX12_symbol (zws yX12_symbol cX12_symbol 9 (some .int)) { frames := f2, cells := mc2, slots := ms2, locals := lo2 } N0 t0 D cy S1 [.ref g, .int (xs (i + 1)), .int (xs (i + 2)), .int (xs (i + 3)), .int (xs (i + 4)), .int (xs (i + 5)), .int (xs (i + 6))] (post2 k S1) mc2 ms2) {J : zS → Prop} (hJ : ∀ (k : Int32) (S1 : zS) (r : Int32) (S2 : zS), zwr o (fun r S1 => ∃ v : Int32, r = v.toInt64 ∧ post v S1) xp k S1 → post2 k S1 r S2 → zA S2 g 12 ∧ zi S2 1200 g = k ∧ (k = 0 → zA S2 o 15 ∧ zn S2 o = 1 ∧ zrj S2 o 0 = r.toInt64) ∧ J S2) (hR : f + 2 ≤ R.frames ∧ lo + 80 ≤ R.locals ∧ f2 + 1 ≤ R.frames ∧ lo2 + 50 ≤ R.locals ∧ 3 ≤ R.frames ∧ 80 ≤ R.locals) (hc : cells + mc + mc2 ≤ R.cells) (hs : slots + ms + ms2 ≤ R.slots) (kk : ∀ S2, J S2 → zW p l e R s m args below meth c Q N0 D cy 8 (cells + mc + mc2) (slots + ms + ms2) S2 [(4, .int (nI i)), (3, .ref o), (2, .ref g), (1, .ref x), (0, .ref b)] 1174 []) : zW p l e R s m args below meth c Q N0 D cy 8 cells slots S [(4, .int (nI i)), (3, .ref o), (2, .ref g), (1, .ref x), (0, .ref b)] 524 [] := by
  obtain ⟨hR1, hR2, hR3, hR4, hR5, hR6⟩ := hR
  refine r_aload_n F dL_law_524 rfl ?_
  refine r_aload_n F dL_law_525 rfl ?_
  refine r_iload F dL_law_526 rfl ?_
  refine r_iconst (v := 1) F dL_law_528 (by decide) ?_
  refine r_iadd F dL_law_529 ?_
  refine r_sld F hX hbl hbN (i + 1) (nI_add i 1) (by omega) hL dL_law_530 ?_
  refine r_aload_n F dL_law_531 rfl ?_
  refine r_iload F dL_law_532 rfl ?_
  refine r_iconst (v := 2) F dL_law_534 (by decide) ?_
  refine r_iadd F dL_law_535 ?_
  refine r_sld F hX hbl hbN (i + 2) (nI_add i 2) (by omega) hL dL_law_536 ?_
  refine r_aload_n F dL_law_537 rfl ?_
  refine r_iload F dL_law_538 rfl ?_
  refine r_iconst (v := 3) F dL_law_540 (by decide) ?_
  refine r_iadd F dL_law_541 ?_
  refine r_sld F hX hbl hbN (i + 3) (nI_add i 3) (by omega) hL dL_law_542 ?_
  refine r_aload_n F dL_law_543 rfl ?_
  refine r_iload F dL_law_544 rfl ?_
  refine r_iconst (v := 4) F dL_law_546 (by decide) ?_
  refine r_iadd F dL_law_547 ?_
  refine r_sld F hX hbl hbN (i + 4) (nI_add i 4) (by omega) hL dL_law_548 ?_
  refine r_aload_n F dL_law_549 rfl ?_
  refine r_iload F dL_law_550 rfl ?_
  refine r_iconst (v := 5) F dL_law_552 (by decide) ?_
  refine r_iadd F dL_law_553 ?_
  refine r_sld F hX hbl hbN (i + 5) (nI_add i 5) (by omega) hL dL_law_554 ?_
  refine r_aload_n F dL_law_555 rfl ?_
  refine r_iload F dL_law_556 rfl ?_
  refine r_bipush (v := 6) F dL_law_558 (by decide) ?_
  refine r_iadd F dL_law_560 ?_
  refine r_sld F hX hbl hbN (i + 6) (nI_add i 6) (by omega) hL dL_law_561 ?_
  refine r_aload_n F dL_law_562 rfl ?_
  refine c_SWi F G (w_symbol hK hx hxp hout) (vx_cwSW 8 F.2.2.2.2 (zgSh km_L_90 ks_L_symbol kn_L kh_L_symbol) rfl rfl rfl hdL_symbol ⟨by dsimp only; omega, by dsimp only; omega⟩) rfl rfl (Nat.le_of_ble_eq_true rfl) dL_law_563 ⟨by omega, by omega⟩ (fun k S1 h1 => ?_)
  obtain ⟨hg1, hM1⟩ := hM k S1 h1
  refine r_istore F dL_law_566 (by decide) ?_
  refine r_aload_n F dL_law_568 rfl ?_
  refine r_aload_n F dL_law_569 rfl ?_
  refine r_iload F dL_law_570 rfl ?_
  refine r_iconst (v := 1) F dL_law_572 (by decide) ?_
  refine r_iadd F dL_law_573 ?_
  refine r_sld F hX hbl hbN (i + 1) (nI_add i 1) (by omega) hL dL_law_574 ?_
  refine r_aload_n F dL_law_575 rfl ?_
  refine r_iload F dL_law_576 rfl ?_
  refine r_iconst (v := 2) F dL_law_578 (by decide) ?_
  refine r_iadd F dL_law_579 ?_
  refine r_sld F hX hbl hbN (i + 2) (nI_add i 2) (by omega) hL dL_law_580 ?_
  refine r_aload_n F dL_law_581 rfl ?_
  refine r_iload F dL_law_582 rfl ?_
  refine r_iconst (v := 3) F dL_law_584 (by decide) ?_
  refine r_iadd F dL_law_585 ?_
  refine r_sld F hX hbl hbN (i + 3) (nI_add i 3) (by omega) hL dL_law_586 ?_
  refine r_aload_n F dL_law_587 rfl ?_
  refine r_iload F dL_law_588 rfl ?_
  refine r_iconst (v := 4) F dL_law_590 (by decide) ?_
  refine r_iadd F dL_law_591 ?_
  refine r_sld F hX hbl hbN (i + 4) (nI_add i 4) (by omega) hL dL_law_592 ?_
  refine r_aload_n F dL_law_593 rfl ?_
  refine r_iload F dL_law_594 rfl ?_
  refine r_iconst (v := 5) F dL_law_596 (by decide) ?_
  refine r_iadd F dL_law_597 ?_
  refine r_sld F hX hbl hbN (i + 5) (nI_add i 5) (by omega) hL dL_law_598 ?_
  refine r_aload_n F dL_law_599 rfl ?_
  refine r_iload F dL_law_600 rfl ?_
  refine r_bipush (v := 6) F dL_law_602 (by decide) ?_
  refine r_iadd F dL_law_604 ?_
  refine r_sld F hX hbl hbN (i + 6) (nI_add i 6) (by omega) hL dL_law_605 ?_
  refine c_Vi (ci := 12) F G hM1 (cwV 6 F.2.2.2.2 (zgV km_L_93 ki_X12_symbol ke_X12_X12_symbol kn_X12 ko_X12_symbol) rfl rfl rfl ⟨rfl, hd_yX12_symbol⟩ ⟨by dsimp only; omega, by dsimp only; omega⟩) rfl (by decide) hg1 rfl rfl (Nat.le_of_ble_eq_true rfl) dL_law_606 ⟨by omega, by omega⟩ (fun r S2 h2 => ?_)
  obtain ⟨hg2, hk2, hcm, hj2⟩ := hJ k S1 r S2 h1 h2
  refine r_istore F dL_law_609 (by decide) ?_
  refine r_aload_n F dL_law_611 rfl ?_
  refine c_Vi (ci := 12) F G (k_thrown hg2) (cwV 0 F.2.2.2.2 (zgV km_L_70 ki_X12_thrown ke_X12_X12_thrown kn_X12 ko_X12_thrown) rfl rfl rfl ⟨rfl, hd_yX12_thrown⟩ ⟨by dsimp only; omega, by dsimp only; omega⟩) rfl (by decide) hg2 rfl rfl (Nat.le_of_ble_eq_true rfl) dL_law_612 ⟨by omega, by omega⟩ (fun r3 S3 h3 => ?_)
  obtain ⟨h3a, h3b⟩ := h3
  have h3s := h3b.symm
  subst h3s
  refine r_iload F dL_law_615 rfl ?_
  refine r_icmp_eq (tgt := 622) F dL_law_617 (by decide) (fun _ => ?_) (fun h9 => absurd (h3a.trans hk2) h9)
  refine r_iload F dL_law_622 rfl ?_
  refine r_if_ne (tgt := 639) F dL_law_624 (by decide) (fun c624 => ?_) (fun c624 => ?_)
  · refine r_goto (tgt := 1174) F dL_law_639 (by decide) ?_
    exact r_lvk [2, 3, 4, 5, 6] rfl (kk S2 hj2)
  · refine r_aload_n F dL_law_627 rfl ?_
    refine r_iconst (v := 0) F dL_law_628 (by decide) ?_
    have hcm := hcm c624
    refine r_lald F G hcm.1 (show vp_in (0 : Int32) (zn S2 o) by rw [hcm.2.1]; exact vp_in_nI (n := 0) (by decide) (by decide)) dL_law_629 ?_
    refine r_iload F dL_law_630 rfl ?_
    refine r_i2l F dL_law_632 ?_
    refine r_lcmp F dL_law_633 ?_
    refine r_if_eq (tgt := 639) F dL_law_634 (by decide) (fun _ => ?_) (fun h9 => absurd (show lg_cmp (zrj S2 o 0) _ = 0 by rw [hcm.2.2]; exact lg_cmp_self _) h9)
    refine r_goto (tgt := 1174) F dL_law_639 (by decide) ?_
    exact r_lvk [2, 3, 4, 5, 6] rfl (kk S2 hj2)
set_option maxRecDepth 100000 in
set_option maxHeartbeats 4000000 in
theorem lc_link (F : CallFix p m c cL_law 8 s args (z :: lw_good) RL) (G : zG N0 t0 D cy s s.heap) {b L : Nat} {xs : Nat → Int32} (hX : va_X b L xs s s.heap) (hbl : b < s.heap.size) (hbN : b < N0) {i : Nat} (hi : i + 8 ≤ L) (hL : L < 2 ^ 31) {x g o : Nat} (hx : zA S x 11) {post : Int32 → zS → Prop} {xp : String → zS → Prop} {f lo mc ms : Nat} (hK : zTi l yX11_link (zws yX11_link cX11_link 3 (some .int)) { frames := f, cells := mc, slots := ms, locals := lo } N0 t0 D cy S [.ref x] post xp mc ms) (hxp : ∀ E S', xp E S' → E = zISE) (hout : ∀ r S', post r S' → zA S' o 15 ∧ zn S' o = 1) {post2 : Int32 → zS → Int32 → zS → Prop} {f2 lo2 mc2 ms2 : Nat} (hM : ∀ (k : Int32) (S1 : zS), zwr1 o (fun r S1 => ∃ v : Int32, r = v.toInt64 ∧ post v S1) zISE xp k S1 → zA S1 g 12 ∧ zMi l yX12_link (zws yX12_link cX12_link 2 (some .int)) { frames := f2, cells := mc2, slots := ms2, locals := lo2 } N0 t0 D cy S1 [.ref g] (post2 k S1) mc2 ms2) {J : zS → Prop} (hJ : ∀ (k : Int32) (S1 : zS) (r : Int32) (S2 : zS), zwr1 o (fun r S1 => ∃ v : Int32, r = v.toInt64 ∧ post v S1) zISE xp k S1 → post2 k S1 r S2 → zA S2 g 12 ∧ zi S2 1200 g = k ∧ (k = 0 → zA S2 o 15 ∧ zn S2 o = 1 ∧ zrj S2 o 0 = r.toInt64) ∧ J S2) (hR : f + 2 ≤ R.frames ∧ lo + 80 ≤ R.locals ∧ f2 + 1 ≤ R.frames ∧ lo2 + 50 ≤ R.locals ∧ 3 ≤ R.frames ∧ 80 ≤ R.locals) (hc : cells + mc + mc2 ≤ R.cells) (hs : slots + ms + ms2 ≤ R.slots) (kk : ∀ S2, J S2 → zW p l e R s m args below meth c Q N0 D cy 8 (cells + mc + mc2) (slots + ms + ms2) S2 [(4, .int (nI i)), (3, .ref o), (2, .ref g), (1, .ref x), (0, .ref b)] 1174 []) : zW p l e R s m args below meth c Q N0 D cy 8 cells slots S [(4, .int (nI i)), (3, .ref o), (2, .ref g), (1, .ref x), (0, .ref b)] 642 [] := by
  obtain ⟨hR1, hR2, hR3, hR4, hR5, hR6⟩ := hR
  refine r_aload_n F dL_law_642 rfl ?_
  refine r_aload_n F dL_law_643 rfl ?_
  refine c_SWi F G (w_link hK hx hxp hout) (vx_cwSW 2 F.2.2.2.2 (zgSh km_L_94 ks_L_link kn_L kh_L_link) rfl rfl rfl hdL_link ⟨by dsimp only; omega, by dsimp only; omega⟩) rfl rfl (Nat.le_of_ble_eq_true rfl) dL_law_644 ⟨by omega, by omega⟩ (fun k S1 h1 => ?_)
  obtain ⟨hg1, hM1⟩ := hM k S1 h1
  refine r_istore F dL_law_647 (by decide) ?_
  refine r_aload_n F dL_law_649 rfl ?_
  refine c_Vi (ci := 12) F G hM1 (cwV 0 F.2.2.2.2 (zgV km_L_96 ki_X12_link ke_X12_X12_link kn_X12 ko_X12_link) rfl rfl rfl ⟨rfl, hd_yX12_link⟩ ⟨by dsimp only; omega, by dsimp only; omega⟩) rfl (by decide) hg1 rfl rfl (Nat.le_of_ble_eq_true rfl) dL_law_650 ⟨by omega, by omega⟩ (fun r S2 h2 => ?_)
  obtain ⟨hg2, hk2, hcm, hj2⟩ := hJ k S1 r S2 h1 h2
  refine r_istore F dL_law_653 (by decide) ?_
  refine r_aload_n F dL_law_655 rfl ?_
  refine c_Vi (ci := 12) F G (k_thrown hg2) (cwV 0 F.2.2.2.2 (zgV km_L_70 ki_X12_thrown ke_X12_X12_thrown kn_X12 ko_X12_thrown) rfl rfl rfl ⟨rfl, hd_yX12_thrown⟩ ⟨by dsimp only; omega, by dsimp only; omega⟩) rfl (by decide) hg2 rfl rfl (Nat.le_of_ble_eq_true rfl) dL_law_656 ⟨by omega, by omega⟩ (fun r3 S3 h3 => ?_)
  obtain ⟨h3a, h3b⟩ := h3
  have h3s := h3b.symm
  subst h3s
  refine r_iload F dL_law_659 rfl ?_
  refine r_icmp_eq (tgt := 666) F dL_law_661 (by decide) (fun _ => ?_) (fun h9 => absurd (h3a.trans hk2) h9)
  refine r_iload F dL_law_666 rfl ?_
  refine r_if_ne (tgt := 683) F dL_law_668 (by decide) (fun c668 => ?_) (fun c668 => ?_)
  · refine r_goto (tgt := 1174) F dL_law_683 (by decide) ?_
    exact r_lvk [2, 3, 4, 5, 6] rfl (kk S2 hj2)
  · refine r_aload_n F dL_law_671 rfl ?_
    refine r_iconst (v := 0) F dL_law_672 (by decide) ?_
    have hcm := hcm c668
    refine r_lald F G hcm.1 (show vp_in (0 : Int32) (zn S2 o) by rw [hcm.2.1]; exact vp_in_nI (n := 0) (by decide) (by decide)) dL_law_673 ?_
    refine r_iload F dL_law_674 rfl ?_
    refine r_i2l F dL_law_676 ?_
    refine r_lcmp F dL_law_677 ?_
    refine r_if_eq (tgt := 683) F dL_law_678 (by decide) (fun _ => ?_) (fun h9 => absurd (show lg_cmp (zrj S2 o 0) _ = 0 by rw [hcm.2.2]; exact lg_cmp_self _) h9)
    refine r_goto (tgt := 1174) F dL_law_683 (by decide) ?_
    exact r_lvk [2, 3, 4, 5, 6] rfl (kk S2 hj2)
set_option maxRecDepth 100000 in
set_option maxHeartbeats 4000000 in
theorem lc_count (F : CallFix p m c cL_law 8 s args (z :: lw_good) RL) (G : zG N0 t0 D cy s s.heap) {b L : Nat} {xs : Nat → Int32} (hX : va_X b L xs s s.heap) (hbl : b < s.heap.size) (hbN : b < N0) {i : Nat} (hi : i + 8 ≤ L) (hL : L < 2 ^ 31) {x g o : Nat} (hx : zA S x 11) {post : Int32 → zS → Prop} {xp : String → zS → Prop} {f lo mc ms : Nat} (hK : zTi l yX11_count (zws yX11_count cX11_count 2 (some .int)) { frames := f, cells := mc, slots := ms, locals := lo } N0 t0 D cy S [.ref x, .int (xs (i + 1))] post xp mc ms) (hxp : ∀ E S', xp E S' → E = zIAE ∨ E = zISE) (hout : ∀ r S', post r S' → zA S' o 15 ∧ zn S' o = 1) {post2 : Int32 → zS → Int32 → zS → Prop} {f2 lo2 mc2 ms2 : Nat} (hM : ∀ (k : Int32) (S1 : zS), zwr o (fun r S1 => ∃ v : Int32, r = v.toInt64 ∧ post v S1) xp k S1 → zA S1 g 12 ∧ zMi l yX12_count (zws yX12_count cX12_count 2 (some .int)) { frames := f2, cells := mc2, slots := ms2, locals := lo2 } N0 t0 D cy S1 [.ref g, .int (xs (i + 1))] (post2 k S1) mc2 ms2) {J : zS → Prop} (hJ : ∀ (k : Int32) (S1 : zS) (r : Int32) (S2 : zS), zwr o (fun r S1 => ∃ v : Int32, r = v.toInt64 ∧ post v S1) xp k S1 → post2 k S1 r S2 → zA S2 g 12 ∧ zi S2 1200 g = k ∧ (k = 0 → zA S2 o 15 ∧ zn S2 o = 1 ∧ zrj S2 o 0 = r.toInt64) ∧ J S2) (hR : f + 2 ≤ R.frames ∧ lo + 80 ≤ R.locals ∧ f2 + 1 ≤ R.frames ∧ lo2 + 50 ≤ R.locals ∧ 3 ≤ R.frames ∧ 80 ≤ R.locals) (hc : cells + mc + mc2 ≤ R.cells) (hs : slots + ms + ms2 ≤ R.slots) (kk : ∀ S2, J S2 → zW p l e R s m args below meth c Q N0 D cy 8 (cells + mc + mc2) (slots + ms + ms2) S2 [(4, .int (nI i)), (3, .ref o), (2, .ref g), (1, .ref x), (0, .ref b)] 1174 []) : zW p l e R s m args below meth c Q N0 D cy 8 cells slots S [(4, .int (nI i)), (3, .ref o), (2, .ref g), (1, .ref x), (0, .ref b)] 699 [] := by
  obtain ⟨hR1, hR2, hR3, hR4, hR5, hR6⟩ := hR
  refine r_aload_n F dL_law_699 rfl ?_
  refine r_aload_n F dL_law_700 rfl ?_
  refine r_iload F dL_law_701 rfl ?_
  refine r_iconst (v := 1) F dL_law_703 (by decide) ?_
  refine r_iadd F dL_law_704 ?_
  refine r_sld F hX hbl hbN (i + 1) (nI_add i 1) (by omega) hL dL_law_705 ?_
  refine r_aload_n F dL_law_706 rfl ?_
  refine c_SWi F G (w_count hK hx hxp hout) (vx_cwSW 3 F.2.2.2.2 (zgSh km_L_101 ks_L_count kn_L kh_L_count) rfl rfl rfl hdL_count ⟨by dsimp only; omega, by dsimp only; omega⟩) rfl rfl (Nat.le_of_ble_eq_true rfl) dL_law_707 ⟨by omega, by omega⟩ (fun k S1 h1 => ?_)
  obtain ⟨hg1, hM1⟩ := hM k S1 h1
  refine r_istore F dL_law_710 (by decide) ?_
  refine r_aload_n F dL_law_712 rfl ?_
  refine r_aload_n F dL_law_713 rfl ?_
  refine r_iload F dL_law_714 rfl ?_
  refine r_iconst (v := 1) F dL_law_716 (by decide) ?_
  refine r_iadd F dL_law_717 ?_
  refine r_sld F hX hbl hbN (i + 1) (nI_add i 1) (by omega) hL dL_law_718 ?_
  refine c_Vi (ci := 12) F G hM1 (cwV 1 F.2.2.2.2 (zgV km_L_104 ki_X12_count ke_X12_X12_count kn_X12 ko_X12_count) rfl rfl rfl ⟨rfl, hd_yX12_count⟩ ⟨by dsimp only; omega, by dsimp only; omega⟩) rfl (by decide) hg1 rfl rfl (Nat.le_of_ble_eq_true rfl) dL_law_719 ⟨by omega, by omega⟩ (fun r S2 h2 => ?_)
  obtain ⟨hg2, hk2, hcm, hj2⟩ := hJ k S1 r S2 h1 h2
  refine r_istore F dL_law_722 (by decide) ?_
  refine r_aload_n F dL_law_724 rfl ?_
  refine c_Vi (ci := 12) F G (k_thrown hg2) (cwV 0 F.2.2.2.2 (zgV km_L_70 ki_X12_thrown ke_X12_X12_thrown kn_X12 ko_X12_thrown) rfl rfl rfl ⟨rfl, hd_yX12_thrown⟩ ⟨by dsimp only; omega, by dsimp only; omega⟩) rfl (by decide) hg2 rfl rfl (Nat.le_of_ble_eq_true rfl) dL_law_725 ⟨by omega, by omega⟩ (fun r3 S3 h3 => ?_)
  obtain ⟨h3a, h3b⟩ := h3
  have h3s := h3b.symm
  subst h3s
  refine r_iload F dL_law_728 rfl ?_
  refine r_icmp_eq (tgt := 735) F dL_law_730 (by decide) (fun _ => ?_) (fun h9 => absurd (h3a.trans hk2) h9)
  refine r_iload F dL_law_735 rfl ?_
  refine r_if_ne (tgt := 752) F dL_law_737 (by decide) (fun c737 => ?_) (fun c737 => ?_)
  · refine r_goto (tgt := 1174) F dL_law_752 (by decide) ?_
    exact r_lvk [2, 3, 4, 5, 6] rfl (kk S2 hj2)
  · refine r_aload_n F dL_law_740 rfl ?_
    refine r_iconst (v := 0) F dL_law_741 (by decide) ?_
    have hcm := hcm c737
    refine r_lald F G hcm.1 (show vp_in (0 : Int32) (zn S2 o) by rw [hcm.2.1]; exact vp_in_nI (n := 0) (by decide) (by decide)) dL_law_742 ?_
    refine r_iload F dL_law_743 rfl ?_
    refine r_i2l F dL_law_745 ?_
    refine r_lcmp F dL_law_746 ?_
    refine r_if_eq (tgt := 752) F dL_law_747 (by decide) (fun _ => ?_) (fun h9 => absurd (show lg_cmp (zrj S2 o 0) _ = 0 by rw [hcm.2.2]; exact lg_cmp_self _) h9)
    refine r_goto (tgt := 1174) F dL_law_752 (by decide) ?_
    exact r_lvk [2, 3, 4, 5, 6] rfl (kk S2 hj2)
set_option maxRecDepth 100000 in
set_option maxHeartbeats 4000000 in
theorem lc_byteAt (F : CallFix p m c cL_law 8 s args (z :: lw_good) RL) (G : zG N0 t0 D cy s s.heap) {b L : Nat} {xs : Nat → Int32} (hX : va_X b L xs s s.heap) (hbl : b < s.heap.size) (hbN : b < N0) {i : Nat} (hi : i + 8 ≤ L) (hL : L < 2 ^ 31) {x g o : Nat} (hx : zA S x 11) {post : Int32 → zS → Prop} {xp : String → zS → Prop} {f lo mc ms : Nat} (hK : zTi l yX11_byteAt (zws yX11_byteAt cX11_byteAt 2 (some .int)) { frames := f, cells := mc, slots := ms, locals := lo } N0 t0 D cy S [.ref x, .int (xs (i + 1))] post xp mc ms) (hxp : ∀ E S', xp E S' → E = zIAE ∨ E = zISE) (hout : ∀ r S', post r S' → zA S' o 15 ∧ zn S' o = 1) {post2 : Int32 → zS → Int32 → zS → Prop} {f2 lo2 mc2 ms2 : Nat} (hM : ∀ (k : Int32) (S1 : zS), zwr o (fun r S1 => ∃ v : Int32, r = v.toInt64 ∧ post v S1) xp k S1 → zA S1 g 12 ∧ zMi l yX12_byteAt (zws yX12_byteAt cX12_byteAt 2 (some .int)) { frames := f2, cells := mc2, slots := ms2, locals := lo2 } N0 t0 D cy S1 [.ref g, .int (xs (i + 1))] (post2 k S1) mc2 ms2) {J : zS → Prop} (hJ : ∀ (k : Int32) (S1 : zS) (r : Int32) (S2 : zS), zwr o (fun r S1 => ∃ v : Int32, r = v.toInt64 ∧ post v S1) xp k S1 → post2 k S1 r S2 → zA S2 g 12 ∧ zi S2 1200 g = k ∧ (k = 0 → zA S2 o 15 ∧ zn S2 o = 1 ∧ zrj S2 o 0 = r.toInt64) ∧ J S2) (hR : f + 2 ≤ R.frames ∧ lo + 80 ≤ R.locals ∧ f2 + 1 ≤ R.frames ∧ lo2 + 50 ≤ R.locals ∧ 3 ≤ R.frames ∧ 80 ≤ R.locals) (hc : cells + mc + mc2 ≤ R.cells) (hs : slots + ms + ms2 ≤ R.slots) (kk : ∀ S2, J S2 → zW p l e R s m args below meth c Q N0 D cy 8 (cells + mc + mc2) (slots + ms + ms2) S2 [(4, .int (nI i)), (3, .ref o), (2, .ref g), (1, .ref x), (0, .ref b)] 1174 []) : zW p l e R s m args below meth c Q N0 D cy 8 cells slots S [(4, .int (nI i)), (3, .ref o), (2, .ref g), (1, .ref x), (0, .ref b)] 755 [] := by
  obtain ⟨hR1, hR2, hR3, hR4, hR5, hR6⟩ := hR
  refine r_aload_n F dL_law_755 rfl ?_
  refine r_aload_n F dL_law_756 rfl ?_
  refine r_iload F dL_law_757 rfl ?_
  refine r_iconst (v := 1) F dL_law_759 (by decide) ?_
  refine r_iadd F dL_law_760 ?_
  refine r_sld F hX hbl hbN (i + 1) (nI_add i 1) (by omega) hL dL_law_761 ?_
  refine r_aload_n F dL_law_762 rfl ?_
  refine c_SWi F G (w_byteAt hK hx hxp hout) (vx_cwSW 3 F.2.2.2.2 (zgSh km_L_105 ks_L_byteAt kn_L kh_L_byteAt) rfl rfl rfl hdL_byteAt ⟨by dsimp only; omega, by dsimp only; omega⟩) rfl rfl (Nat.le_of_ble_eq_true rfl) dL_law_763 ⟨by omega, by omega⟩ (fun k S1 h1 => ?_)
  obtain ⟨hg1, hM1⟩ := hM k S1 h1
  refine r_istore F dL_law_766 (by decide) ?_
  refine r_aload_n F dL_law_768 rfl ?_
  refine r_aload_n F dL_law_769 rfl ?_
  refine r_iload F dL_law_770 rfl ?_
  refine r_iconst (v := 1) F dL_law_772 (by decide) ?_
  refine r_iadd F dL_law_773 ?_
  refine r_sld F hX hbl hbN (i + 1) (nI_add i 1) (by omega) hL dL_law_774 ?_
  refine c_Vi (ci := 12) F G hM1 (cwV 1 F.2.2.2.2 (zgV km_L_107 ki_X12_byteAt ke_X12_X12_byteAt kn_X12 ko_X12_byteAt) rfl rfl rfl ⟨rfl, hd_yX12_byteAt⟩ ⟨by dsimp only; omega, by dsimp only; omega⟩) rfl (by decide) hg1 rfl rfl (Nat.le_of_ble_eq_true rfl) dL_law_775 ⟨by omega, by omega⟩ (fun r S2 h2 => ?_)
  obtain ⟨hg2, hk2, hcm, hj2⟩ := hJ k S1 r S2 h1 h2
  refine r_istore F dL_law_778 (by decide) ?_
  refine r_aload_n F dL_law_780 rfl ?_
  refine c_Vi (ci := 12) F G (k_thrown hg2) (cwV 0 F.2.2.2.2 (zgV km_L_70 ki_X12_thrown ke_X12_X12_thrown kn_X12 ko_X12_thrown) rfl rfl rfl ⟨rfl, hd_yX12_thrown⟩ ⟨by dsimp only; omega, by dsimp only; omega⟩) rfl (by decide) hg2 rfl rfl (Nat.le_of_ble_eq_true rfl) dL_law_781 ⟨by omega, by omega⟩ (fun r3 S3 h3 => ?_)
  obtain ⟨h3a, h3b⟩ := h3
  have h3s := h3b.symm
  subst h3s
  refine r_iload F dL_law_784 rfl ?_
  refine r_icmp_eq (tgt := 791) F dL_law_786 (by decide) (fun _ => ?_) (fun h9 => absurd (h3a.trans hk2) h9)
  refine r_iload F dL_law_791 rfl ?_
  refine r_if_ne (tgt := 808) F dL_law_793 (by decide) (fun c793 => ?_) (fun c793 => ?_)
  · refine r_goto (tgt := 1174) F dL_law_808 (by decide) ?_
    exact r_lvk [2, 3, 4, 5, 6] rfl (kk S2 hj2)
  · refine r_aload_n F dL_law_796 rfl ?_
    refine r_iconst (v := 0) F dL_law_797 (by decide) ?_
    have hcm := hcm c793
    refine r_lald F G hcm.1 (show vp_in (0 : Int32) (zn S2 o) by rw [hcm.2.1]; exact vp_in_nI (n := 0) (by decide) (by decide)) dL_law_798 ?_
    refine r_iload F dL_law_799 rfl ?_
    refine r_i2l F dL_law_801 ?_
    refine r_lcmp F dL_law_802 ?_
    refine r_if_eq (tgt := 808) F dL_law_803 (by decide) (fun _ => ?_) (fun h9 => absurd (show lg_cmp (zrj S2 o 0) _ = 0 by rw [hcm.2.2]; exact lg_cmp_self _) h9)
    refine r_goto (tgt := 1174) F dL_law_808 (by decide) ?_
    exact r_lvk [2, 3, 4, 5, 6] rfl (kk S2 hj2)
set_option maxRecDepth 100000 in
set_option maxHeartbeats 4000000 in
theorem lc_meant (F : CallFix p m c cL_law 8 s args (z :: lw_good) RL) (G : zG N0 t0 D cy s s.heap) {b L : Nat} {xs : Nat → Int32} (hX : va_X b L xs s s.heap) (hbl : b < s.heap.size) (hbN : b < N0) {i : Nat} (hi : i + 8 ≤ L) (hL : L < 2 ^ 31) {x g o : Nat} (hx : zA S x 11) {post : Int32 → zS → Prop} {xp : String → zS → Prop} {f lo mc ms : Nat} (hK : zTi l yX11_meant (zws yX11_meant cX11_meant 6 (some .int)) { frames := f, cells := mc, slots := ms, locals := lo } N0 t0 D cy S [.ref x, .int (xs (i + 1)), .int (xs (i + 2)), .int (xs (i + 3))] post xp mc ms) (hxp : ∀ E S', xp E S' → E = zIAE ∨ E = zISE) (hout : ∀ r S', post r S' → zA S' o 15 ∧ zn S' o = 1) {post2 : Int32 → zS → Int32 → zS → Prop} {f2 lo2 mc2 ms2 : Nat} (hM : ∀ (k : Int32) (S1 : zS), zwr o (fun r S1 => ∃ v : Int32, r = v.toInt64 ∧ post v S1) xp k S1 → zA S1 g 12 ∧ zMi l yX12_meant (zws yX12_meant cX12_meant 6 (some .int)) { frames := f2, cells := mc2, slots := ms2, locals := lo2 } N0 t0 D cy S1 [.ref g, .int (xs (i + 1)), .int (xs (i + 2)), .int (xs (i + 3))] (post2 k S1) mc2 ms2) {J : zS → Prop} (hJ : ∀ (k : Int32) (S1 : zS) (r : Int32) (S2 : zS), zwr o (fun r S1 => ∃ v : Int32, r = v.toInt64 ∧ post v S1) xp k S1 → post2 k S1 r S2 → zA S2 g 12 ∧ zi S2 1200 g = k ∧ (k = 0 → zA S2 o 15 ∧ zn S2 o = 1 ∧ zrj S2 o 0 = r.toInt64) ∧ J S2) (hR : f + 2 ≤ R.frames ∧ lo + 80 ≤ R.locals ∧ f2 + 1 ≤ R.frames ∧ lo2 + 50 ≤ R.locals ∧ 3 ≤ R.frames ∧ 80 ≤ R.locals) (hc : cells + mc + mc2 ≤ R.cells) (hs : slots + ms + ms2 ≤ R.slots) (kk : ∀ S2, J S2 → zW p l e R s m args below meth c Q N0 D cy 8 (cells + mc + mc2) (slots + ms + ms2) S2 [(4, .int (nI i)), (3, .ref o), (2, .ref g), (1, .ref x), (0, .ref b)] 1174 []) : zW p l e R s m args below meth c Q N0 D cy 8 cells slots S [(4, .int (nI i)), (3, .ref o), (2, .ref g), (1, .ref x), (0, .ref b)] 811 [] := by
  obtain ⟨hR1, hR2, hR3, hR4, hR5, hR6⟩ := hR
  refine r_aload_n F dL_law_811 rfl ?_
  refine r_aload_n F dL_law_812 rfl ?_
  refine r_iload F dL_law_813 rfl ?_
  refine r_iconst (v := 1) F dL_law_815 (by decide) ?_
  refine r_iadd F dL_law_816 ?_
  refine r_sld F hX hbl hbN (i + 1) (nI_add i 1) (by omega) hL dL_law_817 ?_
  refine r_aload_n F dL_law_818 rfl ?_
  refine r_iload F dL_law_819 rfl ?_
  refine r_iconst (v := 2) F dL_law_821 (by decide) ?_
  refine r_iadd F dL_law_822 ?_
  refine r_sld F hX hbl hbN (i + 2) (nI_add i 2) (by omega) hL dL_law_823 ?_
  refine r_aload_n F dL_law_824 rfl ?_
  refine r_iload F dL_law_825 rfl ?_
  refine r_iconst (v := 3) F dL_law_827 (by decide) ?_
  refine r_iadd F dL_law_828 ?_
  refine r_sld F hX hbl hbN (i + 3) (nI_add i 3) (by omega) hL dL_law_829 ?_
  refine r_aload_n F dL_law_830 rfl ?_
  refine c_SWi F G (w_meant hK hx hxp hout) (vx_cwSW 5 F.2.2.2.2 (zgSh km_L_108 ks_L_meant kn_L kh_L_meant) rfl rfl rfl hdL_meant ⟨by dsimp only; omega, by dsimp only; omega⟩) rfl rfl (Nat.le_of_ble_eq_true rfl) dL_law_831 ⟨by omega, by omega⟩ (fun k S1 h1 => ?_)
  obtain ⟨hg1, hM1⟩ := hM k S1 h1
  refine r_istore F dL_law_834 (by decide) ?_
  refine r_aload_n F dL_law_836 rfl ?_
  refine r_aload_n F dL_law_837 rfl ?_
  refine r_iload F dL_law_838 rfl ?_
  refine r_iconst (v := 1) F dL_law_840 (by decide) ?_
  refine r_iadd F dL_law_841 ?_
  refine r_sld F hX hbl hbN (i + 1) (nI_add i 1) (by omega) hL dL_law_842 ?_
  refine r_aload_n F dL_law_843 rfl ?_
  refine r_iload F dL_law_844 rfl ?_
  refine r_iconst (v := 2) F dL_law_846 (by decide) ?_
  refine r_iadd F dL_law_847 ?_
  refine r_sld F hX hbl hbN (i + 2) (nI_add i 2) (by omega) hL dL_law_848 ?_
  refine r_aload_n F dL_law_849 rfl ?_
  refine r_iload F dL_law_850 rfl ?_
  refine r_iconst (v := 3) F dL_law_852 (by decide) ?_
  refine r_iadd F dL_law_853 ?_
  refine r_sld F hX hbl hbN (i + 3) (nI_add i 3) (by omega) hL dL_law_854 ?_
  refine c_Vi (ci := 12) F G hM1 (cwV 3 F.2.2.2.2 (zgV km_L_110 ki_X12_meant ke_X12_X12_meant kn_X12 ko_X12_meant) rfl rfl rfl ⟨rfl, hd_yX12_meant⟩ ⟨by dsimp only; omega, by dsimp only; omega⟩) rfl (by decide) hg1 rfl rfl (Nat.le_of_ble_eq_true rfl) dL_law_855 ⟨by omega, by omega⟩ (fun r S2 h2 => ?_)
  obtain ⟨hg2, hk2, hcm, hj2⟩ := hJ k S1 r S2 h1 h2
  refine r_istore F dL_law_858 (by decide) ?_
  refine r_aload_n F dL_law_860 rfl ?_
  refine c_Vi (ci := 12) F G (k_thrown hg2) (cwV 0 F.2.2.2.2 (zgV km_L_70 ki_X12_thrown ke_X12_X12_thrown kn_X12 ko_X12_thrown) rfl rfl rfl ⟨rfl, hd_yX12_thrown⟩ ⟨by dsimp only; omega, by dsimp only; omega⟩) rfl (by decide) hg2 rfl rfl (Nat.le_of_ble_eq_true rfl) dL_law_861 ⟨by omega, by omega⟩ (fun r3 S3 h3 => ?_)
  obtain ⟨h3a, h3b⟩ := h3
  have h3s := h3b.symm
  subst h3s
  refine r_iload F dL_law_864 rfl ?_
  refine r_icmp_eq (tgt := 871) F dL_law_866 (by decide) (fun _ => ?_) (fun h9 => absurd (h3a.trans hk2) h9)
  refine r_iload F dL_law_871 rfl ?_
  refine r_if_ne (tgt := 888) F dL_law_873 (by decide) (fun c873 => ?_) (fun c873 => ?_)
  · refine r_goto (tgt := 1174) F dL_law_888 (by decide) ?_
    exact r_lvk [2, 3, 4, 5, 6] rfl (kk S2 hj2)
  · refine r_aload_n F dL_law_876 rfl ?_
    refine r_iconst (v := 0) F dL_law_877 (by decide) ?_
    have hcm := hcm c873
    refine r_lald F G hcm.1 (show vp_in (0 : Int32) (zn S2 o) by rw [hcm.2.1]; exact vp_in_nI (n := 0) (by decide) (by decide)) dL_law_878 ?_
    refine r_iload F dL_law_879 rfl ?_
    refine r_i2l F dL_law_881 ?_
    refine r_lcmp F dL_law_882 ?_
    refine r_if_eq (tgt := 888) F dL_law_883 (by decide) (fun _ => ?_) (fun h9 => absurd (show lg_cmp (zrj S2 o 0) _ = 0 by rw [hcm.2.2]; exact lg_cmp_self _) h9)
    refine r_goto (tgt := 1174) F dL_law_888 (by decide) ?_
    exact r_lvk [2, 3, 4, 5, 6] rfl (kk S2 hj2)
set_option maxRecDepth 100000 in
set_option maxHeartbeats 4000000 in
theorem lc_run (F : CallFix p m c cL_law 8 s args (z :: lw_good) RL) (G : zG N0 t0 D cy s s.heap) {b L : Nat} {xs : Nat → Int32} (hX : va_X b L xs s s.heap) (hbl : b < s.heap.size) (hbN : b < N0) {i : Nat} (hi : i + 8 ≤ L) (hL : L < 2 ^ 31) {x g o : Nat} (hx : zA S x 11) {post : Int32 → zS → Prop} {xp : String → zS → Prop} {f lo mc ms : Nat} (hK : zTi l yX11_run (zws yX11_run cX11_run 9 (some .int)) { frames := f, cells := mc, slots := ms, locals := lo } N0 t0 D cy S [.ref x, .int (xs (i + 1)), .int (xs (i + 2)), .long (zjn (xs (i + 3)) (xs (i + 4))), .long (zjn (xs (i + 5)) (xs (i + 6))), .int (xs (i + 7))] post xp mc ms) (hxp : ∀ E S', xp E S' → E = zIAE ∨ E = zISE) (hout : ∀ r S', post r S' → zA S' o 15 ∧ zn S' o = 1) {post2 : Int32 → zS → Int32 → zS → Prop} {f2 lo2 mc2 ms2 : Nat} (hM : ∀ (k : Int32) (S1 : zS), zwr o (fun r S1 => ∃ v : Int32, r = v.toInt64 ∧ post v S1) xp k S1 → zA S1 g 12 ∧ zMi l yX12_run (zws yX12_run cX12_run 11 (some .int)) { frames := f2, cells := mc2, slots := ms2, locals := lo2 } N0 t0 D cy S1 [.ref g, .int (xs (i + 1)), .int (xs (i + 2)), .long (zjn (xs (i + 3)) (xs (i + 4))), .long (zjn (xs (i + 5)) (xs (i + 6))), .int (xs (i + 7))] (post2 k S1) mc2 ms2) {J : zS → Prop} (hJ : ∀ (k : Int32) (S1 : zS) (r : Int32) (S2 : zS), zwr o (fun r S1 => ∃ v : Int32, r = v.toInt64 ∧ post v S1) xp k S1 → post2 k S1 r S2 → zA S2 g 12 ∧ zi S2 1200 g = k ∧ (k = 0 → zA S2 o 15 ∧ zn S2 o = 1 ∧ zrj S2 o 0 = r.toInt64) ∧ J S2) (hR : f + 2 ≤ R.frames ∧ lo + 80 ≤ R.locals ∧ f2 + 1 ≤ R.frames ∧ lo2 + 50 ≤ R.locals ∧ 3 ≤ R.frames ∧ 80 ≤ R.locals) (hc : cells + mc + mc2 ≤ R.cells) (hs : slots + ms + ms2 ≤ R.slots) (kk : ∀ S2, J S2 → zW p l e R s m args below meth c Q N0 D cy 8 (cells + mc + mc2) (slots + ms + ms2) S2 [(4, .int (nI i)), (3, .ref o), (2, .ref g), (1, .ref x), (0, .ref b)] 1174 []) : zW p l e R s m args below meth c Q N0 D cy 8 cells slots S [(4, .int (nI i)), (3, .ref o), (2, .ref g), (1, .ref x), (0, .ref b)] 891 [] := by
  obtain ⟨hR1, hR2, hR3, hR4, hR5, hR6⟩ := hR
  refine r_aload_n F dL_law_891 rfl ?_
  refine r_aload_n F dL_law_892 rfl ?_
  refine r_iload F dL_law_893 rfl ?_
  refine r_iconst (v := 1) F dL_law_895 (by decide) ?_
  refine r_iadd F dL_law_896 ?_
  refine r_sld F hX hbl hbN (i + 1) (nI_add i 1) (by omega) hL dL_law_897 ?_
  refine r_aload_n F dL_law_898 rfl ?_
  refine r_iload F dL_law_899 rfl ?_
  refine r_iconst (v := 2) F dL_law_901 (by decide) ?_
  refine r_iadd F dL_law_902 ?_
  refine r_sld F hX hbl hbN (i + 2) (nI_add i 2) (by omega) hL dL_law_903 ?_
  refine r_aload_n F dL_law_904 rfl ?_
  refine r_iload F dL_law_905 rfl ?_
  refine r_iconst (v := 3) F dL_law_907 (by decide) ?_
  refine r_iadd F dL_law_908 ?_
  refine r_sld F hX hbl hbN (i + 3) (nI_add i 3) (by omega) hL dL_law_909 ?_
  refine r_i2l F dL_law_910 ?_
  refine r_bipush (v := 32) F dL_law_911 (by decide) ?_
  refine r_lshl F dL_law_913 ?_
  refine r_aload_n F dL_law_914 rfl ?_
  refine r_iload F dL_law_915 rfl ?_
  refine r_iconst (v := 4) F dL_law_917 (by decide) ?_
  refine r_iadd F dL_law_918 ?_
  refine r_sld F hX hbl hbN (i + 4) (nI_add i 4) (by omega) hL dL_law_919 ?_
  refine r_i2l F dL_law_920 ?_
  refine r_ldcL F (zin kv_L_84) dL_law_921 ?_
  refine r_land F dL_law_924 ?_
  refine r_lor F dL_law_925 ?_
  refine r_aload_n F dL_law_926 rfl ?_
  refine r_iload F dL_law_927 rfl ?_
  refine r_iconst (v := 5) F dL_law_929 (by decide) ?_
  refine r_iadd F dL_law_930 ?_
  refine r_sld F hX hbl hbN (i + 5) (nI_add i 5) (by omega) hL dL_law_931 ?_
  refine r_i2l F dL_law_932 ?_
  refine r_bipush (v := 32) F dL_law_933 (by decide) ?_
  refine r_lshl F dL_law_935 ?_
  refine r_aload_n F dL_law_936 rfl ?_
  refine r_iload F dL_law_937 rfl ?_
  refine r_bipush (v := 6) F dL_law_939 (by decide) ?_
  refine r_iadd F dL_law_941 ?_
  refine r_sld F hX hbl hbN (i + 6) (nI_add i 6) (by omega) hL dL_law_942 ?_
  refine r_i2l F dL_law_943 ?_
  refine r_ldcL F (zin kv_L_84) dL_law_944 ?_
  refine r_land F dL_law_947 ?_
  refine r_lor F dL_law_948 ?_
  refine r_aload_n F dL_law_949 rfl ?_
  refine r_iload F dL_law_950 rfl ?_
  refine r_bipush (v := 7) F dL_law_952 (by decide) ?_
  refine r_iadd F dL_law_954 ?_
  refine r_sld F hX hbl hbN (i + 7) (nI_add i 7) (by omega) hL dL_law_955 ?_
  refine r_aload_n F dL_law_956 rfl ?_
  refine c_SWi F G (w_run hK hx hxp hout) (vx_cwSW 7 F.2.2.2.2 (zgSh km_L_111 ks_L_run kn_L kh_L_run) rfl rfl rfl hdL_run ⟨by dsimp only; omega, by dsimp only; omega⟩) rfl rfl (Nat.le_of_ble_eq_true rfl) dL_law_957 ⟨by omega, by omega⟩ (fun k S1 h1 => ?_)
  obtain ⟨hg1, hM1⟩ := hM k S1 h1
  refine r_istore F dL_law_960 (by decide) ?_
  refine r_aload_n F dL_law_962 rfl ?_
  refine r_aload_n F dL_law_963 rfl ?_
  refine r_iload F dL_law_964 rfl ?_
  refine r_iconst (v := 1) F dL_law_966 (by decide) ?_
  refine r_iadd F dL_law_967 ?_
  refine r_sld F hX hbl hbN (i + 1) (nI_add i 1) (by omega) hL dL_law_968 ?_
  refine r_aload_n F dL_law_969 rfl ?_
  refine r_iload F dL_law_970 rfl ?_
  refine r_iconst (v := 2) F dL_law_972 (by decide) ?_
  refine r_iadd F dL_law_973 ?_
  refine r_sld F hX hbl hbN (i + 2) (nI_add i 2) (by omega) hL dL_law_974 ?_
  refine r_aload_n F dL_law_975 rfl ?_
  refine r_iload F dL_law_976 rfl ?_
  refine r_iconst (v := 3) F dL_law_978 (by decide) ?_
  refine r_iadd F dL_law_979 ?_
  refine r_sld F hX hbl hbN (i + 3) (nI_add i 3) (by omega) hL dL_law_980 ?_
  refine r_i2l F dL_law_981 ?_
  refine r_bipush (v := 32) F dL_law_982 (by decide) ?_
  refine r_lshl F dL_law_984 ?_
  refine r_aload_n F dL_law_985 rfl ?_
  refine r_iload F dL_law_986 rfl ?_
  refine r_iconst (v := 4) F dL_law_988 (by decide) ?_
  refine r_iadd F dL_law_989 ?_
  refine r_sld F hX hbl hbN (i + 4) (nI_add i 4) (by omega) hL dL_law_990 ?_
  refine r_i2l F dL_law_991 ?_
  refine r_ldcL F (zin kv_L_84) dL_law_992 ?_
  refine r_land F dL_law_995 ?_
  refine r_lor F dL_law_996 ?_
  refine r_aload_n F dL_law_997 rfl ?_
  refine r_iload F dL_law_998 rfl ?_
  refine r_iconst (v := 5) F dL_law_1000 (by decide) ?_
  refine r_iadd F dL_law_1001 ?_
  refine r_sld F hX hbl hbN (i + 5) (nI_add i 5) (by omega) hL dL_law_1002 ?_
  refine r_i2l F dL_law_1003 ?_
  refine r_bipush (v := 32) F dL_law_1004 (by decide) ?_
  refine r_lshl F dL_law_1006 ?_
  refine r_aload_n F dL_law_1007 rfl ?_
  refine r_iload F dL_law_1008 rfl ?_
  refine r_bipush (v := 6) F dL_law_1010 (by decide) ?_
  refine r_iadd F dL_law_1012 ?_
  refine r_sld F hX hbl hbN (i + 6) (nI_add i 6) (by omega) hL dL_law_1013 ?_
  refine r_i2l F dL_law_1014 ?_
  refine r_ldcL F (zin kv_L_84) dL_law_1015 ?_
  refine r_land F dL_law_1018 ?_
  refine r_lor F dL_law_1019 ?_
  refine r_aload_n F dL_law_1020 rfl ?_
  refine r_iload F dL_law_1021 rfl ?_
  refine r_bipush (v := 7) F dL_law_1023 (by decide) ?_
  refine r_iadd F dL_law_1025 ?_
  refine r_sld F hX hbl hbN (i + 7) (nI_add i 7) (by omega) hL dL_law_1026 ?_
  refine c_Vi (ci := 12) F G hM1 (cwV 5 F.2.2.2.2 (zgV km_L_114 ki_X12_run ke_X12_X12_run kn_X12 ko_X12_run) rfl rfl rfl ⟨rfl, hd_yX12_run⟩ ⟨by dsimp only; omega, by dsimp only; omega⟩) rfl (by decide) hg1 rfl rfl (Nat.le_of_ble_eq_true rfl) dL_law_1027 ⟨by omega, by omega⟩ (fun r S2 h2 => ?_)
  obtain ⟨hg2, hk2, hcm, hj2⟩ := hJ k S1 r S2 h1 h2
  refine r_istore F dL_law_1030 (by decide) ?_
  refine r_aload_n F dL_law_1032 rfl ?_
  refine c_Vi (ci := 12) F G (k_thrown hg2) (cwV 0 F.2.2.2.2 (zgV km_L_70 ki_X12_thrown ke_X12_X12_thrown kn_X12 ko_X12_thrown) rfl rfl rfl ⟨rfl, hd_yX12_thrown⟩ ⟨by dsimp only; omega, by dsimp only; omega⟩) rfl (by decide) hg2 rfl rfl (Nat.le_of_ble_eq_true rfl) dL_law_1033 ⟨by omega, by omega⟩ (fun r3 S3 h3 => ?_)
  obtain ⟨h3a, h3b⟩ := h3
  have h3s := h3b.symm
  subst h3s
  refine r_iload F dL_law_1036 rfl ?_
  refine r_icmp_eq (tgt := 1043) F dL_law_1038 (by decide) (fun _ => ?_) (fun h9 => absurd (h3a.trans hk2) h9)
  refine r_iload F dL_law_1043 rfl ?_
  refine r_if_ne (tgt := 1060) F dL_law_1045 (by decide) (fun c1045 => ?_) (fun c1045 => ?_)
  · refine r_goto (tgt := 1174) F dL_law_1060 (by decide) ?_
    exact r_lvk [2, 3, 4, 5, 6] rfl (kk S2 hj2)
  · refine r_aload_n F dL_law_1048 rfl ?_
    refine r_iconst (v := 0) F dL_law_1049 (by decide) ?_
    have hcm := hcm c1045
    refine r_lald F G hcm.1 (show vp_in (0 : Int32) (zn S2 o) by rw [hcm.2.1]; exact vp_in_nI (n := 0) (by decide) (by decide)) dL_law_1050 ?_
    refine r_iload F dL_law_1051 rfl ?_
    refine r_i2l F dL_law_1053 ?_
    refine r_lcmp F dL_law_1054 ?_
    refine r_if_eq (tgt := 1060) F dL_law_1055 (by decide) (fun _ => ?_) (fun h9 => absurd (show lg_cmp (zrj S2 o 0) _ = 0 by rw [hcm.2.2]; exact lg_cmp_self _) h9)
    refine r_goto (tgt := 1174) F dL_law_1060 (by decide) ?_
    exact r_lvk [2, 3, 4, 5, 6] rfl (kk S2 hj2)
set_option maxRecDepth 100000 in
set_option maxHeartbeats 4000000 in
theorem lc_told (F : CallFix p m c cL_law 8 s args (z :: lw_good) RL) (G : zG N0 t0 D cy s s.heap) {b L : Nat} {xs : Nat → Int32} (hX : va_X b L xs s s.heap) (hbl : b < s.heap.size) (hbN : b < N0) {i : Nat} (hi : i + 8 ≤ L) (hL : L < 2 ^ 31) {x g o : Nat} (hx : zA S x 11) {post : Int64 → zS → Prop} {xp : String → zS → Prop} {f lo mc ms : Nat} (hK : zTl l yX11_told (zws yX11_told cX11_told 2 (some .long)) { frames := f, cells := mc, slots := ms, locals := lo } N0 t0 D cy S [.ref x, .int (xs (i + 1))] post xp mc ms) (hxp : ∀ E S', xp E S' → E = zIAE) (hout : ∀ r S', post r S' → zA S' o 15 ∧ zn S' o = 1) {post2 : Int32 → zS → Int64 → zS → Prop} {f2 lo2 mc2 ms2 : Nat} (hM : ∀ (k : Int32) (S1 : zS), zwr1 o post zIAE xp k S1 → zA S1 g 12 ∧ zMl l yX12_told (zws yX12_told cX12_told 2 (some .long)) { frames := f2, cells := mc2, slots := ms2, locals := lo2 } N0 t0 D cy S1 [.ref g, .int (xs (i + 1))] (post2 k S1) mc2 ms2) {J : zS → Prop} (hJ : ∀ (k : Int32) (S1 : zS) (r : Int64) (S2 : zS), zwr1 o post zIAE xp k S1 → post2 k S1 r S2 → zA S2 g 12 ∧ zi S2 1200 g = k ∧ (k = 0 → zA S2 o 15 ∧ zn S2 o = 1 ∧ zrj S2 o 0 = r) ∧ J S2) (hR : f + 2 ≤ R.frames ∧ lo + 80 ≤ R.locals ∧ f2 + 1 ≤ R.frames ∧ lo2 + 50 ≤ R.locals ∧ 3 ≤ R.frames ∧ 80 ≤ R.locals) (hc : cells + mc + mc2 ≤ R.cells) (hs : slots + ms + ms2 ≤ R.slots) (kk : ∀ S2, J S2 → zW p l e R s m args below meth c Q N0 D cy 8 (cells + mc + mc2) (slots + ms + ms2) S2 [(4, .int (nI i)), (3, .ref o), (2, .ref g), (1, .ref x), (0, .ref b)] 1174 []) : zW p l e R s m args below meth c Q N0 D cy 8 cells slots S [(4, .int (nI i)), (3, .ref o), (2, .ref g), (1, .ref x), (0, .ref b)] 1063 [] := by
  obtain ⟨hR1, hR2, hR3, hR4, hR5, hR6⟩ := hR
  refine r_aload_n F dL_law_1063 rfl ?_
  refine r_aload_n F dL_law_1064 rfl ?_
  refine r_iload F dL_law_1065 rfl ?_
  refine r_iconst (v := 1) F dL_law_1067 (by decide) ?_
  refine r_iadd F dL_law_1068 ?_
  refine r_sld F hX hbl hbN (i + 1) (nI_add i 1) (by omega) hL dL_law_1069 ?_
  refine r_aload_n F dL_law_1070 rfl ?_
  refine c_SWi F G (w_told hK hx hxp hout) (vx_cwSW 3 F.2.2.2.2 (zgSh km_L_115 ks_L_told kn_L kh_L_told) rfl rfl rfl hdL_told ⟨by dsimp only; omega, by dsimp only; omega⟩) rfl rfl (Nat.le_of_ble_eq_true rfl) dL_law_1071 ⟨by omega, by omega⟩ (fun k S1 h1 => ?_)
  obtain ⟨hg1, hM1⟩ := hM k S1 h1
  refine r_istore F dL_law_1074 (by decide) ?_
  refine r_aload_n F dL_law_1076 rfl ?_
  refine r_aload_n F dL_law_1077 rfl ?_
  refine r_iload F dL_law_1078 rfl ?_
  refine r_iconst (v := 1) F dL_law_1080 (by decide) ?_
  refine r_iadd F dL_law_1081 ?_
  refine r_sld F hX hbl hbN (i + 1) (nI_add i 1) (by omega) hL dL_law_1082 ?_
  refine c_Vl (ci := 12) F G hM1 (cwV 1 F.2.2.2.2 (zgV km_L_117 ki_X12_told ke_X12_X12_told kn_X12 ko_X12_told) rfl rfl rfl ⟨rfl, hd_yX12_told⟩ ⟨by dsimp only; omega, by dsimp only; omega⟩) rfl (by decide) hg1 rfl rfl (Nat.le_of_ble_eq_true rfl) dL_law_1083 ⟨by omega, by omega⟩ (fun r S2 h2 => ?_)
  obtain ⟨hg2, hk2, hcm, hj2⟩ := hJ k S1 r S2 h1 h2
  refine r_lstore F dL_law_1086 (by decide) ?_
  refine r_aload_n F dL_law_1088 rfl ?_
  refine c_Vi (ci := 12) F G (k_thrown hg2) (cwV 0 F.2.2.2.2 (zgV km_L_70 ki_X12_thrown ke_X12_X12_thrown kn_X12 ko_X12_thrown) rfl rfl rfl ⟨rfl, hd_yX12_thrown⟩ ⟨by dsimp only; omega, by dsimp only; omega⟩) rfl (by decide) hg2 rfl rfl (Nat.le_of_ble_eq_true rfl) dL_law_1089 ⟨by omega, by omega⟩ (fun r3 S3 h3 => ?_)
  obtain ⟨h3a, h3b⟩ := h3
  have h3s := h3b.symm
  subst h3s
  refine r_iload F dL_law_1092 rfl ?_
  refine r_icmp_eq (tgt := 1099) F dL_law_1094 (by decide) (fun _ => ?_) (fun h9 => absurd (h3a.trans hk2) h9)
  refine r_iload F dL_law_1099 rfl ?_
  refine r_if_ne (tgt := 1115) F dL_law_1101 (by decide) (fun c1101 => ?_) (fun c1101 => ?_)
  · refine r_goto (tgt := 1174) F dL_law_1115 (by decide) ?_
    exact r_lvk [2, 3, 4, 5, 6] rfl (kk S2 hj2)
  · refine r_aload_n F dL_law_1104 rfl ?_
    refine r_iconst (v := 0) F dL_law_1105 (by decide) ?_
    have hcm := hcm c1101
    refine r_lald F G hcm.1 (show vp_in (0 : Int32) (zn S2 o) by rw [hcm.2.1]; exact vp_in_nI (n := 0) (by decide) (by decide)) dL_law_1106 ?_
    refine r_lload F dL_law_1107 rfl ?_
    refine r_lcmp F dL_law_1109 ?_
    refine r_if_eq (tgt := 1115) F dL_law_1110 (by decide) (fun _ => ?_) (fun h9 => absurd (show lg_cmp (zrj S2 o 0) _ = 0 by rw [hcm.2.2]; exact lg_cmp_self _) h9)
    refine r_goto (tgt := 1174) F dL_law_1115 (by decide) ?_
    exact r_lvk [2, 3, 4, 5, 6] rfl (kk S2 hj2)
set_option maxRecDepth 100000 in
set_option maxHeartbeats 4000000 in
theorem lc_memory (F : CallFix p m c cL_law 8 s args (z :: lw_good) RL) (G : zG N0 t0 D cy s s.heap) {b L : Nat} {xs : Nat → Int32} (hX : va_X b L xs s s.heap) (hbl : b < s.heap.size) (hbN : b < N0) {i : Nat} (hi : i + 8 ≤ L) (hL : L < 2 ^ 31) {x g o : Nat} (hx : zA S x 11) {post : Int32 → zS → Prop} {xp : String → zS → Prop} {f lo mc ms : Nat} (hK : zTi l yX11_memory (zws yX11_memory cX11_memory 2 (some .int)) { frames := f, cells := mc, slots := ms, locals := lo } N0 t0 D cy S [.ref x, .int (xs (i + 1))] post xp mc ms) (hxp : ∀ E S', xp E S' → E = zIAE) (hout : ∀ r S', post r S' → zA S' o 15 ∧ zn S' o = 1) {post2 : Int32 → zS → Int32 → zS → Prop} {f2 lo2 mc2 ms2 : Nat} (hM : ∀ (k : Int32) (S1 : zS), zwr1 o (fun r S1 => ∃ v : Int32, r = v.toInt64 ∧ post v S1) zIAE xp k S1 → zA S1 g 12 ∧ zMi l yX12_memory (zws yX12_memory cX12_memory 2 (some .int)) { frames := f2, cells := mc2, slots := ms2, locals := lo2 } N0 t0 D cy S1 [.ref g, .int (xs (i + 1))] (post2 k S1) mc2 ms2) {J : zS → Prop} (hJ : ∀ (k : Int32) (S1 : zS) (r : Int32) (S2 : zS), zwr1 o (fun r S1 => ∃ v : Int32, r = v.toInt64 ∧ post v S1) zIAE xp k S1 → post2 k S1 r S2 → zA S2 g 12 ∧ zi S2 1200 g = k ∧ (k = 0 → zA S2 o 15 ∧ zn S2 o = 1 ∧ zrj S2 o 0 = r.toInt64) ∧ J S2) (hR : f + 2 ≤ R.frames ∧ lo + 80 ≤ R.locals ∧ f2 + 1 ≤ R.frames ∧ lo2 + 50 ≤ R.locals ∧ 3 ≤ R.frames ∧ 80 ≤ R.locals) (hc : cells + mc + mc2 ≤ R.cells) (hs : slots + ms + ms2 ≤ R.slots) (kk : ∀ S2, J S2 → zW p l e R s m args below meth c Q N0 D cy 8 (cells + mc + mc2) (slots + ms + ms2) S2 [(4, .int (nI i)), (3, .ref o), (2, .ref g), (1, .ref x), (0, .ref b)] 1174 []) : zW p l e R s m args below meth c Q N0 D cy 8 cells slots S [(4, .int (nI i)), (3, .ref o), (2, .ref g), (1, .ref x), (0, .ref b)] 1118 [] := by
  obtain ⟨hR1, hR2, hR3, hR4, hR5, hR6⟩ := hR
  refine r_aload_n F dL_law_1118 rfl ?_
  refine r_aload_n F dL_law_1119 rfl ?_
  refine r_iload F dL_law_1120 rfl ?_
  refine r_iconst (v := 1) F dL_law_1122 (by decide) ?_
  refine r_iadd F dL_law_1123 ?_
  refine r_sld F hX hbl hbN (i + 1) (nI_add i 1) (by omega) hL dL_law_1124 ?_
  refine r_aload_n F dL_law_1125 rfl ?_
  refine c_SWi F G (w_memory hK hx hxp hout) (vx_cwSW 3 F.2.2.2.2 (zgSh km_L_118 ks_L_memory kn_L kh_L_memory) rfl rfl rfl hdL_memory ⟨by dsimp only; omega, by dsimp only; omega⟩) rfl rfl (Nat.le_of_ble_eq_true rfl) dL_law_1126 ⟨by omega, by omega⟩ (fun k S1 h1 => ?_)
  obtain ⟨hg1, hM1⟩ := hM k S1 h1
  refine r_istore F dL_law_1129 (by decide) ?_
  refine r_aload_n F dL_law_1131 rfl ?_
  refine r_aload_n F dL_law_1132 rfl ?_
  refine r_iload F dL_law_1133 rfl ?_
  refine r_iconst (v := 1) F dL_law_1135 (by decide) ?_
  refine r_iadd F dL_law_1136 ?_
  refine r_sld F hX hbl hbN (i + 1) (nI_add i 1) (by omega) hL dL_law_1137 ?_
  refine c_Vi (ci := 12) F G hM1 (cwV 1 F.2.2.2.2 (zgV km_L_120 ki_X12_memory ke_X12_X12_memory kn_X12 ko_X12_memory) rfl rfl rfl ⟨rfl, hd_yX12_memory⟩ ⟨by dsimp only; omega, by dsimp only; omega⟩) rfl (by decide) hg1 rfl rfl (Nat.le_of_ble_eq_true rfl) dL_law_1138 ⟨by omega, by omega⟩ (fun r S2 h2 => ?_)
  obtain ⟨hg2, hk2, hcm, hj2⟩ := hJ k S1 r S2 h1 h2
  refine r_istore F dL_law_1141 (by decide) ?_
  refine r_aload_n F dL_law_1143 rfl ?_
  refine c_Vi (ci := 12) F G (k_thrown hg2) (cwV 0 F.2.2.2.2 (zgV km_L_70 ki_X12_thrown ke_X12_X12_thrown kn_X12 ko_X12_thrown) rfl rfl rfl ⟨rfl, hd_yX12_thrown⟩ ⟨by dsimp only; omega, by dsimp only; omega⟩) rfl (by decide) hg2 rfl rfl (Nat.le_of_ble_eq_true rfl) dL_law_1144 ⟨by omega, by omega⟩ (fun r3 S3 h3 => ?_)
  obtain ⟨h3a, h3b⟩ := h3
  have h3s := h3b.symm
  subst h3s
  refine r_iload F dL_law_1147 rfl ?_
  refine r_icmp_eq (tgt := 1154) F dL_law_1149 (by decide) (fun _ => ?_) (fun h9 => absurd (h3a.trans hk2) h9)
  refine r_iload F dL_law_1154 rfl ?_
  refine r_if_ne (tgt := 1171) F dL_law_1156 (by decide) (fun c1156 => ?_) (fun c1156 => ?_)
  · refine r_goto (tgt := 1174) F dL_law_1171 (by decide) ?_
    exact r_lvk [2, 3, 4, 5, 6] rfl (kk S2 hj2)
  · refine r_aload_n F dL_law_1159 rfl ?_
    refine r_iconst (v := 0) F dL_law_1160 (by decide) ?_
    have hcm := hcm c1156
    refine r_lald F G hcm.1 (show vp_in (0 : Int32) (zn S2 o) by rw [hcm.2.1]; exact vp_in_nI (n := 0) (by decide) (by decide)) dL_law_1161 ?_
    refine r_iload F dL_law_1162 rfl ?_
    refine r_i2l F dL_law_1164 ?_
    refine r_lcmp F dL_law_1165 ?_
    refine r_if_eq (tgt := 1171) F dL_law_1166 (by decide) (fun _ => ?_) (fun h9 => absurd (show lg_cmp (zrj S2 o 0) _ = 0 by rw [hcm.2.2]; exact lg_cmp_self _) h9)
    refine r_goto (tgt := 1174) F dL_law_1171 (by decide) ?_
    exact r_lvk [2, 3, 4, 5, 6] rfl (kk S2 hj2)
set_option maxRecDepth 100000 in
set_option maxHeartbeats 4000000 in
theorem lc_place (F : CallFix p m c cL_law 8 s args (z :: lw_good) RL) (G : zG N0 t0 D cy s s.heap) {b L : Nat} {xs : Nat → Int32} (hX : va_X b L xs s s.heap) (hbl : b < s.heap.size) (hbN : b < N0) {i : Nat} (hi : i + 8 ≤ L) (hL : L < 2 ^ 31) {x g o : Nat} (hx : zA S x 11) {post : Int32 → zS → Prop} {f lo mc ms : Nat} (hK : zMi l yX11_place (zws yX11_place cX11_place 1 (some .int)) { frames := f, cells := mc, slots := ms, locals := lo } N0 t0 D cy S [.ref x] post mc ms) {post2 : Int32 → zS → Int32 → zS → Prop} {f2 lo2 mc2 ms2 : Nat} (hM : ∀ (k : Int32) (S1 : zS), post k S1 → zA S1 g 12 ∧ zMi l yX12_place (zws yX12_place cX12_place 1 (some .int)) { frames := f2, cells := mc2, slots := ms2, locals := lo2 } N0 t0 D cy S1 [.ref g] (post2 k S1) mc2 ms2) {J : zS → Prop} (hJ : ∀ (k : Int32) (S1 : zS) (r : Int32) (S2 : zS), post k S1 → post2 k S1 r S2 → k = r ∧ J S2) (hR : f + 1 ≤ R.frames ∧ lo + 50 ≤ R.locals ∧ f2 + 1 ≤ R.frames ∧ lo2 + 50 ≤ R.locals) (hc : cells + mc + mc2 ≤ R.cells) (hs : slots + ms + ms2 ≤ R.slots) (kk : ∀ S2, J S2 → zW p l e R s m args below meth c Q N0 D cy 8 (cells + mc + mc2) (slots + ms + ms2) S2 [(4, .int (nI i)), (3, .ref o), (2, .ref g), (1, .ref x), (0, .ref b)] 1174 []) : zW p l e R s m args below meth c Q N0 D cy 8 cells slots S [(4, .int (nI i)), (3, .ref o), (2, .ref g), (1, .ref x), (0, .ref b)] 686 [] := by
  obtain ⟨hR1, hR2, hR3, hR4⟩ := hR
  refine r_aload_n F dL_law_686 rfl ?_
  refine c_Vi (ci := 11) F G hK (cwV 0 F.2.2.2.2 (zgV km_L_97 ki_X11_place ke_X11_X11_place kn_X11 ko_X11_place) rfl rfl rfl ⟨rfl, hd_yX11_place⟩ ⟨by dsimp only; omega, by dsimp only; omega⟩) rfl (by decide) hx rfl rfl (Nat.le_of_ble_eq_true rfl) dL_law_687 ⟨by omega, by omega⟩ (fun k S1 h1 => ?_)
  obtain ⟨hg1, hM1⟩ := hM k S1 h1
  refine r_aload_n F dL_law_690 rfl ?_
  refine c_Vi (ci := 12) F G hM1 (cwV 0 F.2.2.2.2 (zgV km_L_100 ki_X12_place ke_X12_X12_place kn_X12 ko_X12_place) rfl rfl rfl ⟨rfl, hd_yX12_place⟩ ⟨by dsimp only; omega, by dsimp only; omega⟩) rfl (by decide) hg1 rfl rfl (Nat.le_of_ble_eq_true rfl) dL_law_691 ⟨by omega, by omega⟩ (fun r S2 h2 => ?_)
  obtain ⟨hk2, hj2⟩ := hJ k S1 r S2 h1 h2
  refine r_icmp_eq (tgt := 1174) F dL_law_694 (by decide) (fun _ => ?_) (fun h9 => absurd hk2 h9)
  exact kk S2 hj2
end ZLC
