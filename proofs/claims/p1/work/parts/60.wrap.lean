section ZSW
variable {p : Program} {l : Launch} {e : Env} {R : Room} {s : State} {m : MethodId} {args : Array Value} {below : List Frame} {meth : Method} {c : Code} {Q : State → Prop} {N0 t0 : Nat} {D : va_G} {cy : Nat → ClassId} {cc : ByteArray} {nL cells slots : Nat} {Ts : List Cond} {own : String} {S : zS} {lv : List (Nat × Value)} {pc mc ms : Nat} {rest : List Value}
theorem c_SWi (F : CallFix p m c cc nL s args Ts own) (G : zG N0 t0 D cy s s.heap) {y : MethodName} {ws : List Cond} {rm : Room} {bytes : ByteArray} {maxL n idx : Nat} {ret : Option FieldType} {hh : List (Nat × Nat × Nat × Nat)} {As : List Value} {st : List Value} {post : Int32 → zS → Prop} (hM : zMi l y ws rm N0 t0 D cy S As post mc ms) (cw : vx_CSW R s args own idx y bytes maxL ret hh ws rm mc ms n) (hn : As.length = n) (hst : st = As.reverse ++ rest) (hW : (rest.map fun v => v.category).sum ≤ 8) (hdg : decode cc pc = .ok (.invokestatic idx, 3)) (hf : cells + mc ≤ R.cells ∧ slots + ms ≤ R.slots) (kk : ∀ r S', post r S' → zW p l e R s m args below meth c Q N0 D cy nL (cells + mc) (slots + ms) S' lv (pc + 3) (.int r :: rest)) : zW p l e R s m args below meth c Q N0 D cy nL cells slots S lv (pc) (st) := by
  intro H locs ls hP hD hS hl
  exact va_calli (vx_runSW (As := As) (rest := rest) F hM cw ⟨zC.blind, fun U hU hW => ⟨rfl, ⟨by rw [hU]; exact hP, hD⟩, by rw [hU]; exact zG.to G hW hS⟩⟩ rfl hn hl.1 hst (lv_room hW) hdg hf) hS (fun q _ h => h) (fun q h => h) (fun r S' t H1 locs1 ht hvm hw hB hz hk hS1 => kk r S' hw H1 locs1 ls (by rw [← ht]; exact hB.1) hB.2 hS1 hl)
end ZSW
/-- what a wrapper of the law tells: 0 and the answer in out, or which exception it caught -/
def zwr (o : Nat) (post : Int64 → zS → Prop) (xp : String → zS → Prop) (k : Int32) (S' : zS) : Prop := (k = 0 ∧ ∃ r S1, post r S1 ∧ S' = zRj S1 o (vp_updL (zrj S1 o) (0 : Int32).toNatClampNeg r)) ∨ (k = 1 ∧ xp zIAE S') ∨ (k = 2 ∧ xp zISE S')
def zwr1 (o : Nat) (post : Int64 → zS → Prop) (E : String) (xp : String → zS → Prop) (k : Int32) (S' : zS) : Prop := (k = 0 ∧ ∃ r S1, post r S1 ∧ S' = zRj S1 o (vp_updL (zrj S1 o) (0 : Int32).toNatClampNeg r)) ∨ (k = 1 ∧ xp E S')
set_option maxRecDepth 100000 in
set_option maxHeartbeats 4000000 in
theorem w_object {l : Launch} {N0 t0 : Nat} {D : va_G} {cy : Nat → ClassId} {S : zS} {x : Nat} {post : Int32 → zS → Prop} {xp : String → zS → Prop} {f lo mc ms : Nat} (hK : zTi l yX11_object (zws yX11_object cX11_object 1 (some .int)) { frames := f, cells := mc, slots := ms, locals := lo } N0 t0 D cy S [.ref x] post xp mc ms) (hx : zA S x 11) (hxp : ∀ E S', xp E S' → E = zISE) {o : Nat} (hout : ∀ r S', post r S' → zA S' o 15 ∧ zn S' o = 1) : zMi l yL_object (zwh yL_object cL_object 3 (some .int) [(0, 8, 11, 13)]) { frames := f + 1, cells := mc, slots := ms, locals := lo + 40 } N0 t0 D cy S [.ref x, .ref o] (zwr1 o (fun r S1 => ∃ v : Int32, r = v.toInt64 ∧ post v S1) zISE xp) mc ms := by
  refine zMi.ofH (cc := cL_object) (maxL := 3) (ret := (some .int)) (hh := [(0, 8, 11, 13)]) (by decide) (Nat.le_of_ble_eq_true rfl) ?_
  intro p e s m args below meth c F G hr hlk htb
  refine r_aload_n F dL_object_0 rfl ?_
  refine r_iconst (v := 0) F dL_object_1 (by decide) ?_
  refine r_aload_n F dL_object_2 rfl ?_
  refine h_Vi (ci := 11) F G hK (cwV 0 F.2.2.2.2 (zgV km_L_7 ki_X11_object ke_X11_X11_object kn_X11 ko_X11_object) rfl rfl rfl ⟨rfl, hd_yX11_object⟩ ⟨Nat.le_refl _, by dsimp only; omega⟩) rfl (by decide) hx rfl rfl (Nat.le_of_ble_eq_true rfl) dL_object_3 ⟨by dsimp only; omega, by dsimp only; omega⟩ (fun E S9 hx9 => ?_) (fun r1 S1 h1 => ?_)
  · have e9 := hxp E S9 hx9
    subst e9
    refine ⟨[], (⟨0, 8, 11, 13⟩ : ExceptionTableEntry), [], zISE, htb, (fun z hz => absurd hz (List.not_mem_nil)), by decide, by decide, zin kc_L_13, List.mem_of_getElem? (i := 1) rfl, fun q9 => ?_⟩
    refine r_astore_n F dL_object_11 (by decide) ?_
    refine r_iconst (v := 1) F dL_object_12 (by decide) ?_
    exact e_iret F hr hlk (Or.inr ⟨rfl, hx9⟩) (by omega) (by omega) dL_object_13
  · have ho := hout r1 S1 h1
    have hin : vp_in (0 : Int32) (zn S1 o) := by
      rw [ho.2]
      exact vp_in_nI (n := 0) (by decide) (by decide)
    refine r_i2l F dL_object_6 ?_
    refine r_last F G ho.1 hin dL_object_7 ?_
    refine r_goto (tgt := 14) F dL_object_8 (by decide) ?_
    refine r_iconst (v := 0) F dL_object_14 (by decide) ?_
    exact e_iret F hr hlk (Or.inl ⟨rfl, _, S1, ⟨r1, rfl, h1⟩, rfl⟩) (by omega) (by omega) dL_object_15
set_option maxRecDepth 100000 in
set_option maxHeartbeats 4000000 in
theorem w_function {l : Launch} {N0 t0 : Nat} {D : va_G} {cy : Nat → ClassId} {S : zS} {x : Nat} {p0 : Int32} {p1 : Int32} {p2 : Int32} {p3 : Int32} {post : Int32 → zS → Prop} {xp : String → zS → Prop} {f lo mc ms : Nat} (hK : zTi l yX11_function (zws yX11_function cX11_function 7 (some .int)) { frames := f, cells := mc, slots := ms, locals := lo } N0 t0 D cy S [.ref x, .int p0, .int p1, .int p2, .int p3] post xp mc ms) (hx : zA S x 11) (hxp : ∀ E S', xp E S' → E = zIAE ∨ E = zISE) {o : Nat} (hout : ∀ r S', post r S' → zA S' o 15 ∧ zn S' o = 1) : zMi l yL_function (zwh yL_function cL_function 7 (some .int) [(0, 14, 17, 19), (0, 14, 21, 13)]) { frames := f + 1, cells := mc, slots := ms, locals := lo + 40 } N0 t0 D cy S [.ref x, .int p0, .int p1, .int p2, .int p3, .ref o] (zwr o (fun r S1 => ∃ v : Int32, r = v.toInt64 ∧ post v S1) xp) mc ms := by
  refine zMi.ofH (cc := cL_function) (maxL := 7) (ret := (some .int)) (hh := [(0, 14, 17, 19), (0, 14, 21, 13)]) (by decide) (Nat.le_of_ble_eq_true rfl) ?_
  intro p e s m args below meth c F G hr hlk htb
  refine r_aload F dL_function_0 rfl ?_
  refine r_iconst (v := 0) F dL_function_2 (by decide) ?_
  refine r_aload_n F dL_function_3 rfl ?_
  refine r_iload_n F dL_function_4 rfl ?_
  refine r_iload_n F dL_function_5 rfl ?_
  refine r_iload_n F dL_function_6 rfl ?_
  refine r_iload F dL_function_7 rfl ?_
  refine h_Vi (ci := 11) F G hK (cwV 4 F.2.2.2.2 (zgV km_L_15 ki_X11_function ke_X11_X11_function kn_X11 ko_X11_function) rfl rfl rfl ⟨rfl, hd_yX11_function⟩ ⟨Nat.le_refl _, by dsimp only; omega⟩) rfl (by decide) hx rfl rfl (Nat.le_of_ble_eq_true rfl) dL_function_9 ⟨by dsimp only; omega, by dsimp only; omega⟩ (fun E S9 hx9 => ?_) (fun r1 S1 h1 => ?_)
  · rcases hxp E S9 hx9 with e9 | e9
    · subst e9
      refine ⟨[], (⟨0, 14, 17, 19⟩ : ExceptionTableEntry), [(⟨0, 14, 21, 13⟩ : ExceptionTableEntry)], zIAE, htb, (fun z hz => absurd hz (List.not_mem_nil)), by decide, by decide, zin kc_L_19, List.mem_of_getElem? (i := 0) rfl, fun q9 => ?_⟩
      refine r_astore F dL_function_17 (by decide) ?_
      refine r_iconst (v := 1) F dL_function_19 (by decide) ?_
      exact e_iret F hr hlk (Or.inr (Or.inl ⟨rfl, hx9⟩)) (by omega) (by omega) dL_function_20
    · subst e9
      refine ⟨[(⟨0, 14, 17, 19⟩ : ExceptionTableEntry)], (⟨0, 14, 21, 13⟩ : ExceptionTableEntry), [], zISE, htb, (fun z hz => by rw [List.mem_singleton.mp hz]; exact ⟨by decide, by decide, zIAE, zin kc_L_19, List.mem_of_getElem? (i := 1) rfl⟩), by decide, by decide, zin kc_L_13, List.mem_of_getElem? (i := 1) rfl, fun q9 => ?_⟩
      refine r_astore F dL_function_21 (by decide) ?_
      refine r_iconst (v := 2) F dL_function_23 (by decide) ?_
      exact e_iret F hr hlk (Or.inr (Or.inr ⟨rfl, hx9⟩)) (by omega) (by omega) dL_function_24
  · have ho := hout r1 S1 h1
    have hin : vp_in (0 : Int32) (zn S1 o) := by
      rw [ho.2]
      exact vp_in_nI (n := 0) (by decide) (by decide)
    refine r_i2l F dL_function_12 ?_
    refine r_last F G ho.1 hin dL_function_13 ?_
    refine r_goto (tgt := 25) F dL_function_14 (by decide) ?_
    refine r_iconst (v := 0) F dL_function_25 (by decide) ?_
    exact e_iret F hr hlk (Or.inl ⟨rfl, _, S1, ⟨r1, rfl, h1⟩, rfl⟩) (by omega) (by omega) dL_function_26
set_option maxRecDepth 100000 in
set_option maxHeartbeats 4000000 in
theorem w_code {l : Launch} {N0 t0 : Nat} {D : va_G} {cy : Nat → ClassId} {S : zS} {x : Nat} {p0 : Int32} {p1 : Int32} {p2 : Int32} {p3 : Int32} {post : Int32 → zS → Prop} {xp : String → zS → Prop} {f lo mc ms : Nat} (hK : zTi l yX11_code (zws yX11_code cX11_code 6 (some .int)) { frames := f, cells := mc, slots := ms, locals := lo } N0 t0 D cy S [.ref x, .int p0, .int p1, .int p2, .int p3] post xp mc ms) (hx : zA S x 11) (hxp : ∀ E S', xp E S' → E = zIAE ∨ E = zISE) {o : Nat} (hout : ∀ r S', post r S' → zA S' o 15 ∧ zn S' o = 1) : zMi l yL_code (zwh yL_code cL_code 7 (some .int) [(0, 14, 17, 19), (0, 14, 21, 13)]) { frames := f + 1, cells := mc, slots := ms, locals := lo + 40 } N0 t0 D cy S [.ref x, .int p0, .int p1, .int p2, .int p3, .ref o] (zwr o (fun r S1 => ∃ v : Int32, r = v.toInt64 ∧ post v S1) xp) mc ms := by
  refine zMi.ofH (cc := cL_code) (maxL := 7) (ret := (some .int)) (hh := [(0, 14, 17, 19), (0, 14, 21, 13)]) (by decide) (Nat.le_of_ble_eq_true rfl) ?_
  intro p e s m args below meth c F G hr hlk htb
  refine r_aload F dL_code_0 rfl ?_
  refine r_iconst (v := 0) F dL_code_2 (by decide) ?_
  refine r_aload_n F dL_code_3 rfl ?_
  refine r_iload_n F dL_code_4 rfl ?_
  refine r_iload_n F dL_code_5 rfl ?_
  refine r_iload_n F dL_code_6 rfl ?_
  refine r_iload F dL_code_7 rfl ?_
  refine h_Vi (ci := 11) F G hK (cwV 4 F.2.2.2.2 (zgV km_L_21 ki_X11_code ke_X11_X11_code kn_X11 ko_X11_code) rfl rfl rfl ⟨rfl, hd_yX11_code⟩ ⟨Nat.le_refl _, by dsimp only; omega⟩) rfl (by decide) hx rfl rfl (Nat.le_of_ble_eq_true rfl) dL_code_9 ⟨by dsimp only; omega, by dsimp only; omega⟩ (fun E S9 hx9 => ?_) (fun r1 S1 h1 => ?_)
  · rcases hxp E S9 hx9 with e9 | e9
    · subst e9
      refine ⟨[], (⟨0, 14, 17, 19⟩ : ExceptionTableEntry), [(⟨0, 14, 21, 13⟩ : ExceptionTableEntry)], zIAE, htb, (fun z hz => absurd hz (List.not_mem_nil)), by decide, by decide, zin kc_L_19, List.mem_of_getElem? (i := 0) rfl, fun q9 => ?_⟩
      refine r_astore F dL_code_17 (by decide) ?_
      refine r_iconst (v := 1) F dL_code_19 (by decide) ?_
      exact e_iret F hr hlk (Or.inr (Or.inl ⟨rfl, hx9⟩)) (by omega) (by omega) dL_code_20
    · subst e9
      refine ⟨[(⟨0, 14, 17, 19⟩ : ExceptionTableEntry)], (⟨0, 14, 21, 13⟩ : ExceptionTableEntry), [], zISE, htb, (fun z hz => by rw [List.mem_singleton.mp hz]; exact ⟨by decide, by decide, zIAE, zin kc_L_19, List.mem_of_getElem? (i := 1) rfl⟩), by decide, by decide, zin kc_L_13, List.mem_of_getElem? (i := 1) rfl, fun q9 => ?_⟩
      refine r_astore F dL_code_21 (by decide) ?_
      refine r_iconst (v := 2) F dL_code_23 (by decide) ?_
      exact e_iret F hr hlk (Or.inr (Or.inr ⟨rfl, hx9⟩)) (by omega) (by omega) dL_code_24
  · have ho := hout r1 S1 h1
    have hin : vp_in (0 : Int32) (zn S1 o) := by
      rw [ho.2]
      exact vp_in_nI (n := 0) (by decide) (by decide)
    refine r_i2l F dL_code_12 ?_
    refine r_last F G ho.1 hin dL_code_13 ?_
    refine r_goto (tgt := 25) F dL_code_14 (by decide) ?_
    refine r_iconst (v := 0) F dL_code_25 (by decide) ?_
    exact e_iret F hr hlk (Or.inl ⟨rfl, _, S1, ⟨r1, rfl, h1⟩, rfl⟩) (by omega) (by omega) dL_code_26
set_option maxRecDepth 100000 in
set_option maxHeartbeats 4000000 in
theorem w_segment {l : Launch} {N0 t0 : Nat} {D : va_G} {cy : Nat → ClassId} {S : zS} {x : Nat} {p0 : Int32} {p1 : Int32} {p2 : Int32} {post : Int32 → zS → Prop} {xp : String → zS → Prop} {f lo mc ms : Nat} (hK : zTi l yX11_segment (zws yX11_segment cX11_segment 6 (some .int)) { frames := f, cells := mc, slots := ms, locals := lo } N0 t0 D cy S [.ref x, .int p0, .int p1, .int p2] post xp mc ms) (hx : zA S x 11) (hxp : ∀ E S', xp E S' → E = zIAE ∨ E = zISE) {o : Nat} (hout : ∀ r S', post r S' → zA S' o 15 ∧ zn S' o = 1) : zMi l yL_segment (zwh yL_segment cL_segment 6 (some .int) [(0, 12, 15, 19), (0, 12, 19, 13)]) { frames := f + 1, cells := mc, slots := ms, locals := lo + 40 } N0 t0 D cy S [.ref x, .int p0, .int p1, .int p2, .ref o] (zwr o (fun r S1 => ∃ v : Int32, r = v.toInt64 ∧ post v S1) xp) mc ms := by
  refine zMi.ofH (cc := cL_segment) (maxL := 6) (ret := (some .int)) (hh := [(0, 12, 15, 19), (0, 12, 19, 13)]) (by decide) (Nat.le_of_ble_eq_true rfl) ?_
  intro p e s m args below meth c F G hr hlk htb
  refine r_aload F dL_segment_0 rfl ?_
  refine r_iconst (v := 0) F dL_segment_2 (by decide) ?_
  refine r_aload_n F dL_segment_3 rfl ?_
  refine r_iload_n F dL_segment_4 rfl ?_
  refine r_iload_n F dL_segment_5 rfl ?_
  refine r_iload_n F dL_segment_6 rfl ?_
  refine h_Vi (ci := 11) F G hK (cwV 3 F.2.2.2.2 (zgV km_L_24 ki_X11_segment ke_X11_X11_segment kn_X11 ko_X11_segment) rfl rfl rfl ⟨rfl, hd_yX11_segment⟩ ⟨Nat.le_refl _, by dsimp only; omega⟩) rfl (by decide) hx rfl rfl (Nat.le_of_ble_eq_true rfl) dL_segment_7 ⟨by dsimp only; omega, by dsimp only; omega⟩ (fun E S9 hx9 => ?_) (fun r1 S1 h1 => ?_)
  · rcases hxp E S9 hx9 with e9 | e9
    · subst e9
      refine ⟨[], (⟨0, 12, 15, 19⟩ : ExceptionTableEntry), [(⟨0, 12, 19, 13⟩ : ExceptionTableEntry)], zIAE, htb, (fun z hz => absurd hz (List.not_mem_nil)), by decide, by decide, zin kc_L_19, List.mem_of_getElem? (i := 0) rfl, fun q9 => ?_⟩
      refine r_astore F dL_segment_15 (by decide) ?_
      refine r_iconst (v := 1) F dL_segment_17 (by decide) ?_
      exact e_iret F hr hlk (Or.inr (Or.inl ⟨rfl, hx9⟩)) (by omega) (by omega) dL_segment_18
    · subst e9
      refine ⟨[(⟨0, 12, 15, 19⟩ : ExceptionTableEntry)], (⟨0, 12, 19, 13⟩ : ExceptionTableEntry), [], zISE, htb, (fun z hz => by rw [List.mem_singleton.mp hz]; exact ⟨by decide, by decide, zIAE, zin kc_L_19, List.mem_of_getElem? (i := 1) rfl⟩), by decide, by decide, zin kc_L_13, List.mem_of_getElem? (i := 1) rfl, fun q9 => ?_⟩
      refine r_astore F dL_segment_19 (by decide) ?_
      refine r_iconst (v := 2) F dL_segment_21 (by decide) ?_
      exact e_iret F hr hlk (Or.inr (Or.inr ⟨rfl, hx9⟩)) (by omega) (by omega) dL_segment_22
  · have ho := hout r1 S1 h1
    have hin : vp_in (0 : Int32) (zn S1 o) := by
      rw [ho.2]
      exact vp_in_nI (n := 0) (by decide) (by decide)
    refine r_i2l F dL_segment_10 ?_
    refine r_last F G ho.1 hin dL_segment_11 ?_
    refine r_goto (tgt := 23) F dL_segment_12 (by decide) ?_
    refine r_iconst (v := 0) F dL_segment_23 (by decide) ?_
    exact e_iret F hr hlk (Or.inl ⟨rfl, _, S1, ⟨r1, rfl, h1⟩, rfl⟩) (by omega) (by omega) dL_segment_24
set_option maxRecDepth 100000 in
set_option maxHeartbeats 4000000 in
theorem w_fill {l : Launch} {N0 t0 : Nat} {D : va_G} {cy : Nat → ClassId} {S : zS} {x : Nat} {p0 : Int32} {p1 : Int32} {p2 : Int32} {p3 : Int64} {post : zS → Prop} {xp : String → zS → Prop} {f lo mc ms : Nat} (hK : zTv l yX11_fill (zws yX11_fill cX11_fill 7 none) { frames := f, cells := mc, slots := ms, locals := lo } N0 t0 D cy S [.ref x, .int p0, .int p1, .int p2, .long p3] post xp mc ms) (hx : zA S x 11) (hxp : ∀ E S', xp E S' → E = zIAE) : zMi l yL_fill (zwh yL_fill cL_fill 7 (some .int) [(0, 9, 12, 19)]) { frames := f + 1, cells := mc, slots := ms, locals := lo + 40 } N0 t0 D cy S [.ref x, .int p0, .int p1, .int p2, .long p3] (fun k S' => (k = 0 ∧ post S') ∨ (k = 1 ∧ xp zIAE S')) mc ms := by
  refine zMi.ofH (cc := cL_fill) (maxL := 7) (ret := (some .int)) (hh := [(0, 9, 12, 19)]) (by decide) (Nat.le_of_ble_eq_true rfl) ?_
  intro p e s m args below meth c F G hr hlk htb
  refine r_aload_n F dL_fill_0 rfl ?_
  refine r_iload_n F dL_fill_1 rfl ?_
  refine r_iload_n F dL_fill_2 rfl ?_
  refine r_iload_n F dL_fill_3 rfl ?_
  refine r_lload F dL_fill_4 rfl ?_
  refine h_Vv (ci := 11) F G hK (cwV 4 F.2.2.2.2 (zgV km_L_28 ki_X11_fill ke_X11_X11_fill kn_X11 ko_X11_fill) rfl rfl rfl ⟨rfl, hd_yX11_fill⟩ ⟨Nat.le_refl _, by dsimp only; omega⟩) rfl (by decide) hx rfl rfl (Nat.le_of_ble_eq_true rfl) dL_fill_6 ⟨by dsimp only; omega, by dsimp only; omega⟩ (fun E S9 hx9 => ?_) (fun S1 h1 => ?_)
  · have e9 := hxp E S9 hx9
    subst e9
    refine ⟨[], (⟨0, 9, 12, 19⟩ : ExceptionTableEntry), [], zIAE, htb, (fun z hz => absurd hz (List.not_mem_nil)), by decide, by decide, zin kc_L_19, List.mem_of_getElem? (i := 0) rfl, fun q9 => ?_⟩
    refine r_astore F dL_fill_12 (by decide) ?_
    refine r_iconst (v := 1) F dL_fill_14 (by decide) ?_
    exact e_iret F hr hlk (Or.inr ⟨rfl, hx9⟩) (by omega) (by omega) dL_fill_15
  · refine r_goto (tgt := 16) F dL_fill_9 (by decide) ?_
    refine r_iconst (v := 0) F dL_fill_16 (by decide) ?_
    exact e_iret F hr hlk (Or.inl ⟨rfl, h1⟩) (by omega) (by omega) dL_fill_17
set_option maxRecDepth 100000 in
set_option maxHeartbeats 4000000 in
theorem w_symbol {l : Launch} {N0 t0 : Nat} {D : va_G} {cy : Nat → ClassId} {S : zS} {x : Nat} {p0 : Int32} {p1 : Int32} {p2 : Int32} {p3 : Int32} {p4 : Int32} {p5 : Int32} {post : Int32 → zS → Prop} {xp : String → zS → Prop} {f lo mc ms : Nat} (hK : zTi l yX11_symbol (zws yX11_symbol cX11_symbol 11 (some .int)) { frames := f, cells := mc, slots := ms, locals := lo } N0 t0 D cy S [.ref x, .int p0, .int p1, .int p2, .int p3, .int p4, .int p5] post xp mc ms) (hx : zA S x 11) (hxp : ∀ E S', xp E S' → E = zIAE ∨ E = zISE) {o : Nat} (hout : ∀ r S', post r S' → zA S' o 15 ∧ zn S' o = 1) : zMi l yL_symbol (zwh yL_symbol cL_symbol 9 (some .int) [(0, 18, 21, 19), (0, 18, 25, 13)]) { frames := f + 1, cells := mc, slots := ms, locals := lo + 40 } N0 t0 D cy S [.ref x, .int p0, .int p1, .int p2, .int p3, .int p4, .int p5, .ref o] (zwr o (fun r S1 => ∃ v : Int32, r = v.toInt64 ∧ post v S1) xp) mc ms := by
  refine zMi.ofH (cc := cL_symbol) (maxL := 9) (ret := (some .int)) (hh := [(0, 18, 21, 19), (0, 18, 25, 13)]) (by decide) (Nat.le_of_ble_eq_true rfl) ?_
  intro p e s m args below meth c F G hr hlk htb
  refine r_aload F dL_symbol_0 rfl ?_
  refine r_iconst (v := 0) F dL_symbol_2 (by decide) ?_
  refine r_aload_n F dL_symbol_3 rfl ?_
  refine r_iload_n F dL_symbol_4 rfl ?_
  refine r_iload_n F dL_symbol_5 rfl ?_
  refine r_iload_n F dL_symbol_6 rfl ?_
  refine r_iload F dL_symbol_7 rfl ?_
  refine r_iload F dL_symbol_9 rfl ?_
  refine r_iload F dL_symbol_11 rfl ?_
  refine h_Vi (ci := 11) F G hK (cwV 6 F.2.2.2.2 (zgV km_L_32 ki_X11_symbol ke_X11_X11_symbol kn_X11 ko_X11_symbol) rfl rfl rfl ⟨rfl, hd_yX11_symbol⟩ ⟨Nat.le_refl _, by dsimp only; omega⟩) rfl (by decide) hx rfl rfl (Nat.le_of_ble_eq_true rfl) dL_symbol_13 ⟨by dsimp only; omega, by dsimp only; omega⟩ (fun E S9 hx9 => ?_) (fun r1 S1 h1 => ?_)
  · rcases hxp E S9 hx9 with e9 | e9
    · subst e9
      refine ⟨[], (⟨0, 18, 21, 19⟩ : ExceptionTableEntry), [(⟨0, 18, 25, 13⟩ : ExceptionTableEntry)], zIAE, htb, (fun z hz => absurd hz (List.not_mem_nil)), by decide, by decide, zin kc_L_19, List.mem_of_getElem? (i := 0) rfl, fun q9 => ?_⟩
      refine r_astore F dL_symbol_21 (by decide) ?_
      refine r_iconst (v := 1) F dL_symbol_23 (by decide) ?_
      exact e_iret F hr hlk (Or.inr (Or.inl ⟨rfl, hx9⟩)) (by omega) (by omega) dL_symbol_24
    · subst e9
      refine ⟨[(⟨0, 18, 21, 19⟩ : ExceptionTableEntry)], (⟨0, 18, 25, 13⟩ : ExceptionTableEntry), [], zISE, htb, (fun z hz => by rw [List.mem_singleton.mp hz]; exact ⟨by decide, by decide, zIAE, zin kc_L_19, List.mem_of_getElem? (i := 1) rfl⟩), by decide, by decide, zin kc_L_13, List.mem_of_getElem? (i := 1) rfl, fun q9 => ?_⟩
      refine r_astore F dL_symbol_25 (by decide) ?_
      refine r_iconst (v := 2) F dL_symbol_27 (by decide) ?_
      exact e_iret F hr hlk (Or.inr (Or.inr ⟨rfl, hx9⟩)) (by omega) (by omega) dL_symbol_28
  · have ho := hout r1 S1 h1
    have hin : vp_in (0 : Int32) (zn S1 o) := by
      rw [ho.2]
      exact vp_in_nI (n := 0) (by decide) (by decide)
    refine r_i2l F dL_symbol_16 ?_
    refine r_last F G ho.1 hin dL_symbol_17 ?_
    refine r_goto (tgt := 29) F dL_symbol_18 (by decide) ?_
    refine r_iconst (v := 0) F dL_symbol_29 (by decide) ?_
    exact e_iret F hr hlk (Or.inl ⟨rfl, _, S1, ⟨r1, rfl, h1⟩, rfl⟩) (by omega) (by omega) dL_symbol_30
set_option maxRecDepth 100000 in
set_option maxHeartbeats 4000000 in
theorem w_link {l : Launch} {N0 t0 : Nat} {D : va_G} {cy : Nat → ClassId} {S : zS} {x : Nat} {post : Int32 → zS → Prop} {xp : String → zS → Prop} {f lo mc ms : Nat} (hK : zTi l yX11_link (zws yX11_link cX11_link 3 (some .int)) { frames := f, cells := mc, slots := ms, locals := lo } N0 t0 D cy S [.ref x] post xp mc ms) (hx : zA S x 11) (hxp : ∀ E S', xp E S' → E = zISE) {o : Nat} (hout : ∀ r S', post r S' → zA S' o 15 ∧ zn S' o = 1) : zMi l yL_link (zwh yL_link cL_link 3 (some .int) [(0, 8, 11, 13)]) { frames := f + 1, cells := mc, slots := ms, locals := lo + 40 } N0 t0 D cy S [.ref x, .ref o] (zwr1 o (fun r S1 => ∃ v : Int32, r = v.toInt64 ∧ post v S1) zISE xp) mc ms := by
  refine zMi.ofH (cc := cL_link) (maxL := 3) (ret := (some .int)) (hh := [(0, 8, 11, 13)]) (by decide) (Nat.le_of_ble_eq_true rfl) ?_
  intro p e s m args below meth c F G hr hlk htb
  refine r_aload_n F dL_link_0 rfl ?_
  refine r_iconst (v := 0) F dL_link_1 (by decide) ?_
  refine r_aload_n F dL_link_2 rfl ?_
  refine h_Vi (ci := 11) F G hK (cwV 0 F.2.2.2.2 (zgV km_L_36 ki_X11_link ke_X11_X11_link kn_X11 ko_X11_link) rfl rfl rfl ⟨rfl, hd_yX11_link⟩ ⟨Nat.le_refl _, by dsimp only; omega⟩) rfl (by decide) hx rfl rfl (Nat.le_of_ble_eq_true rfl) dL_link_3 ⟨by dsimp only; omega, by dsimp only; omega⟩ (fun E S9 hx9 => ?_) (fun r1 S1 h1 => ?_)
  · have e9 := hxp E S9 hx9
    subst e9
    refine ⟨[], (⟨0, 8, 11, 13⟩ : ExceptionTableEntry), [], zISE, htb, (fun z hz => absurd hz (List.not_mem_nil)), by decide, by decide, zin kc_L_13, List.mem_of_getElem? (i := 1) rfl, fun q9 => ?_⟩
    refine r_astore_n F dL_link_11 (by decide) ?_
    refine r_iconst (v := 1) F dL_link_12 (by decide) ?_
    exact e_iret F hr hlk (Or.inr ⟨rfl, hx9⟩) (by omega) (by omega) dL_link_13
  · have ho := hout r1 S1 h1
    have hin : vp_in (0 : Int32) (zn S1 o) := by
      rw [ho.2]
      exact vp_in_nI (n := 0) (by decide) (by decide)
    refine r_i2l F dL_link_6 ?_
    refine r_last F G ho.1 hin dL_link_7 ?_
    refine r_goto (tgt := 14) F dL_link_8 (by decide) ?_
    refine r_iconst (v := 0) F dL_link_14 (by decide) ?_
    exact e_iret F hr hlk (Or.inl ⟨rfl, _, S1, ⟨r1, rfl, h1⟩, rfl⟩) (by omega) (by omega) dL_link_15
set_option maxRecDepth 100000 in
set_option maxHeartbeats 4000000 in
theorem w_count {l : Launch} {N0 t0 : Nat} {D : va_G} {cy : Nat → ClassId} {S : zS} {x : Nat} {p0 : Int32} {post : Int32 → zS → Prop} {xp : String → zS → Prop} {f lo mc ms : Nat} (hK : zTi l yX11_count (zws yX11_count cX11_count 2 (some .int)) { frames := f, cells := mc, slots := ms, locals := lo } N0 t0 D cy S [.ref x, .int p0] post xp mc ms) (hx : zA S x 11) (hxp : ∀ E S', xp E S' → E = zIAE ∨ E = zISE) {o : Nat} (hout : ∀ r S', post r S' → zA S' o 15 ∧ zn S' o = 1) : zMi l yL_count (zwh yL_count cL_count 4 (some .int) [(0, 9, 12, 19), (0, 9, 15, 13)]) { frames := f + 1, cells := mc, slots := ms, locals := lo + 40 } N0 t0 D cy S [.ref x, .int p0, .ref o] (zwr o (fun r S1 => ∃ v : Int32, r = v.toInt64 ∧ post v S1) xp) mc ms := by
  refine zMi.ofH (cc := cL_count) (maxL := 4) (ret := (some .int)) (hh := [(0, 9, 12, 19), (0, 9, 15, 13)]) (by decide) (Nat.le_of_ble_eq_true rfl) ?_
  intro p e s m args below meth c F G hr hlk htb
  refine r_aload_n F dL_count_0 rfl ?_
  refine r_iconst (v := 0) F dL_count_1 (by decide) ?_
  refine r_aload_n F dL_count_2 rfl ?_
  refine r_iload_n F dL_count_3 rfl ?_
  refine h_Vi (ci := 11) F G hK (cwV 1 F.2.2.2.2 (zgV km_L_39 ki_X11_count ke_X11_X11_count kn_X11 ko_X11_count) rfl rfl rfl ⟨rfl, hd_yX11_count⟩ ⟨Nat.le_refl _, by dsimp only; omega⟩) rfl (by decide) hx rfl rfl (Nat.le_of_ble_eq_true rfl) dL_count_4 ⟨by dsimp only; omega, by dsimp only; omega⟩ (fun E S9 hx9 => ?_) (fun r1 S1 h1 => ?_)
  · rcases hxp E S9 hx9 with e9 | e9
    · subst e9
      refine ⟨[], (⟨0, 9, 12, 19⟩ : ExceptionTableEntry), [(⟨0, 9, 15, 13⟩ : ExceptionTableEntry)], zIAE, htb, (fun z hz => absurd hz (List.not_mem_nil)), by decide, by decide, zin kc_L_19, List.mem_of_getElem? (i := 0) rfl, fun q9 => ?_⟩
      refine r_astore_n F dL_count_12 (by decide) ?_
      refine r_iconst (v := 1) F dL_count_13 (by decide) ?_
      exact e_iret F hr hlk (Or.inr (Or.inl ⟨rfl, hx9⟩)) (by omega) (by omega) dL_count_14
    · subst e9
      refine ⟨[(⟨0, 9, 12, 19⟩ : ExceptionTableEntry)], (⟨0, 9, 15, 13⟩ : ExceptionTableEntry), [], zISE, htb, (fun z hz => by rw [List.mem_singleton.mp hz]; exact ⟨by decide, by decide, zIAE, zin kc_L_19, List.mem_of_getElem? (i := 1) rfl⟩), by decide, by decide, zin kc_L_13, List.mem_of_getElem? (i := 1) rfl, fun q9 => ?_⟩
      refine r_astore_n F dL_count_15 (by decide) ?_
      refine r_iconst (v := 2) F dL_count_16 (by decide) ?_
      exact e_iret F hr hlk (Or.inr (Or.inr ⟨rfl, hx9⟩)) (by omega) (by omega) dL_count_17
  · have ho := hout r1 S1 h1
    have hin : vp_in (0 : Int32) (zn S1 o) := by
      rw [ho.2]
      exact vp_in_nI (n := 0) (by decide) (by decide)
    refine r_i2l F dL_count_7 ?_
    refine r_last F G ho.1 hin dL_count_8 ?_
    refine r_goto (tgt := 18) F dL_count_9 (by decide) ?_
    refine r_iconst (v := 0) F dL_count_18 (by decide) ?_
    exact e_iret F hr hlk (Or.inl ⟨rfl, _, S1, ⟨r1, rfl, h1⟩, rfl⟩) (by omega) (by omega) dL_count_19
set_option maxRecDepth 100000 in
set_option maxHeartbeats 4000000 in
theorem w_byteAt {l : Launch} {N0 t0 : Nat} {D : va_G} {cy : Nat → ClassId} {S : zS} {x : Nat} {p0 : Int32} {post : Int32 → zS → Prop} {xp : String → zS → Prop} {f lo mc ms : Nat} (hK : zTi l yX11_byteAt (zws yX11_byteAt cX11_byteAt 2 (some .int)) { frames := f, cells := mc, slots := ms, locals := lo } N0 t0 D cy S [.ref x, .int p0] post xp mc ms) (hx : zA S x 11) (hxp : ∀ E S', xp E S' → E = zIAE ∨ E = zISE) {o : Nat} (hout : ∀ r S', post r S' → zA S' o 15 ∧ zn S' o = 1) : zMi l yL_byteAt (zwh yL_byteAt cL_byteAt 4 (some .int) [(0, 9, 12, 19), (0, 9, 15, 13)]) { frames := f + 1, cells := mc, slots := ms, locals := lo + 40 } N0 t0 D cy S [.ref x, .int p0, .ref o] (zwr o (fun r S1 => ∃ v : Int32, r = v.toInt64 ∧ post v S1) xp) mc ms := by
  refine zMi.ofH (cc := cL_byteAt) (maxL := 4) (ret := (some .int)) (hh := [(0, 9, 12, 19), (0, 9, 15, 13)]) (by decide) (Nat.le_of_ble_eq_true rfl) ?_
  intro p e s m args below meth c F G hr hlk htb
  refine r_aload_n F dL_byteAt_0 rfl ?_
  refine r_iconst (v := 0) F dL_byteAt_1 (by decide) ?_
  refine r_aload_n F dL_byteAt_2 rfl ?_
  refine r_iload_n F dL_byteAt_3 rfl ?_
  refine h_Vi (ci := 11) F G hK (cwV 1 F.2.2.2.2 (zgV km_L_43 ki_X11_byteAt ke_X11_X11_byteAt kn_X11 ko_X11_byteAt) rfl rfl rfl ⟨rfl, hd_yX11_byteAt⟩ ⟨Nat.le_refl _, by dsimp only; omega⟩) rfl (by decide) hx rfl rfl (Nat.le_of_ble_eq_true rfl) dL_byteAt_4 ⟨by dsimp only; omega, by dsimp only; omega⟩ (fun E S9 hx9 => ?_) (fun r1 S1 h1 => ?_)
  · rcases hxp E S9 hx9 with e9 | e9
    · subst e9
      refine ⟨[], (⟨0, 9, 12, 19⟩ : ExceptionTableEntry), [(⟨0, 9, 15, 13⟩ : ExceptionTableEntry)], zIAE, htb, (fun z hz => absurd hz (List.not_mem_nil)), by decide, by decide, zin kc_L_19, List.mem_of_getElem? (i := 0) rfl, fun q9 => ?_⟩
      refine r_astore_n F dL_byteAt_12 (by decide) ?_
      refine r_iconst (v := 1) F dL_byteAt_13 (by decide) ?_
      exact e_iret F hr hlk (Or.inr (Or.inl ⟨rfl, hx9⟩)) (by omega) (by omega) dL_byteAt_14
    · subst e9
      refine ⟨[(⟨0, 9, 12, 19⟩ : ExceptionTableEntry)], (⟨0, 9, 15, 13⟩ : ExceptionTableEntry), [], zISE, htb, (fun z hz => by rw [List.mem_singleton.mp hz]; exact ⟨by decide, by decide, zIAE, zin kc_L_19, List.mem_of_getElem? (i := 1) rfl⟩), by decide, by decide, zin kc_L_13, List.mem_of_getElem? (i := 1) rfl, fun q9 => ?_⟩
      refine r_astore_n F dL_byteAt_15 (by decide) ?_
      refine r_iconst (v := 2) F dL_byteAt_16 (by decide) ?_
      exact e_iret F hr hlk (Or.inr (Or.inr ⟨rfl, hx9⟩)) (by omega) (by omega) dL_byteAt_17
  · have ho := hout r1 S1 h1
    have hin : vp_in (0 : Int32) (zn S1 o) := by
      rw [ho.2]
      exact vp_in_nI (n := 0) (by decide) (by decide)
    refine r_i2l F dL_byteAt_7 ?_
    refine r_last F G ho.1 hin dL_byteAt_8 ?_
    refine r_goto (tgt := 18) F dL_byteAt_9 (by decide) ?_
    refine r_iconst (v := 0) F dL_byteAt_18 (by decide) ?_
    exact e_iret F hr hlk (Or.inl ⟨rfl, _, S1, ⟨r1, rfl, h1⟩, rfl⟩) (by omega) (by omega) dL_byteAt_19
set_option maxRecDepth 100000 in
set_option maxHeartbeats 4000000 in
theorem w_meant {l : Launch} {N0 t0 : Nat} {D : va_G} {cy : Nat → ClassId} {S : zS} {x : Nat} {p0 : Int32} {p1 : Int32} {p2 : Int32} {post : Int32 → zS → Prop} {xp : String → zS → Prop} {f lo mc ms : Nat} (hK : zTi l yX11_meant (zws yX11_meant cX11_meant 6 (some .int)) { frames := f, cells := mc, slots := ms, locals := lo } N0 t0 D cy S [.ref x, .int p0, .int p1, .int p2] post xp mc ms) (hx : zA S x 11) (hxp : ∀ E S', xp E S' → E = zIAE ∨ E = zISE) {o : Nat} (hout : ∀ r S', post r S' → zA S' o 15 ∧ zn S' o = 1) : zMi l yL_meant (zwh yL_meant cL_meant 6 (some .int) [(0, 12, 15, 19), (0, 12, 19, 13)]) { frames := f + 1, cells := mc, slots := ms, locals := lo + 40 } N0 t0 D cy S [.ref x, .int p0, .int p1, .int p2, .ref o] (zwr o (fun r S1 => ∃ v : Int32, r = v.toInt64 ∧ post v S1) xp) mc ms := by
  refine zMi.ofH (cc := cL_meant) (maxL := 6) (ret := (some .int)) (hh := [(0, 12, 15, 19), (0, 12, 19, 13)]) (by decide) (Nat.le_of_ble_eq_true rfl) ?_
  intro p e s m args below meth c F G hr hlk htb
  refine r_aload F dL_meant_0 rfl ?_
  refine r_iconst (v := 0) F dL_meant_2 (by decide) ?_
  refine r_aload_n F dL_meant_3 rfl ?_
  refine r_iload_n F dL_meant_4 rfl ?_
  refine r_iload_n F dL_meant_5 rfl ?_
  refine r_iload_n F dL_meant_6 rfl ?_
  refine h_Vi (ci := 11) F G hK (cwV 3 F.2.2.2.2 (zgV km_L_46 ki_X11_meant ke_X11_X11_meant kn_X11 ko_X11_meant) rfl rfl rfl ⟨rfl, hd_yX11_meant⟩ ⟨Nat.le_refl _, by dsimp only; omega⟩) rfl (by decide) hx rfl rfl (Nat.le_of_ble_eq_true rfl) dL_meant_7 ⟨by dsimp only; omega, by dsimp only; omega⟩ (fun E S9 hx9 => ?_) (fun r1 S1 h1 => ?_)
  · rcases hxp E S9 hx9 with e9 | e9
    · subst e9
      refine ⟨[], (⟨0, 12, 15, 19⟩ : ExceptionTableEntry), [(⟨0, 12, 19, 13⟩ : ExceptionTableEntry)], zIAE, htb, (fun z hz => absurd hz (List.not_mem_nil)), by decide, by decide, zin kc_L_19, List.mem_of_getElem? (i := 0) rfl, fun q9 => ?_⟩
      refine r_astore F dL_meant_15 (by decide) ?_
      refine r_iconst (v := 1) F dL_meant_17 (by decide) ?_
      exact e_iret F hr hlk (Or.inr (Or.inl ⟨rfl, hx9⟩)) (by omega) (by omega) dL_meant_18
    · subst e9
      refine ⟨[(⟨0, 12, 15, 19⟩ : ExceptionTableEntry)], (⟨0, 12, 19, 13⟩ : ExceptionTableEntry), [], zISE, htb, (fun z hz => by rw [List.mem_singleton.mp hz]; exact ⟨by decide, by decide, zIAE, zin kc_L_19, List.mem_of_getElem? (i := 1) rfl⟩), by decide, by decide, zin kc_L_13, List.mem_of_getElem? (i := 1) rfl, fun q9 => ?_⟩
      refine r_astore F dL_meant_19 (by decide) ?_
      refine r_iconst (v := 2) F dL_meant_21 (by decide) ?_
      exact e_iret F hr hlk (Or.inr (Or.inr ⟨rfl, hx9⟩)) (by omega) (by omega) dL_meant_22
  · have ho := hout r1 S1 h1
    have hin : vp_in (0 : Int32) (zn S1 o) := by
      rw [ho.2]
      exact vp_in_nI (n := 0) (by decide) (by decide)
    refine r_i2l F dL_meant_10 ?_
    refine r_last F G ho.1 hin dL_meant_11 ?_
    refine r_goto (tgt := 23) F dL_meant_12 (by decide) ?_
    refine r_iconst (v := 0) F dL_meant_23 (by decide) ?_
    exact e_iret F hr hlk (Or.inl ⟨rfl, _, S1, ⟨r1, rfl, h1⟩, rfl⟩) (by omega) (by omega) dL_meant_24
set_option maxRecDepth 100000 in
set_option maxHeartbeats 4000000 in
theorem w_run {l : Launch} {N0 t0 : Nat} {D : va_G} {cy : Nat → ClassId} {S : zS} {x : Nat} {p0 : Int32} {p1 : Int32} {p2 : Int64} {p3 : Int64} {p4 : Int32} {post : Int32 → zS → Prop} {xp : String → zS → Prop} {f lo mc ms : Nat} (hK : zTi l yX11_run (zws yX11_run cX11_run 9 (some .int)) { frames := f, cells := mc, slots := ms, locals := lo } N0 t0 D cy S [.ref x, .int p0, .int p1, .long p2, .long p3, .int p4] post xp mc ms) (hx : zA S x 11) (hxp : ∀ E S', xp E S' → E = zIAE ∨ E = zISE) {o : Nat} (hout : ∀ r S', post r S' → zA S' o 15 ∧ zn S' o = 1) : zMi l yL_run (zwh yL_run cL_run 10 (some .int) [(0, 16, 19, 19), (0, 16, 23, 13)]) { frames := f + 1, cells := mc, slots := ms, locals := lo + 40 } N0 t0 D cy S [.ref x, .int p0, .int p1, .long p2, .long p3, .int p4, .ref o] (zwr o (fun r S1 => ∃ v : Int32, r = v.toInt64 ∧ post v S1) xp) mc ms := by
  refine zMi.ofH (cc := cL_run) (maxL := 10) (ret := (some .int)) (hh := [(0, 16, 19, 19), (0, 16, 23, 13)]) (by decide) (Nat.le_of_ble_eq_true rfl) ?_
  intro p e s m args below meth c F G hr hlk htb
  refine r_aload F dL_run_0 rfl ?_
  refine r_iconst (v := 0) F dL_run_2 (by decide) ?_
  refine r_aload_n F dL_run_3 rfl ?_
  refine r_iload_n F dL_run_4 rfl ?_
  refine r_iload_n F dL_run_5 rfl ?_
  refine r_lload_n F dL_run_6 rfl ?_
  refine r_lload F dL_run_7 rfl ?_
  refine r_iload F dL_run_9 rfl ?_
  refine h_Vi (ci := 11) F G hK (cwV 5 F.2.2.2.2 (zgV km_L_49 ki_X11_run ke_X11_X11_run kn_X11 ko_X11_run) rfl rfl rfl ⟨rfl, hd_yX11_run⟩ ⟨Nat.le_refl _, by dsimp only; omega⟩) rfl (by decide) hx rfl rfl (Nat.le_of_ble_eq_true rfl) dL_run_11 ⟨by dsimp only; omega, by dsimp only; omega⟩ (fun E S9 hx9 => ?_) (fun r1 S1 h1 => ?_)
  · rcases hxp E S9 hx9 with e9 | e9
    · subst e9
      refine ⟨[], (⟨0, 16, 19, 19⟩ : ExceptionTableEntry), [(⟨0, 16, 23, 13⟩ : ExceptionTableEntry)], zIAE, htb, (fun z hz => absurd hz (List.not_mem_nil)), by decide, by decide, zin kc_L_19, List.mem_of_getElem? (i := 0) rfl, fun q9 => ?_⟩
      refine r_astore F dL_run_19 (by decide) ?_
      refine r_iconst (v := 1) F dL_run_21 (by decide) ?_
      exact e_iret F hr hlk (Or.inr (Or.inl ⟨rfl, hx9⟩)) (by omega) (by omega) dL_run_22
    · subst e9
      refine ⟨[(⟨0, 16, 19, 19⟩ : ExceptionTableEntry)], (⟨0, 16, 23, 13⟩ : ExceptionTableEntry), [], zISE, htb, (fun z hz => by rw [List.mem_singleton.mp hz]; exact ⟨by decide, by decide, zIAE, zin kc_L_19, List.mem_of_getElem? (i := 1) rfl⟩), by decide, by decide, zin kc_L_13, List.mem_of_getElem? (i := 1) rfl, fun q9 => ?_⟩
      refine r_astore F dL_run_23 (by decide) ?_
      refine r_iconst (v := 2) F dL_run_25 (by decide) ?_
      exact e_iret F hr hlk (Or.inr (Or.inr ⟨rfl, hx9⟩)) (by omega) (by omega) dL_run_26
  · have ho := hout r1 S1 h1
    have hin : vp_in (0 : Int32) (zn S1 o) := by
      rw [ho.2]
      exact vp_in_nI (n := 0) (by decide) (by decide)
    refine r_i2l F dL_run_14 ?_
    refine r_last F G ho.1 hin dL_run_15 ?_
    refine r_goto (tgt := 27) F dL_run_16 (by decide) ?_
    refine r_iconst (v := 0) F dL_run_27 (by decide) ?_
    exact e_iret F hr hlk (Or.inl ⟨rfl, _, S1, ⟨r1, rfl, h1⟩, rfl⟩) (by omega) (by omega) dL_run_28
set_option maxRecDepth 100000 in
set_option maxHeartbeats 4000000 in
theorem w_told {l : Launch} {N0 t0 : Nat} {D : va_G} {cy : Nat → ClassId} {S : zS} {x : Nat} {p0 : Int32} {post : Int64 → zS → Prop} {xp : String → zS → Prop} {f lo mc ms : Nat} (hK : zTl l yX11_told (zws yX11_told cX11_told 2 (some .long)) { frames := f, cells := mc, slots := ms, locals := lo } N0 t0 D cy S [.ref x, .int p0] post xp mc ms) (hx : zA S x 11) (hxp : ∀ E S', xp E S' → E = zIAE) {o : Nat} (hout : ∀ r S', post r S' → zA S' o 15 ∧ zn S' o = 1) : zMi l yL_told (zwh yL_told cL_told 4 (some .int) [(0, 8, 11, 19)]) { frames := f + 1, cells := mc, slots := ms, locals := lo + 40 } N0 t0 D cy S [.ref x, .int p0, .ref o] (zwr1 o post zIAE xp) mc ms := by
  refine zMi.ofH (cc := cL_told) (maxL := 4) (ret := (some .int)) (hh := [(0, 8, 11, 19)]) (by decide) (Nat.le_of_ble_eq_true rfl) ?_
  intro p e s m args below meth c F G hr hlk htb
  refine r_aload_n F dL_told_0 rfl ?_
  refine r_iconst (v := 0) F dL_told_1 (by decide) ?_
  refine r_aload_n F dL_told_2 rfl ?_
  refine r_iload_n F dL_told_3 rfl ?_
  refine h_Vl (ci := 11) F G hK (cwV 1 F.2.2.2.2 (zgV km_L_53 ki_X11_told ke_X11_X11_told kn_X11 ko_X11_told) rfl rfl rfl ⟨rfl, hd_yX11_told⟩ ⟨Nat.le_refl _, by dsimp only; omega⟩) rfl (by decide) hx rfl rfl (Nat.le_of_ble_eq_true rfl) dL_told_4 ⟨by dsimp only; omega, by dsimp only; omega⟩ (fun E S9 hx9 => ?_) (fun r1 S1 h1 => ?_)
  · have e9 := hxp E S9 hx9
    subst e9
    refine ⟨[], (⟨0, 8, 11, 19⟩ : ExceptionTableEntry), [], zIAE, htb, (fun z hz => absurd hz (List.not_mem_nil)), by decide, by decide, zin kc_L_19, List.mem_of_getElem? (i := 0) rfl, fun q9 => ?_⟩
    refine r_astore_n F dL_told_11 (by decide) ?_
    refine r_iconst (v := 1) F dL_told_12 (by decide) ?_
    exact e_iret F hr hlk (Or.inr ⟨rfl, hx9⟩) (by omega) (by omega) dL_told_13
  · have ho := hout r1 S1 h1
    have hin : vp_in (0 : Int32) (zn S1 o) := by
      rw [ho.2]
      exact vp_in_nI (n := 0) (by decide) (by decide)
    refine r_last F G ho.1 hin dL_told_7 ?_
    refine r_goto (tgt := 14) F dL_told_8 (by decide) ?_
    refine r_iconst (v := 0) F dL_told_14 (by decide) ?_
    exact e_iret F hr hlk (Or.inl ⟨rfl, r1, S1, h1, rfl⟩) (by omega) (by omega) dL_told_15
set_option maxRecDepth 100000 in
set_option maxHeartbeats 4000000 in
theorem w_memory {l : Launch} {N0 t0 : Nat} {D : va_G} {cy : Nat → ClassId} {S : zS} {x : Nat} {p0 : Int32} {post : Int32 → zS → Prop} {xp : String → zS → Prop} {f lo mc ms : Nat} (hK : zTi l yX11_memory (zws yX11_memory cX11_memory 2 (some .int)) { frames := f, cells := mc, slots := ms, locals := lo } N0 t0 D cy S [.ref x, .int p0] post xp mc ms) (hx : zA S x 11) (hxp : ∀ E S', xp E S' → E = zIAE) {o : Nat} (hout : ∀ r S', post r S' → zA S' o 15 ∧ zn S' o = 1) : zMi l yL_memory (zwh yL_memory cL_memory 4 (some .int) [(0, 9, 12, 19)]) { frames := f + 1, cells := mc, slots := ms, locals := lo + 40 } N0 t0 D cy S [.ref x, .int p0, .ref o] (zwr1 o (fun r S1 => ∃ v : Int32, r = v.toInt64 ∧ post v S1) zIAE xp) mc ms := by
  refine zMi.ofH (cc := cL_memory) (maxL := 4) (ret := (some .int)) (hh := [(0, 9, 12, 19)]) (by decide) (Nat.le_of_ble_eq_true rfl) ?_
  intro p e s m args below meth c F G hr hlk htb
  refine r_aload_n F dL_memory_0 rfl ?_
  refine r_iconst (v := 0) F dL_memory_1 (by decide) ?_
  refine r_aload_n F dL_memory_2 rfl ?_
  refine r_iload_n F dL_memory_3 rfl ?_
  refine h_Vi (ci := 11) F G hK (cwV 1 F.2.2.2.2 (zgV km_L_57 ki_X11_memory ke_X11_X11_memory kn_X11 ko_X11_memory) rfl rfl rfl ⟨rfl, hd_yX11_memory⟩ ⟨Nat.le_refl _, by dsimp only; omega⟩) rfl (by decide) hx rfl rfl (Nat.le_of_ble_eq_true rfl) dL_memory_4 ⟨by dsimp only; omega, by dsimp only; omega⟩ (fun E S9 hx9 => ?_) (fun r1 S1 h1 => ?_)
  · have e9 := hxp E S9 hx9
    subst e9
    refine ⟨[], (⟨0, 9, 12, 19⟩ : ExceptionTableEntry), [], zIAE, htb, (fun z hz => absurd hz (List.not_mem_nil)), by decide, by decide, zin kc_L_19, List.mem_of_getElem? (i := 0) rfl, fun q9 => ?_⟩
    refine r_astore_n F dL_memory_12 (by decide) ?_
    refine r_iconst (v := 1) F dL_memory_13 (by decide) ?_
    exact e_iret F hr hlk (Or.inr ⟨rfl, hx9⟩) (by omega) (by omega) dL_memory_14
  · have ho := hout r1 S1 h1
    have hin : vp_in (0 : Int32) (zn S1 o) := by
      rw [ho.2]
      exact vp_in_nI (n := 0) (by decide) (by decide)
    refine r_i2l F dL_memory_7 ?_
    refine r_last F G ho.1 hin dL_memory_8 ?_
    refine r_goto (tgt := 15) F dL_memory_9 (by decide) ?_
    refine r_iconst (v := 0) F dL_memory_15 (by decide) ?_
    exact e_iret F hr hlk (Or.inl ⟨rfl, _, S1, ⟨r1, rfl, h1⟩, rfl⟩) (by omega) (by omega) dL_memory_16
