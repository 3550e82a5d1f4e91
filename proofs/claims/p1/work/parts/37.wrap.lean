/-- a method's words where it has a table -/
def zwh (y : MethodName) (cc : ByteArray) (maxL : Nat) (ret : Option FieldType) (hh : List (Nat × Nat × Nat × Nat)) : List Cond := .codeWith y cc maxL ret hh :: lw_good
theorem zgIh {z : Cond} {y : MethodName} {cc : ByteArray} {maxL : Nat} {ret : Option FieldType} {hh : List (Nat × Nat × Nat × Nat)} (h : Cond.codeWith y cc maxL ret hh ∈ lw_good) : GoodIn (z :: lw_good) (zwh y cc maxL ret hh) := fun w hw => (List.mem_cons.mp hw).elim (fun e => by rw [e]; exact zg1 h) (fun h => zg1 h)
theorem zgSh {z : Cond} {own : String} {idx : Nat} {y : MethodName} {cc : ByteArray} {maxL : Nat} {ret : Option FieldType} {hh : List (Nat × Nat × Nat × Nat)} (h1 : Cond.methodLink own idx y ∈ lw_good) (h2 : Cond.static y ∈ lw_good) (h3 : Cond.initialized y.cls ∈ lw_good) (h5 : Cond.codeWith y cc maxL ret hh ∈ lw_good) : GoodIn (z :: lw_good) (va_wsS own idx y (zwh y cc maxL ret hh)) := fun w hw => by
  rcases List.mem_append.mp hw with h | h
  · simp only [List.mem_cons, List.not_mem_nil, or_false] at h
    rcases h with e | e | e <;> rw [e] <;> first | exact zg1 h1 | exact zg1 h2 | exact zg1 h3
  · exact zgIh h5 w h
theorem zMi.ofH {l : Launch} {y : MethodName} {rm : Room} {N0 t0 : Nat} {D : va_G} {cy : Nat → ClassId} {S : zS} {av : List Value} {post : Int32 → zS → Prop} {mc ms : Nat} {cc : ByteArray} {maxL : Nat} {ret : Option FieldType} {hh : List (Nat × Nat × Nat × Nat)} (hy : plainName y.cls = true) (hln : (lg_sl av).length ≤ maxL)
    (body : ∀ (p : Program) (e : Env) (s : State) (m : MethodId) (args : Array Value) (below : List Frame) (meth : Method) (c : Code), CallFix p m c cc maxL s args (zwh y cc maxL ret hh) y.cls → zG N0 t0 D cy s s.heap → meth.sig.returnType = ret → meth.locks = false → c.exceptionTable.toList = tableOf hh → zW p l e rm s m args below meth c (MQ below (va_Qi post (zB N0 D cy) (zN N0)) args s mc ms (zN N0)) N0 D cy maxL 0 0 S (lv_args 0 av) 0 []) : zMi l y (zwh y cc maxL ret hh) rm N0 t0 D cy S av post mc ms := by
  refine va_MetW (cc := cc) (maxL := maxL) (ret := ret) (hh := hh) hy rfl ?_
  intro p e s m args below meth c s₁ B hml hv
  obtain ⟨rfl, ⟨hP, hD⟩, hG⟩ := hv
  have hts := atoms_spec (ws := zwh y cc maxL ret hh) B.pre
  have hl := lv_entry av (n := maxL) hln
  rw [lg_entry_eq]
  exact body p e s m _ below meth c ⟨B.exec, B.bytes, hml, findClass_of_methodNamed B.named, hts⟩ hG B.returns B.notSynchronized (vx_table (x := y) B (hts _ List.mem_cons_self)) s.heap [] _ hP hD va_S.rf hl
section ZHC
variable {p : Program} {l : Launch} {e : Env} {R : Room} {s : State} {m : MethodId} {args : Array Value} {below : List Frame} {meth : Method} {c : Code} {Q : State → Prop} {N0 t0 : Nat} {D : va_G} {cy : Nat → ClassId} {cc : ByteArray} {nL cells slots : Nat} {Ts : List Cond} {own : String} {S : zS} {lv : List (Nat × Value)} {pc mc ms : Nat} {rest : List Value}
theorem h_Vi (F : CallFix p m c cc nL s args Ts own) (G : zG N0 t0 D cy s s.heap) {y : MethodName} {ws : List Cond} {rm : Room} {bytes : ByteArray} {maxL n idx : Nat} {ret : Option FieldType} {b : Nat} {ci N : Nat} {C : String} {T : u_T} {As : List Value} {st : List Value} {post : Int32 → zS → Prop} {xp : String → zS → Prop} (hM : zTi l y ws rm N0 t0 D cy S (.ref b :: As) post xp mc ms) (cw : CallW R s args own C idx y bytes maxL ret ws rm mc ms n) (hcl : vwCl[ci]? = some (C, T, N)) (hlt : ci < 13) (hb : zA S b ci) (hn : As.length = n) (hst : st = As.reverse ++ .ref b :: rest) (hW : (rest.map fun v => v.category).sum ≤ 8) (hdg : decode cc pc = .ok (.invokevirtual idx, 3)) (hf : cells + mc ≤ R.cells ∧ slots + ms ≤ R.slots)
    (kx : ∀ E S', xp E S' → ∃ (pre : List ExceptionTableEntry) (x : ExceptionTableEntry) (suf : List ExceptionTableEntry) (name : String), c.exceptionTable.toList = pre ++ x :: suf ∧ (∀ z ∈ pre, covers z pc = true ∧ z.catchType ≠ 0 ∧ ∃ nm : String, Cond.classLink own z.catchType nm ∈ Ts ∧ (E, nm) ∈ zNoc) ∧ covers x pc = true ∧ x.catchType ≠ 0 ∧ Cond.classLink own x.catchType name ∈ Ts ∧ (E, name) ∈ zCast ∧ ∀ q : Nat, zW p l e R s m args below meth c Q N0 D cy nL (cells + mc) (slots + ms) S' lv (x.handlerPc) ([.ref q]))
    (kk : ∀ r S', post r S' → zW p l e R s m args below meth c Q N0 D cy nL (cells + mc) (slots + ms) S' lv (pc + 3) (.int r :: rest)) : zW p l e R s m args below meth c Q N0 D cy nL cells slots S lv (pc) (st) := by
  intro H locs ls hP hD hS hl
  obtain ⟨q0, -, he⟩ := zGo (cy := cy) hb hlt
  have hrc := va_recv G.2.1 hP hcl he
  refine vx_calli (vx_runV (As := As) (rest := rest) F hM cw ⟨zC.blind, hrc, fun U hU hW => ⟨rfl, ⟨by rw [hU]; exact hP, hD⟩, by rw [hU]; exact zG.to G hW hS⟩⟩ rfl hn hl.1 hst (lv_room hW) hdg hf) hS (fun q _ h => h) (fun q h => h) (fun q _ h => h) ?_ (fun r S' t H1 locs1 ht hvm hw hB hz hk hS1 => kk r S' hw H1 locs1 ls (by rw [← ht]; exact hB.1) hB.2 hS1 hl)
  intro E ce q9 S' t H1 locs1 ht hvm _ hB hz hk hS1 hce hcv hcl9
  obtain ⟨pre, x, suf, name, h1, h2, h3, h4, h5, h6, h7⟩ := kx E S' hB.1
  exact zx_catch F.2.2.2.1 pre x suf h1 (fun z hz => by
    obtain ⟨g1, g2, nm, g3, g4⟩ := h2 z hz
    exact ⟨g1, g2, nm, F.2.2.2.2 _ g3, G.2.2.2.2.2.2.1 _ g4⟩) h3 h4 (F.2.2.2.2 _ h5) (va_Nw.use rfl (G.2.2.1 _ h6)) hce hcv hcl9 (h7 q9 H1 locs1 ls (by rw [← ht]; exact hB.2.1) hB.2.2 hS1 hl)
theorem h_Vl (F : CallFix p m c cc nL s args Ts own) (G : zG N0 t0 D cy s s.heap) {y : MethodName} {ws : List Cond} {rm : Room} {bytes : ByteArray} {maxL n idx : Nat} {ret : Option FieldType} {b : Nat} {ci N : Nat} {C : String} {T : u_T} {As : List Value} {st : List Value} {post : Int64 → zS → Prop} {xp : String → zS → Prop} (hM : zTl l y ws rm N0 t0 D cy S (.ref b :: As) post xp mc ms) (cw : CallW R s args own C idx y bytes maxL ret ws rm mc ms n) (hcl : vwCl[ci]? = some (C, T, N)) (hlt : ci < 13) (hb : zA S b ci) (hn : As.length = n) (hst : st = As.reverse ++ .ref b :: rest) (hW : (rest.map fun v => v.category).sum ≤ 8) (hdg : decode cc pc = .ok (.invokevirtual idx, 3)) (hf : cells + mc ≤ R.cells ∧ slots + ms ≤ R.slots)
    (kx : ∀ E S', xp E S' → ∃ (pre : List ExceptionTableEntry) (x : ExceptionTableEntry) (suf : List ExceptionTableEntry) (name : String), c.exceptionTable.toList = pre ++ x :: suf ∧ (∀ z ∈ pre, covers z pc = true ∧ z.catchType ≠ 0 ∧ ∃ nm : String, Cond.classLink own z.catchType nm ∈ Ts ∧ (E, nm) ∈ zNoc) ∧ covers x pc = true ∧ x.catchType ≠ 0 ∧ Cond.classLink own x.catchType name ∈ Ts ∧ (E, name) ∈ zCast ∧ ∀ q : Nat, zW p l e R s m args below meth c Q N0 D cy nL (cells + mc) (slots + ms) S' lv (x.handlerPc) ([.ref q]))
    (kk : ∀ r S', post r S' → zW p l e R s m args below meth c Q N0 D cy nL (cells + mc) (slots + ms) S' lv (pc + 3) (.long r :: rest)) : zW p l e R s m args below meth c Q N0 D cy nL cells slots S lv (pc) (st) := by
  intro H locs ls hP hD hS hl
  obtain ⟨q0, -, he⟩ := zGo (cy := cy) hb hlt
  have hrc := va_recv G.2.1 hP hcl he
  refine vx_calll (vx_runV (As := As) (rest := rest) F hM cw ⟨zC.blind, hrc, fun U hU hW => ⟨rfl, ⟨by rw [hU]; exact hP, hD⟩, by rw [hU]; exact zG.to G hW hS⟩⟩ rfl hn hl.1 hst (lv_room hW) hdg hf) hS (fun q _ h => h) (fun q h => h) (fun q _ h => h) ?_ (fun r S' t H1 locs1 ht hvm hw hB hz hk hS1 => kk r S' hw H1 locs1 ls (by rw [← ht]; exact hB.1) hB.2 hS1 hl)
  intro E ce q9 S' t H1 locs1 ht hvm _ hB hz hk hS1 hce hcv hcl9
  obtain ⟨pre, x, suf, name, h1, h2, h3, h4, h5, h6, h7⟩ := kx E S' hB.1
  exact zx_catch F.2.2.2.1 pre x suf h1 (fun z hz => by
    obtain ⟨g1, g2, nm, g3, g4⟩ := h2 z hz
    exact ⟨g1, g2, nm, F.2.2.2.2 _ g3, G.2.2.2.2.2.2.1 _ g4⟩) h3 h4 (F.2.2.2.2 _ h5) (va_Nw.use rfl (G.2.2.1 _ h6)) hce hcv hcl9 (h7 q9 H1 locs1 ls (by rw [← ht]; exact hB.2.1) hB.2.2 hS1 hl)
theorem h_Vv (F : CallFix p m c cc nL s args Ts own) (G : zG N0 t0 D cy s s.heap) {y : MethodName} {ws : List Cond} {rm : Room} {bytes : ByteArray} {maxL n idx : Nat} {ret : Option FieldType} {b : Nat} {ci N : Nat} {C : String} {T : u_T} {As : List Value} {st : List Value} {post : zS → Prop} {xp : String → zS → Prop} (hM : zTv l y ws rm N0 t0 D cy S (.ref b :: As) post xp mc ms) (cw : CallW R s args own C idx y bytes maxL ret ws rm mc ms n) (hcl : vwCl[ci]? = some (C, T, N)) (hlt : ci < 13) (hb : zA S b ci) (hn : As.length = n) (hst : st = As.reverse ++ .ref b :: rest) (hW : (rest.map fun v => v.category).sum ≤ 8) (hdg : decode cc pc = .ok (.invokevirtual idx, 3)) (hf : cells + mc ≤ R.cells ∧ slots + ms ≤ R.slots)
    (kx : ∀ E S', xp E S' → ∃ (pre : List ExceptionTableEntry) (x : ExceptionTableEntry) (suf : List ExceptionTableEntry) (name : String), c.exceptionTable.toList = pre ++ x :: suf ∧ (∀ z ∈ pre, covers z pc = true ∧ z.catchType ≠ 0 ∧ ∃ nm : String, Cond.classLink own z.catchType nm ∈ Ts ∧ (E, nm) ∈ zNoc) ∧ covers x pc = true ∧ x.catchType ≠ 0 ∧ Cond.classLink own x.catchType name ∈ Ts ∧ (E, name) ∈ zCast ∧ ∀ q : Nat, zW p l e R s m args below meth c Q N0 D cy nL (cells + mc) (slots + ms) S' lv (x.handlerPc) ([.ref q]))
    (kk : ∀ S', post S' → zW p l e R s m args below meth c Q N0 D cy nL (cells + mc) (slots + ms) S' lv (pc + 3) (rest)) : zW p l e R s m args below meth c Q N0 D cy nL cells slots S lv (pc) (st) := by
  intro H locs ls hP hD hS hl
  obtain ⟨q0, -, he⟩ := zGo (cy := cy) hb hlt
  have hrc := va_recv G.2.1 hP hcl he
  refine vx_callv (vx_runV (As := As) (rest := rest) F hM cw ⟨zC.blind, hrc, fun U hU hW => ⟨rfl, ⟨by rw [hU]; exact hP, hD⟩, by rw [hU]; exact zG.to G hW hS⟩⟩ rfl hn hl.1 hst (lv_room hW) hdg hf) hS (fun q _ h => h) (fun q h => h) (fun q _ h => h) ?_ (fun S' t H1 locs1 ht hvm hw hB hz hk hS1 => kk S' hw H1 locs1 ls (by rw [← ht]; exact hB.1) hB.2 hS1 hl)
  intro E ce q9 S' t H1 locs1 ht hvm _ hB hz hk hS1 hce hcv hcl9
  obtain ⟨pre, x, suf, name, h1, h2, h3, h4, h5, h6, h7⟩ := kx E S' hB.1
  exact zx_catch F.2.2.2.1 pre x suf h1 (fun z hz => by
    obtain ⟨g1, g2, nm, g3, g4⟩ := h2 z hz
    exact ⟨g1, g2, nm, F.2.2.2.2 _ g3, G.2.2.2.2.2.2.1 _ g4⟩) h3 h4 (F.2.2.2.2 _ h5) (va_Nw.use rfl (G.2.2.1 _ h6)) hce hcv hcl9 (h7 q9 H1 locs1 ls (by rw [← ht]; exact hB.2.1) hB.2.2 hS1 hl)
end ZHC
