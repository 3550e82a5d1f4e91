section ZJD
variable {p : Program} {l : Launch} {e : Env} {R : Room} {s : State} {m : MethodId} {args : Array Value} {below : List Frame} {meth : Method} {c : Code} {Q : State → Prop} {N0 t0 : Nat} {D : va_G} {cy : Nat → ClassId} {cc : ByteArray} {nL cells slots : Nat} {Ts : List Cond} {own : String} {S : zS} {lv : List (Nat × Value)} {pc : Nat} {rest : List Value}
/-- a cast of an object to a class that it is of -/
theorem r_cast (F : CallFix p m c cc nL s args Ts own) (G : zG N0 t0 D cy s s.heap) {a ci idx : Nat} {r : vw_C} {nm : String} (ha : zA S a ci) (hlt : ci < 13) (hc : vwCl[ci]? = some r) (hca : (r.1, nm) ∈ zCast) (hlk : Cond.classLink own idx nm ∈ Ts) (hdg : decode cc pc = .ok (.checkcast idx, 3)) (kk : zW p l e R s m args below meth c Q N0 D cy nL cells slots S lv (pc + 3) (.ref a :: rest)) : zW p l e R s m args below meth c Q N0 D cy nL cells slots S lv (pc) (.ref a :: rest) := by
  intro H locs ls hP hD hS hl
  obtain ⟨q0, -, he⟩ := zGo (cy := cy) ha hlt
  exact va_castY F.1 F.2.1 F.2.2.2.1 (F.2.2.2.2 _ hlk) (G.2.2.1 _ hca) (va_recv G.2.1 hP hc he) hdg (kk H locs ls hP hD hS hl)
theorem z_nmO (G : zG N0 t0 D cy s s.heap) : s.vm.findClass zOA = some (cy 6) := va_nmO (G.2.1.2 6 _ rfl).2 (by decide)
theorem z_nmB (G : zG N0 t0 D cy s s.heap) : s.vm.findClass "[B" = some (cy 0) := (G.2.1.2 0 _ rfl).2
theorem r_castO (F : CallFix p m c cc nL s args Ts own) (G : zG N0 t0 D cy s s.heap) {a idx : Nat} (ha : zA S a 19) (hlk : Cond.classLink own idx zOA ∈ Ts) (hdg : decode cc pc = .ok (.checkcast idx, 3)) (kk : zW p l e R s m args below meth c Q N0 D cy nL cells slots S lv (pc + 3) (.ref a :: rest)) : zW p l e R s m args below meth c Q N0 D cy nL cells slots S lv (pc) (.ref a :: rest) := by
  intro H locs ls hP hD hS hl
  obtain ⟨q0, -, he⟩ := zGa (cy := cy) (j := 6) ha rfl
  exact va_castA F.1 F.2.1 F.2.2.2.1 (F.2.2.2.2 _ hlk) hP q0 he (z_nmO G) hdg (kk H locs ls hP hD hS hl)
theorem r_ldcM (F : CallFix p m c cc nL s args Ts own) (G : zG N0 t0 D cy s s.heap) {mi idx : Nat} (hM : va_Mi zOA mi s) (hlk : Cond.classLink own idx zOA ∈ Ts) (hdg : decode cc pc = .ok (.ldc idx, 2)) (kk : zW p l e R s m args below meth c Q N0 D cy nL cells slots S lv (pc + 2) (.ref mi :: rest)) : zW p l e R s m args below meth c Q N0 D cy nL cells slots S lv (pc) (rest) := fun H locs ls hP hD hS hl => va_ldcM F.1 F.2.1 F.2.2.2.1 (F.2.2.2.2 _ hlk) hM hdg (kk H locs ls hP hD hS hl)
abbrev zGC : MethodName := ⟨"java/lang/Object", "getClass", "()Ljava/lang/Class;"⟩
theorem r_getC (F : CallFix p m c cc nL s args Ts own) (G : zG N0 t0 D cy s s.heap) {a mi idx : Nat} (hM : va_Mi zOA mi s) (ha : zA S a 19) (h1 : Cond.methodLink own idx zGC ∈ Ts) (h2 : Cond.selects zOA zGC zGC ∈ Ts) (h3 : Cond.instanceMethod zGC ∈ Ts) (h4 : Cond.native zGC ∈ Ts) (hf : 1 ≤ R.frames) (hlo : (rest.map fun v => v.category).sum + 14 ≤ R.locals) (hdg : decode cc pc = .ok (.invokevirtual idx, 3)) (kk : zW p l e R s m args below meth c Q N0 D cy nL cells slots S lv (pc + 3) (.ref mi :: rest)) : zW p l e R s m args below meth c Q N0 D cy nL cells slots S lv (pc) (.ref a :: rest) := by
  intro H locs ls hP hD hS hl
  obtain ⟨q0, -, he⟩ := zGa (cy := cy) (j := 6) ha rfl
  have hc := hP q0 _ he
  refine va_getC F.1 F.2.1 (F.2.2.1.trans hl.1.symm) F.2.2.2.1 (F.2.2.2.2 _ h1) (va_Dc.use G.2.2.2.2.2.2.2.2.2.2.2.2.2.2.2) (F.2.2.2.2 _ h2) (F.2.2.2.2 _ h3) (F.2.2.2.2 _ h4) hM ⟨_, hc, ?_, ?_⟩ hf hlo hdg (kk H locs ls hP hD hS hl)
  · rw [zar_q (by decide)]; rfl
  · rw [zar_q (by decide)]; exact z_nmO G
theorem r_copyq (F : CallFix p m c cc nL s args Ts own) (G : zG N0 t0 D cy s s.heap) {a0 a1 ci idx : Nat} {r : vw_C} {sp dp n : Int32} (h1 : Cond.methodLink own idx arraycopyName ∈ Ts) (h2 : Cond.native arraycopyName ∈ Ts) (h3 : Cond.static arraycopyName ∈ Ts) (h4 : Cond.initialized "java/lang/System" ∈ Ts) (ha0 : zA S a0 19) (ha1 : zA S a1 19) (hlt : ci < 13) (hc : vwCl[ci]? = some r) (hca : (r.1, "java/lang/Object") ∈ zCast) (g1 : ¬ sp < 0) (g2 : ¬ dp < 0) (g3 : ¬ n < 0) (g4 : sp.toNatClampNeg + n.toNatClampNeg ≤ zn S a0) (g5 : dp.toNatClampNeg + n.toNatClampNeg ≤ zn S a1) (hel : ∀ i : Nat, i < n.toNatClampNeg → ∀ y : Nat, zrq S a0 (sp.toNatClampNeg + i) = some y → zA S y ci) (hf : 1 ≤ R.frames) (hlo : (rest.map fun v => v.category).sum + (nativeFrameWords "java/lang/System" "arraycopy" 5 + 11) ≤ R.locals) (hdg : decode cc pc = .ok (.invokestatic idx, 3)) (kk : zW p l e R s m args below meth c Q N0 D cy nL cells slots (zRq S a1 (va_cpy (zrq S a0) (zrq S a1) sp.toNatClampNeg dp.toNatClampNeg n.toNatClampNeg)) lv (pc + 3) (rest)) : zW p l e R s m args below meth c Q N0 D cy nL cells slots S lv (pc) (.int n :: .int dp :: .ref a1 :: .int sp :: .ref a0 :: rest) := by
  intro H locs ls hP hD hS hl
  obtain ⟨q0, -, he0⟩ := zGa (cy := cy) (j := 6) ha0 rfl
  obtain ⟨q1, hk, he1⟩ := zGa (cy := cy) (j := 6) ha1 rfl
  rw [zar_q (by decide)] at he0 he1
  refine va_copyq (C := r.1) F.1 F.2.1 (F.2.2.1.trans hl.1.symm) F.2.2.2.1 (F.2.2.2.2 _ h1) (F.2.2.2.2 _ h2) (F.2.2.2.2 _ h3) (F.2.2.2.2 _ h4) G.2.1 hP hD hS q0 q1 6 6 he0 he1 rfl rfl g1 g2 g3 g4 g5 (fun i hi y hy => ?_) (fun comp c0 q1 q2 => ?_) hf hlo hdg (fun H1 locs1 hP1 hD1 hS1 => ?_)
  · obtain ⟨k9, -, he9⟩ := zGo (cy := cy) (hel i hi y hy) hlt
    exact va_recv G.2.1 hP hc he9
  · obtain ⟨c3, c4, e3, e4, hasg⟩ := Cond.castable_spec (va_Nw.use (A := #[]) rfl (G.2.2.1 _ hca))
    cases Option.some.inj (e3.symm.trans q2)
    cases Option.some.inj (e4.symm.trans q1)
    exact hasg
  · have e : (zP cy S).set q1 (a1, .inl (cy 6, zn S a1, .inr (.inr (.inr (.inr (va_cpy (zrq S a0) (zrq S a1) sp.toNatClampNeg dp.toNatClampNeg n.toNatClampNeg)))))) = zP cy (zRq S a1 (va_cpy (zrq S a0) (zrq S a1) sp.toNatClampNeg dp.toNatClampNeg n.toNatClampNeg)) := (va_pl_set (X := []) hD ha1.1 hk).trans (va_pl_congr (zF_rq ha1.2 rfl (by decide) _))
    rw [e] at hP1 hD1
    exact kk H1 locs1 ls hP1 hD1 hS1 hl
theorem r_copyb (F : CallFix p m c cc nL s args Ts own) (G : zG N0 t0 D cy s s.heap) {a0 a1 idx : Nat} {sp dp n : Int32} (h1 : Cond.methodLink own idx arraycopyName ∈ Ts) (h2 : Cond.native arraycopyName ∈ Ts) (h3 : Cond.static arraycopyName ∈ Ts) (h4 : Cond.initialized "java/lang/System" ∈ Ts) (ha0 : zA S a0 13) (ha1 : zA S a1 13) (g1 : ¬ sp < 0) (g2 : ¬ dp < 0) (g3 : ¬ n < 0) (g4 : sp.toNatClampNeg + n.toNatClampNeg ≤ zn S a0) (g5 : dp.toNatClampNeg + n.toNatClampNeg ≤ zn S a1) (hel : ∀ i : Nat, i < n.toNatClampNeg → fits .byte (.int (zri S a0 (sp.toNatClampNeg + i))) = true) (hf : 1 ≤ R.frames) (hlo : (rest.map fun v => v.category).sum + (nativeFrameWords "java/lang/System" "arraycopy" 5 + 11) ≤ R.locals) (hdg : decode cc pc = .ok (.invokestatic idx, 3)) (kk : zW p l e R s m args below meth c Q N0 D cy nL cells slots (zRi S a1 (va_cpy (zri S a0) (zri S a1) sp.toNatClampNeg dp.toNatClampNeg n.toNatClampNeg)) lv (pc + 3) (rest)) : zW p l e R s m args below meth c Q N0 D cy nL cells slots S lv (pc) (.int n :: .int dp :: .ref a1 :: .int sp :: .ref a0 :: rest) := by
  intro H locs ls hP hD hS hl
  obtain ⟨q0, -, he0⟩ := zGa (cy := cy) (j := 0) ha0 rfl
  obtain ⟨q1, hk, he1⟩ := zGa (cy := cy) (j := 0) ha1 rfl
  rw [zar_i (by decide) (by decide)] at he0 he1
  refine va_copyi (ty := .byte) F.1 F.2.1 (F.2.2.1.trans hl.1.symm) F.2.2.2.1 (F.2.2.2.2 _ h1) (F.2.2.2.2 _ h2) (F.2.2.2.2 _ h3) (F.2.2.2.2 _ h4) G.2.1 hP hD hS q0 q1 0 0 he0 he1 rfl rfl rfl g1 g2 g3 g4 g5 hel hf hlo hdg (fun H1 locs1 hP1 hD1 hS1 => ?_)
  have e : (zP cy S).set q1 (a1, .inl (cy 0, zn S a1, .inl (va_cpy (zri S a0) (zri S a1) sp.toNatClampNeg dp.toNatClampNeg n.toNatClampNeg))) = zP cy (zRi S a1 (va_cpy (zri S a0) (zri S a1) sp.toNatClampNeg dp.toNatClampNeg n.toNatClampNeg)) := (va_pl_set (X := []) hD ha1.1 hk).trans (va_pl_congr (zF_ri ha1.2 rfl (by decide) (by decide) _))
  rw [e] at hP1 hD1
  exact kk H1 locs1 ls hP1 hD1 hS1 hl
end ZJD
