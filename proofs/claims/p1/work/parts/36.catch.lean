/-- one row of a table that covers the place and names a class that links: the search resolves it, and takes it or goes on -/
theorem zx_row {e : Env} {s0 U : State} {f : JFrame} {a : Addr} {cell : Cell} {x : ExceptionTableEntry} {t : List ExceptionTableEntry} {cT : ClassId} (hobj : ∀ k, cell.vm ≠ .statics k) (hk0 : ∃ k, s0.vm.classes[cell.cls]? = some k) (hx : covers x f.pc = true) (h0 : x.catchType ≠ 0) (hl : s0.vm.ClassLinks e.platform f.method.cls x.catchType cT) (hW : s0.WarmedH U.vm) (hcell : U.heap[a]? = some cell) :
    s0.WarmedH (U.vm.noted f.method.cls x.catchType (.cls cT)) ∧ (s0.vm.assignable cell.cls cT = true → ∀ (Q : Handler → Pre) (E : CtlPost) (d : Bool) (acts : List Action), (wp (findHandler.go f a (x :: t)) Q E e d acts U ↔ Q (.found x.handlerPc) d acts (U.setVm (U.vm.noted f.method.cls x.catchType (.cls cT))))) ∧
      (s0.vm.assignable cell.cls cT = false → ∀ (Q : Handler → Pre) (E : CtlPost) (d : Bool) (acts : List Action), (wp (findHandler.go f a (x :: t)) Q E e d acts U ↔ wp (findHandler.go f a t) Q E e d acts (U.setVm (U.vm.noted f.method.cls x.catchType (.cls cT))))) := by
  simp only [covers] at hx
  obtain ⟨dk, _, _, kt, hd, _, _, _, _, hkt, _, hopen⟩ := hl.here
  obtain ⟨ha, ht⟩ := (resolveClass_links e.toSetting (hW.classLinks hl)).op (op := VmOp.resolveClass f.method.cls x.catchType) rfl
  have hN : s0.WarmedH (U.vm.noted f.method.cls x.catchType (.cls cT)) := hW.noted hd hopen (State.rightAt_cls hl)
  obtain ⟨k0, hk0⟩ := hk0
  obtain ⟨k1, hk1, -⟩ := hN.alike.2.2 _ _ hk0
  obtain ⟨k2, hk2, -⟩ := hN.alike.2.2 _ _ hkt
  refine ⟨hN, fun hf Q E d acts => ?_, fun hf Q E d acts => ?_⟩
  · have hf2 : (U.vm.noted f.method.cls x.catchType (.cls cT)).assignable cell.cls cT = true := by rw [hN.alike.assignable]; exact hf
    simp [findHandler.go, hx, h0, ha, ht, hcell, hobj, hk1, hk2, hf2, VmOp.dirties, VmOp.acts]
  · have hf2 : (U.vm.noted f.method.cls x.catchType (.cls cT)).assignable cell.cls cT = false := by rw [hN.alike.assignable]; exact hf
    simp [findHandler.go, hx, h0, ha, ht, hcell, hobj, hk1, hk2, hf2, VmOp.dirties, VmOp.acts]
/-- rows ahead that don't take it, then one that does -/
theorem zx_go {e : Env} {s0 : State} {f : JFrame} {a : Addr} {cell : Cell} {x : ExceptionTableEntry} {suf : List ExceptionTableEntry} {cT : ClassId} (hobj : ∀ k, cell.vm ≠ .statics k) (hk0 : ∃ k, s0.vm.classes[cell.cls]? = some k) (hx : covers x f.pc = true) (h0 : x.catchType ≠ 0) (hl : s0.vm.ClassLinks e.platform f.method.cls x.catchType cT) (hfit : s0.vm.assignable cell.cls cT = true) :
    ∀ (pre : List ExceptionTableEntry) (U : State), s0.WarmedH U.vm → U.heap[a]? = some cell → (∀ z ∈ pre, covers z f.pc = true ∧ z.catchType ≠ 0 ∧ ∃ k, s0.vm.ClassLinks e.platform f.method.cls z.catchType k ∧ s0.vm.assignable cell.cls k = false) →
      ∃ vm', s0.WarmedH vm' ∧ ∀ (Q : Handler → Pre) (E : CtlPost) (d : Bool) (acts : List Action), (wp (findHandler.go f a (pre ++ x :: suf)) Q E e d acts U ↔ Q (.found x.handlerPc) d acts (U.setVm vm')) := by
  intro pre
  induction pre with
  | nil =>
    intro U hW hcell _
    obtain ⟨h1, h2, -⟩ := zx_row (t := suf) hobj hk0 hx h0 hl hW hcell
    exact ⟨_, h1, h2 hfit⟩
  | cons z t ih =>
    intro U hW hcell hp
    obtain ⟨hz, hz0, k, hzl, hno⟩ := hp z List.mem_cons_self
    obtain ⟨h1, -, h3⟩ := zx_row (t := t ++ x :: suf) hobj hk0 hz hz0 hzl hW hcell
    obtain ⟨vm', h4, h5⟩ := ih (U.setVm _) h1 hcell (fun z hz => hp z (List.mem_cons_of_mem _ hz))
    exact ⟨vm', h4, fun Q E d acts => (h3 hno Q E d acts).trans (h5 Q E d acts)⟩
/-- the machine's step from a thrown object to its handler -/
theorem zx_step {tb : Tables} {e : Env} {below : List Frame} {T target : State} {g : JFrame} {c : Code} {a : Addr} (h : At T g.method c below) {pc : Nat} {vm' : Vm}
    (hf : ∀ (Q : Handler → Pre) (E : CtlPost) (d : Bool) (acts : List Action), wp (findHandler g a) Q E e d acts ((T.setTop g).pushFrame (.throwing a)) ↔ Q (.found pc) d acts (((T.setTop g).pushFrame (.throwing a)).setVm vm'))
    (hrest : Steps tb e below ((T.setVm vm').setTop { g with pc := pc, stack := [.ref a] }) target) : Steps tb e below ((T.setTop g).pushFrame (.throwing a)) target := by
  obtain ⟨hgo, hw⟩ := h.throwing a
  refine Steps.head hgo hw ?_
  have key : (stepThrowing e ((T.setTop g).pushFrame (.throwing a)) a (.java g :: T.frames.tail)).Is ((((T.setTop g).pushFrame (.throwing a)).setVm vm').setFrames (.java { g with pc := pc, stack := [.ref a] } :: T.frames.tail)) [] := by
    simp only [stepThrowing, searchFrame, vmDo]
    generalize hr : Sem.go _ e false [] _ = res
    obtain ⟨as, rfl, ha⟩ := Sem.eq_ok_of hr (a := Handler.found pc) (s' := ((T.setTop g).pushFrame (.throwing a)).setVm vm') (acts' := []) (by simp [hf _ _ _ _])
    exact ⟨rfl, ha⟩
  rw [stepThread_throwing (frames_entered h.top _), key.1]
  obtain ⟨g0, hg⟩ := Option.isSome_iff_exists.mp h.top
  obtain ⟨r, hr⟩ := State.topJava?_eq_some.mp hg
  have hr2 : (T.setVm vm').frames = .java g0 :: r := hr
  rw [State.setTop_of_frames _ hr2] at hrest
  have e1 : ∀ (u : State) (X Y : List Frame), ((u.setFrames X).setVm vm').setFrames Y = (u.setVm vm').setFrames Y := fun u X Y => by
    rw [show (u.setFrames X).setVm vm' = (u.setVm vm').setFrames X from rfl, State.setFrames_setFrames]
  rw [hr, List.tail_cons, State.pushFrame, e1, State.setTop_of_frames _ hr, e1]
  exact hrest
section ZXC
variable {p : Program} {l : Launch} {e : Env} {R : Room} {s : State} {m : MethodId} {args : Array Value} {below : List Frame} {meth : Method} {c : Code} {H : Heap} {locs : List Loc} {cells slots : Nat} {Q : State → Prop} {ls : Array Slot} {rest : List Value} {pc : Nat}
/-- an exception of class E is caught by the row x, behind rows that cover the place and name other classes -/
theorem zx_catch {own name E : String} {ce : Cell} {q : Addr} (hown : s.vm.findClass own = some m.cls) (pre : List ExceptionTableEntry) (x : ExceptionTableEntry) (suf : List ExceptionTableEntry) (hsplit : c.exceptionTable.toList = pre ++ x :: suf)
    (hpass : ∀ z ∈ pre, covers z pc = true ∧ z.catchType ≠ 0 ∧ ∃ nm : String, (Cond.classLink own z.catchType nm).before args s = true ∧ va_Nc E nm s) (hx : covers x pc = true) (h0 : x.catchType ≠ 0)
    (hlink : (Cond.classLink own x.catchType name).before args s = true) (hcast : (Cond.castable E name).before args s = true) (hcell : H[q]? = some ce) (hv : ce.vm = .none) (hcl : s.vm.findClass E = some ce.cls)
    (kk : W p l e R s m args below meth c H locs cells slots Q (F0 m x.handlerPc ls [.ref q])) : vx_W p l e R s m args below meth c H locs cells slots Q (F0 m pc ls rest) q := by
  intro T hT X
  have hpl : e.platform.magicAccessors = ({} : Platform).magicAccessors := by rw [X.admits.platform]
  obtain ⟨c3, c4, hc3, hc4, hasg⟩ := Cond.castable_spec hcast
  cases Option.some.inj (hc3.symm.trans hcl)
  obtain ⟨c5, hc5, hcl5⟩ := Cond.classLink_spec hown hlink e.platform hpl
  cases Option.some.inj (hc4.symm.trans hc5)
  obtain ⟨k9, h9, -⟩ := Vm.findClass_spec hcl
  obtain ⟨vm', hW', hgo⟩ := zx_go (e := e) (s0 := s) (f := F0 m pc ls rest) (a := q) (cell := ce) (suf := suf) (fun k h => by rw [hv] at h; cases h) ⟨k9, h9⟩ hx h0 hcl5 hasg pre ((T.setTop (F0 m pc ls rest)).pushFrame (.throwing q)) X.warmed (by rw [Stand.throwing_heap, hT]; exact hcell)
    (fun z hz => by
      obtain ⟨hz1, hz2, nm, hl1, a8, b8, g1, g2, g3⟩ := hpass z hz
      obtain ⟨c6, hc6, hcl6⟩ := Cond.classLink_spec hown hl1 e.platform hpl
      cases Option.some.inj (g1.symm.trans hcl)
      cases Option.some.inj (g2.symm.trans hc6)
      exact ⟨hz1, hz2, _, hcl6, g3⟩)
  obtain ⟨t, a1, b1⟩ := kk (T.setVm vm') hT (X.noted hW')
  refine ⟨t, zx_step (g := F0 m pc ls rest) (vm' := vm') (pc := x.handlerPc) X.here (fun Q E d acts => ?_) a1, b1⟩
  rw [W.findHandler_eq (s := (T.setTop (F0 m pc ls rest)).pushFrame (.throwing q)) (f := F0 m pc ls rest) X.method' X.code, hsplit]
  exact hgo Q E d acts
end ZXC
