def zCast : List (String × String) := [("java/lang/IllegalArgumentException", "java/lang/IllegalArgumentException"), ("java/lang/IllegalStateException", "java/lang/IllegalStateException"), (RX6, RX6), (RX7, RX7), (RX8, RX8), (RX9, RX9), (RX6, "java/lang/Object"), (RX7, "java/lang/Object"), (RX8, "java/lang/Object"), (RX9, "java/lang/Object"), (RJx4a65c, "java/util/List")]
def zNest : List (String × Nat × MethodName × String) := [(RX11, 18, yX5_init, RX11), (RX11, 25, yX1_init, RX11), (RX11, 32, yX2_init, RX11), (RX11, 39, yX4_init, RX11), (RX11, 46, yX3_init, RX11), (RX11, 71, yX9_init, RX11), (RX3, 187, yX11_putBytes, RX11), (RX4, 11, yX0_init, RX11)]
def zFace : List (MethodName × MethodName) := [(⟨"java/util/List", "size", "()I"⟩, yJx4a65c_size_8abf5), (⟨"java/util/List", "isEmpty", "()Z"⟩, yJx4a65c_isEmpty_aae02), (⟨"java/util/List", "get", "(I)Ljava/lang/Object;"⟩, yJx4a65c_get_915e3), (⟨"java/util/List", "add", "(Ljava/lang/Object;)Z"⟩, yJx4a65c_add_9ea2d), (⟨"java/util/List", "clear", "()V"⟩, yJx4a65c_clear_da8c8)]
def zOver : List String := [RX6, RX8, "java/lang/Object"]
def zNoc : List (String × String) := [("java/lang/IllegalArgumentException", "java/lang/IllegalStateException"), ("java/lang/IllegalStateException", "java/lang/IllegalArgumentException")]
def zStr : List (Nat × String) := [(257, "a number is out of its bounds, or there is no such thing"), (264, "there is no room, or nothing is there or linked")]
def zTab : List (String × List Int32) := [("POPS", [0, 0, 1, 2, 2, 2, 2, 2, 2, 2, 2, 2, 2, 2, 2, 2, 2, 3, 1, 1, 2, 1, 2, 0, 0, 1, 0, 0, 0, 1, 0, 0, 1, 0, 0, 0]), ("PUSHES", [1, 1, 0, 1, 1, 1, 1, 1, 1, 1, 1, 1, 1, 1, 1, 1, 1, 1, 0, 1, 0, 1, 0, 0, 0, 0, 0, 0, 0, 0, 0, 0, 0, 1, 1, 1]), ("OPCODES", [66, 32, 33, 124, 125, 126, 127, 129, 131, 132, 133, 134, 135, 136, 81, 83, 84, 27, 26, 41, 55, 49, 60, 2, 3, 4, 5, 11, 12, 13, 15, 16, 17, 66, 66, 66])]
def zDecl : List MethodName := [⟨"java/lang/RuntimeException", "<init>", "(Ljava/lang/String;)V"⟩, ⟨"java/lang/Exception", "<init>", "(Ljava/lang/String;)V"⟩, ⟨"java/lang/Throwable", "<init>", "(Ljava/lang/String;)V"⟩]
abbrev zED : String := "DEFAULTCAPACITY_EMPTY_ELEMENTDATA"
abbrev zOA : String := "[Ljava/lang/Object;"
/-- what holds of the start and stays: the classes, words on the tables, statics, texts -/
def zG (N0 t0 : Nat) (D : va_G) (cy : Nat → ClassId) (U : State) (H : Heap) : Prop :=
  N0 ≤ H.size ∧ va_K D vwCl (zty cy) U ∧ (∀ q ∈ zCast, va_Nw (.castable q.1 q.2) U) ∧ (∀ q ∈ zNest, va_Nw (.methodLinkNest q.1 q.2.1 q.2.2.1 q.2.2.2) U) ∧ (∀ q ∈ zFace, va_Fw RJx4a65c q.1 q.2 U) ∧ (∀ C ∈ zOver, va_AO C U) ∧ (∀ q ∈ zNoc, va_Nc q.1 q.2 U) ∧ (∀ q ∈ zStr, ∃ a : Nat, vk_R RX11 q.1 q.2 a U) ∧
  vx_Zq Bundle.tN "UNASSIGNED_STACK" Bundle.steD (zN N0) U H ∧ vx_Zq Bundle.tN "SUPPRESSED_SENTINEL" Bundle.listD (zN N0) U H ∧
  va_Z RJx4a65c zED zOA (.ref t0) (zN N0) U H ∧ va_T (.object "java/lang/Object") t0 0 (fun _ => .null) (zN N0) U H ∧ (∀ y ∈ zDecl, va_Nw (.declares y) U) ∧ (∀ q ∈ zTab, ∃ a : Nat, va_Z RX10 q.1 "[I" (.ref a) (zN N0) U H ∧ va_T .int a 36 (fun j => .int (q.2.getD j 0)) (zN N0) U H) ∧ va_Mi zOA (cy 7) U ∧ va_Dc U
theorem zG.to {N0 t0 : Nat} {D : va_G} {cy : Nat → ClassId} {s U : State} {H : Heap} {locs : List Loc} (h : zG N0 t0 D cy s s.heap) (hW : s.WarmedH U.vm) (hS : va_S (zN N0) s.heap H locs) : zG N0 t0 D cy U H := by
  obtain ⟨h0, h1, h2, h3, h4, h5, h6, h7, h8, h9, ha, hb, hd, ht, hmi, hdc⟩ := h
  have hk := hS.2.1
  exact ⟨Nat.le_trans h0 hS.1, va_K.moved hW.alike h1, fun q hq => va_Nw.warmC hW (h2 q hq), fun q hq => va_Nw.warmM hW (h3 q hq),
    fun q hq => va_Fw.moved (by
      have : ∀ q ∈ zFace, q.1.cls ≠ "java/lang/invoke/MethodHandle" ∧ q.1.cls ≠ "java/lang/invoke/VarHandle" := by decide +kernel
      exact this q hq) hW.alike (h4 q hq),
    fun C hC => va_AO.moved hW.alike (h5 C hC), fun q hq => va_Nc.moved hW.alike (h6 q hq), fun q hq => (h7 q hq).imp fun a ha => vk_R.warm hW ha,
    vx_Zq.moved hW.alike (vx_Zq.kept h8 hk), vx_Zq.moved hW.alike (vx_Zq.kept h9 hk), va_Z.moved hW.alike (va_Z.kept ha hk), va_T.moved hW.alike (va_T.kept hb hk), fun y hy => va_Nw.warmD hW (hd y hy), fun q hq => (ht q hq).imp fun a h => ⟨va_Z.moved hW.alike (va_Z.kept h.1 hk), va_T.moved hW.alike (va_T.kept h.2 hk)⟩, va_Mi.moved hW.alike hmi, va_Dc.moved hW.alike hdc⟩
theorem zG.call {N0 t0 : Nat} {D : va_G} {cy : Nat → ClassId} {U : State} {g : JFrame} {mk : MethodId} {a : Array Value} (h : zG N0 t0 D cy U U.heap) : zG N0 t0 D cy (U.calling g mk a) (U.calling g mk a).heap :=
  zG.to (U := U.calling g mk a) (locs := []) h (State.WarmedH.refl U) va_S.rf
/-- at a method's entry -/
def zC (N0 t0 : Nat) (D : va_G) (cy : Nat → ClassId) (S : zS) (U : State) : Prop := zB N0 D cy S U ∧ zG N0 t0 D cy U U.heap
theorem zC.blind {N0 t0 : Nat} {D : va_G} {cy : Nat → ClassId} {S : zS} {av : List Value} : FrameBlind (va_Pc av (zC N0 t0 D cy S)) := fun a U g mk h => ⟨h.1, h.2.1, zG.call h.2.2⟩
section ZH
variable {p : Program} {l : Launch} {e : Env} {R : Room} {s : State} {m : MethodId} {args : Array Value} {below : List Frame} {meth : Method} {c : Code} {Q : State → Prop} {N0 t0 : Nat} {D : va_G} {cy : Nat → ClassId} {cc : ByteArray} {nL cells slots : Nat} {Ts : List Cond} {own : String} {S : zS} {lv : List (Nat × Value)} {pc : Nat} {rest : List Value}
theorem r_geti (F : CallFix p m c cc nL s args Ts own) (G : zG N0 t0 D cy s s.heap) {ci k id idx a N : Nat} {C ref : String} {T : u_T} (hc : vwCl[ci]? = some (C, T, N)) (hlt : ci < 13) (hkN : k < N) (hf : (zfl ci)[k]? = some (0, id)) (hin : ∀ w ∈ u_ws C T N, w ∈ Ts) (hlk : Cond.fieldLink own idx ref (T k).2.1 (T k).2.2.1 ∈ Ts) (hsm : ∀ x, s.fieldFound? (T k).1 (T k).2.1 (T k).2.2.1 = some x → s.fieldFound? ref (T k).2.1 (T k).2.2.1 = some x) (hdg : decode cc pc = .ok (.getfield idx, 3)) (ha : zA S a ci) (kk : zW p l e R s m args below meth c Q N0 D cy nL cells slots S lv (pc + 3) (.int (zi S id a) :: rest)) : zW p l e R s m args below meth c Q N0 D cy nL cells slots S lv (pc) (.ref a :: rest) := by
  intro H locs ls hP hD hS hl
  obtain ⟨q0, -, he⟩ := zGo (cy := cy) ha hlt
  exact va_get (D := D) (v := .int (zi S id a)) F.1 F.2.1 F.2.2.2.2 hin F.2.2.2.1 G.2.1 hP q0 he hc k hkN (F.2.2.2.2 _ hlk) hsm (by rw [List.getElem?_map, hf]; rfl) hdg (kk H locs ls hP hD hS hl)
theorem r_getq (F : CallFix p m c cc nL s args Ts own) (G : zG N0 t0 D cy s s.heap) {ci k id idx a N : Nat} {C ref : String} {T : u_T} (hc : vwCl[ci]? = some (C, T, N)) (hlt : ci < 13) (hkN : k < N) (hf : (zfl ci)[k]? = some (1, id)) (hin : ∀ w ∈ u_ws C T N, w ∈ Ts) (hlk : Cond.fieldLink own idx ref (T k).2.1 (T k).2.2.1 ∈ Ts) (hsm : ∀ x, s.fieldFound? (T k).1 (T k).2.1 (T k).2.2.1 = some x → s.fieldFound? ref (T k).2.1 (T k).2.2.1 = some x) (hdg : decode cc pc = .ok (.getfield idx, 3)) (ha : zA S a ci) (kk : zW p l e R s m args below meth c Q N0 D cy nL cells slots S lv (pc + 3) (va_rf (zq S id a) :: rest)) : zW p l e R s m args below meth c Q N0 D cy nL cells slots S lv (pc) (.ref a :: rest) := by
  intro H locs ls hP hD hS hl
  obtain ⟨q0, -, he⟩ := zGo (cy := cy) ha hlt
  exact va_get (D := D) (v := va_rf (zq S id a)) F.1 F.2.1 F.2.2.2.2 hin F.2.2.2.1 G.2.1 hP q0 he hc k hkN (F.2.2.2.2 _ hlk) hsm (by rw [List.getElem?_map, hf]; rfl) hdg (kk H locs ls hP hD hS hl)
theorem r_getl (F : CallFix p m c cc nL s args Ts own) (G : zG N0 t0 D cy s s.heap) {ci k id idx a N : Nat} {C ref : String} {T : u_T} (hc : vwCl[ci]? = some (C, T, N)) (hlt : ci < 13) (hkN : k < N) (hf : (zfl ci)[k]? = some (2, id)) (hin : ∀ w ∈ u_ws C T N, w ∈ Ts) (hlk : Cond.fieldLink own idx ref (T k).2.1 (T k).2.2.1 ∈ Ts) (hsm : ∀ x, s.fieldFound? (T k).1 (T k).2.1 (T k).2.2.1 = some x → s.fieldFound? ref (T k).2.1 (T k).2.2.1 = some x) (hdg : decode cc pc = .ok (.getfield idx, 3)) (ha : zA S a ci) (kk : zW p l e R s m args below meth c Q N0 D cy nL cells slots S lv (pc + 3) (.long (zl S id a) :: rest)) : zW p l e R s m args below meth c Q N0 D cy nL cells slots S lv (pc) (.ref a :: rest) := by
  intro H locs ls hP hD hS hl
  obtain ⟨q0, -, he⟩ := zGo (cy := cy) ha hlt
  exact va_get (D := D) (v := .long (zl S id a)) F.1 F.2.1 F.2.2.2.2 hin F.2.2.2.1 G.2.1 hP q0 he hc k hkN (F.2.2.2.2 _ hlk) hsm (by rw [List.getElem?_map, hf]; rfl) hdg (kk H locs ls hP hD hS hl)
theorem r_puti (F : CallFix p m c cc nL s args Ts own) (G : zG N0 t0 D cy s s.heap) {ci k id idx a N : Nat} {C ref : String} {T : u_T} {ty : FieldType} {ty0 : Nat → FieldType} {v : Int32} (hc : vwCl[ci]? = some (C, T, N)) (hlt : ci < 13) (hkN : k < N) (hf : (zfl ci)[k]? = some (0, id)) (hin : ∀ w ∈ u_ws C T N, w ∈ Ts) (hlk : Cond.fieldLink own idx ref (T k).2.1 (T k).2.2.1 ∈ Ts) (hsm : ∀ x, s.fieldFound? (T k).1 (T k).2.1 (T k).2.2.1 = some x → s.fieldFound? ref (T k).2.1 (T k).2.2.1 = some x) (hty : ∀ k, k < N → parseFieldDescriptor (T k).2.2.1 = some (ty0 k)) (hnm : ∀ a, a < N → ∀ b, b < N → a ≠ b → (T a).2.1 ≠ (T b).2.1) (hfin : (T k).2.2.2 = false) (hd : parseFieldDescriptor (T k).2.2.1 = some ty) (hn : narrow ty (.int v) = .int v) (hfit : fits ty (.int v) = true) (hdg : decode cc pc = .ok (.putfield idx, 3)) (ha : zA S a ci) (kk : zW p l e R s m args below meth c Q N0 D cy nL cells slots (zPi S id a v) lv (pc + 3) (rest)) : zW p l e R s m args below meth c Q N0 D cy nL cells slots S lv (pc) (.int v :: .ref a :: rest) := by
  intro H locs ls hP hD hS hl
  obtain ⟨q0, hk, he⟩ := zGo (cy := cy) ha hlt
  refine va_put (D := D) F.1 F.2.1 F.2.2.2.2 hin ty0 hty hnm F.2.2.2.1 G.2.1 hP hD hS q0 he hc k hkN (F.2.2.2.2 _ hlk) hsm hfin hd hn hfit (by rw [List.length_map]; exact (List.getElem?_eq_some_iff.mp hf).1) hdg (fun H1 locs1 hP1 hD1 hS1 => ?_)
  have e : (zP cy S).set q0 (a, .inr (ci, ((zfl ci).map (zfv S a)).set k (.int v))) = zP cy (zPi S id a v) := (va_pl_set (X := []) hD ha.1 hk).trans (va_pl_congr (zF_pi ha.2 hlt hf v))
  rw [e] at hP1 hD1
  exact kk H1 locs1 ls hP1 hD1 hS1 hl
theorem r_putFi (F : CallFix p m c cc nL s args Ts own) (G : zG N0 t0 D cy s s.heap) {ci k id idx a N : Nat} {C ref : String} {T : u_T} {ty : FieldType} {ty0 : Nat → FieldType} {v : Int32} (hc : vwCl[ci]? = some (C, T, N)) (hlt : ci < 13) (hkN : k < N) (hf : (zfl ci)[k]? = some (0, id)) (hin : ∀ w ∈ u_ws C T N, w ∈ Ts) (hlk : Cond.fieldLink own idx ref (T k).2.1 (T k).2.2.1 ∈ Ts) (hsm : ∀ x, s.fieldFound? (T k).1 (T k).2.1 (T k).2.2.1 = some x → s.fieldFound? ref (T k).2.1 (T k).2.2.1 = some x) (hty : ∀ k, k < N → parseFieldDescriptor (T k).2.2.1 = some (ty0 k)) (hnm : ∀ a, a < N → ∀ b, b < N → a ≠ b → (T a).2.1 ≠ (T b).2.1) (hfin : (T k).2.2.2 = true) (hini : meth.name = "<init>") (hdc : (T k).1 = own) (hd : parseFieldDescriptor (T k).2.2.1 = some ty) (hn : narrow ty (.int v) = .int v) (hfit : fits ty (.int v) = true) (hdg : decode cc pc = .ok (.putfield idx, 3)) (ha : zA S a ci) (kk : zW p l e R s m args below meth c Q N0 D cy nL cells slots (zPi S id a v) lv (pc + 3) (rest)) : zW p l e R s m args below meth c Q N0 D cy nL cells slots S lv (pc) (.int v :: .ref a :: rest) := by
  intro H locs ls hP hD hS hl
  obtain ⟨q0, hk, he⟩ := zGo (cy := cy) ha hlt
  refine va_putF (D := D) F.1 F.2.1 F.2.2.2.2 hin ty0 hty hnm F.2.2.2.1 G.2.1 hP hD hS q0 he hc k hkN (F.2.2.2.2 _ hlk) hsm hfin hini hdc hd hn hfit (by rw [List.length_map]; exact (List.getElem?_eq_some_iff.mp hf).1) hdg (fun H1 locs1 hP1 hD1 hS1 => ?_)
  have e : (zP cy S).set q0 (a, .inr (ci, ((zfl ci).map (zfv S a)).set k (.int v))) = zP cy (zPi S id a v) := (va_pl_set (X := []) hD ha.1 hk).trans (va_pl_congr (zF_pi ha.2 hlt hf v))
  rw [e] at hP1 hD1
  exact kk H1 locs1 ls hP1 hD1 hS1 hl
theorem r_putq (F : CallFix p m c cc nL s args Ts own) (G : zG N0 t0 D cy s s.heap) {ci k id idx a N : Nat} {C ref : String} {T : u_T} {ty : FieldType} {ty0 : Nat → FieldType} {v : Option Nat} (hc : vwCl[ci]? = some (C, T, N)) (hlt : ci < 13) (hkN : k < N) (hf : (zfl ci)[k]? = some (1, id)) (hin : ∀ w ∈ u_ws C T N, w ∈ Ts) (hlk : Cond.fieldLink own idx ref (T k).2.1 (T k).2.2.1 ∈ Ts) (hsm : ∀ x, s.fieldFound? (T k).1 (T k).2.1 (T k).2.2.1 = some x → s.fieldFound? ref (T k).2.1 (T k).2.2.1 = some x) (hty : ∀ k, k < N → parseFieldDescriptor (T k).2.2.1 = some (ty0 k)) (hnm : ∀ a, a < N → ∀ b, b < N → a ≠ b → (T a).2.1 ≠ (T b).2.1) (hfin : (T k).2.2.2 = false) (hd : parseFieldDescriptor (T k).2.2.1 = some ty) (hn : narrow ty (va_rf v) = va_rf v) (hfit : fits ty (va_rf v) = true) (hdg : decode cc pc = .ok (.putfield idx, 3)) (ha : zA S a ci) (kk : zW p l e R s m args below meth c Q N0 D cy nL cells slots (zPq S id a v) lv (pc + 3) (rest)) : zW p l e R s m args below meth c Q N0 D cy nL cells slots S lv (pc) (va_rf v :: .ref a :: rest) := by
  intro H locs ls hP hD hS hl
  obtain ⟨q0, hk, he⟩ := zGo (cy := cy) ha hlt
  refine va_put (D := D) F.1 F.2.1 F.2.2.2.2 hin ty0 hty hnm F.2.2.2.1 G.2.1 hP hD hS q0 he hc k hkN (F.2.2.2.2 _ hlk) hsm hfin hd hn hfit (by rw [List.length_map]; exact (List.getElem?_eq_some_iff.mp hf).1) hdg (fun H1 locs1 hP1 hD1 hS1 => ?_)
  have e : (zP cy S).set q0 (a, .inr (ci, ((zfl ci).map (zfv S a)).set k (va_rf v))) = zP cy (zPq S id a v) := (va_pl_set (X := []) hD ha.1 hk).trans (va_pl_congr (zF_pq ha.2 hlt hf v))
  rw [e] at hP1 hD1
  exact kk H1 locs1 ls hP1 hD1 hS1 hl
theorem r_putFq (F : CallFix p m c cc nL s args Ts own) (G : zG N0 t0 D cy s s.heap) {ci k id idx a N : Nat} {C ref : String} {T : u_T} {ty : FieldType} {ty0 : Nat → FieldType} {v : Option Nat} (hc : vwCl[ci]? = some (C, T, N)) (hlt : ci < 13) (hkN : k < N) (hf : (zfl ci)[k]? = some (1, id)) (hin : ∀ w ∈ u_ws C T N, w ∈ Ts) (hlk : Cond.fieldLink own idx ref (T k).2.1 (T k).2.2.1 ∈ Ts) (hsm : ∀ x, s.fieldFound? (T k).1 (T k).2.1 (T k).2.2.1 = some x → s.fieldFound? ref (T k).2.1 (T k).2.2.1 = some x) (hty : ∀ k, k < N → parseFieldDescriptor (T k).2.2.1 = some (ty0 k)) (hnm : ∀ a, a < N → ∀ b, b < N → a ≠ b → (T a).2.1 ≠ (T b).2.1) (hfin : (T k).2.2.2 = true) (hini : meth.name = "<init>") (hdc : (T k).1 = own) (hd : parseFieldDescriptor (T k).2.2.1 = some ty) (hn : narrow ty (va_rf v) = va_rf v) (hfit : fits ty (va_rf v) = true) (hdg : decode cc pc = .ok (.putfield idx, 3)) (ha : zA S a ci) (kk : zW p l e R s m args below meth c Q N0 D cy nL cells slots (zPq S id a v) lv (pc + 3) (rest)) : zW p l e R s m args below meth c Q N0 D cy nL cells slots S lv (pc) (va_rf v :: .ref a :: rest) := by
  intro H locs ls hP hD hS hl
  obtain ⟨q0, hk, he⟩ := zGo (cy := cy) ha hlt
  refine va_putF (D := D) F.1 F.2.1 F.2.2.2.2 hin ty0 hty hnm F.2.2.2.1 G.2.1 hP hD hS q0 he hc k hkN (F.2.2.2.2 _ hlk) hsm hfin hini hdc hd hn hfit (by rw [List.length_map]; exact (List.getElem?_eq_some_iff.mp hf).1) hdg (fun H1 locs1 hP1 hD1 hS1 => ?_)
  have e : (zP cy S).set q0 (a, .inr (ci, ((zfl ci).map (zfv S a)).set k (va_rf v))) = zP cy (zPq S id a v) := (va_pl_set (X := []) hD ha.1 hk).trans (va_pl_congr (zF_pq ha.2 hlt hf v))
  rw [e] at hP1 hD1
  exact kk H1 locs1 ls hP1 hD1 hS1 hl
theorem r_putl (F : CallFix p m c cc nL s args Ts own) (G : zG N0 t0 D cy s s.heap) {ci k id idx a N : Nat} {C ref : String} {T : u_T} {ty : FieldType} {ty0 : Nat → FieldType} {v : Int64} (hc : vwCl[ci]? = some (C, T, N)) (hlt : ci < 13) (hkN : k < N) (hf : (zfl ci)[k]? = some (2, id)) (hin : ∀ w ∈ u_ws C T N, w ∈ Ts) (hlk : Cond.fieldLink own idx ref (T k).2.1 (T k).2.2.1 ∈ Ts) (hsm : ∀ x, s.fieldFound? (T k).1 (T k).2.1 (T k).2.2.1 = some x → s.fieldFound? ref (T k).2.1 (T k).2.2.1 = some x) (hty : ∀ k, k < N → parseFieldDescriptor (T k).2.2.1 = some (ty0 k)) (hnm : ∀ a, a < N → ∀ b, b < N → a ≠ b → (T a).2.1 ≠ (T b).2.1) (hfin : (T k).2.2.2 = false) (hd : parseFieldDescriptor (T k).2.2.1 = some ty) (hn : narrow ty (.long v) = .long v) (hfit : fits ty (.long v) = true) (hdg : decode cc pc = .ok (.putfield idx, 3)) (ha : zA S a ci) (kk : zW p l e R s m args below meth c Q N0 D cy nL cells slots (zPl S id a v) lv (pc + 3) (rest)) : zW p l e R s m args below meth c Q N0 D cy nL cells slots S lv (pc) (.long v :: .ref a :: rest) := by
  intro H locs ls hP hD hS hl
  obtain ⟨q0, hk, he⟩ := zGo (cy := cy) ha hlt
  refine va_put (D := D) F.1 F.2.1 F.2.2.2.2 hin ty0 hty hnm F.2.2.2.1 G.2.1 hP hD hS q0 he hc k hkN (F.2.2.2.2 _ hlk) hsm hfin hd hn hfit (by rw [List.length_map]; exact (List.getElem?_eq_some_iff.mp hf).1) hdg (fun H1 locs1 hP1 hD1 hS1 => ?_)
  have e : (zP cy S).set q0 (a, .inr (ci, ((zfl ci).map (zfv S a)).set k (.long v))) = zP cy (zPl S id a v) := (va_pl_set (X := []) hD ha.1 hk).trans (va_pl_congr (zF_pl ha.2 hlt hf v))
  rw [e] at hP1 hD1
  exact kk H1 locs1 ls hP1 hD1 hS1 hl
theorem r_putFl (F : CallFix p m c cc nL s args Ts own) (G : zG N0 t0 D cy s s.heap) {ci k id idx a N : Nat} {C ref : String} {T : u_T} {ty : FieldType} {ty0 : Nat → FieldType} {v : Int64} (hc : vwCl[ci]? = some (C, T, N)) (hlt : ci < 13) (hkN : k < N) (hf : (zfl ci)[k]? = some (2, id)) (hin : ∀ w ∈ u_ws C T N, w ∈ Ts) (hlk : Cond.fieldLink own idx ref (T k).2.1 (T k).2.2.1 ∈ Ts) (hsm : ∀ x, s.fieldFound? (T k).1 (T k).2.1 (T k).2.2.1 = some x → s.fieldFound? ref (T k).2.1 (T k).2.2.1 = some x) (hty : ∀ k, k < N → parseFieldDescriptor (T k).2.2.1 = some (ty0 k)) (hnm : ∀ a, a < N → ∀ b, b < N → a ≠ b → (T a).2.1 ≠ (T b).2.1) (hfin : (T k).2.2.2 = true) (hini : meth.name = "<init>") (hdc : (T k).1 = own) (hd : parseFieldDescriptor (T k).2.2.1 = some ty) (hn : narrow ty (.long v) = .long v) (hfit : fits ty (.long v) = true) (hdg : decode cc pc = .ok (.putfield idx, 3)) (ha : zA S a ci) (kk : zW p l e R s m args below meth c Q N0 D cy nL cells slots (zPl S id a v) lv (pc + 3) (rest)) : zW p l e R s m args below meth c Q N0 D cy nL cells slots S lv (pc) (.long v :: .ref a :: rest) := by
  intro H locs ls hP hD hS hl
  obtain ⟨q0, hk, he⟩ := zGo (cy := cy) ha hlt
  refine va_putF (D := D) F.1 F.2.1 F.2.2.2.2 hin ty0 hty hnm F.2.2.2.1 G.2.1 hP hD hS q0 he hc k hkN (F.2.2.2.2 _ hlk) hsm hfin hini hdc hd hn hfit (by rw [List.length_map]; exact (List.getElem?_eq_some_iff.mp hf).1) hdg (fun H1 locs1 hP1 hD1 hS1 => ?_)
  have e : (zP cy S).set q0 (a, .inr (ci, ((zfl ci).map (zfv S a)).set k (.long v))) = zP cy (zPl S id a v) := (va_pl_set (X := []) hD ha.1 hk).trans (va_pl_congr (zF_pl ha.2 hlt hf v))
  rw [e] at hP1 hD1
  exact kk H1 locs1 ls hP1 hD1 hS1 hl
theorem r_iald (F : CallFix p m c cc nL s args Ts own) (G : zG N0 t0 D cy s s.heap) {a : Nat} {i : Int32} (ha : zA S a 14) (hin : vp_in i (zn S a)) (hdg : decode cc pc = .ok (.iaload, 1)) (kk : zW p l e R s m args below meth c Q N0 D cy nL cells slots S lv (pc + 1) (.int (zri S a i.toNatClampNeg) :: rest)) : zW p l e R s m args below meth c Q N0 D cy nL cells slots S lv (pc) (.int i :: .ref a :: rest) := by
  intro H locs ls hP hD hS hl
  obtain ⟨q0, -, he⟩ := zGa (cy := cy) (j := 1) ha rfl
  rw [zar_i (by decide) (by decide)] at he
  exact va_iald F.1 F.2.1 G.2.1 hP q0 1 he rfl hin hdg (kk H locs ls hP hD hS hl)
theorem r_bald (F : CallFix p m c cc nL s args Ts own) (G : zG N0 t0 D cy s s.heap) {a : Nat} {i : Int32} (ha : zA S a 13) (hin : vp_in i (zn S a)) (hdg : decode cc pc = .ok (.baload, 1)) (kk : zW p l e R s m args below meth c Q N0 D cy nL cells slots S lv (pc + 1) (.int (zri S a i.toNatClampNeg) :: rest)) : zW p l e R s m args below meth c Q N0 D cy nL cells slots S lv (pc) (.int i :: .ref a :: rest) := by
  intro H locs ls hP hD hS hl
  obtain ⟨q0, -, he⟩ := zGa (cy := cy) (j := 0) ha rfl
  rw [zar_i (by decide) (by decide)] at he
  exact va_bald F.1 F.2.1 G.2.1 hP q0 0 he rfl hin hdg (kk H locs ls hP hD hS hl)
theorem r_zald (F : CallFix p m c cc nL s args Ts own) (G : zG N0 t0 D cy s s.heap) {a : Nat} {i : Int32} (ha : zA S a 16) (hin : vp_in i (zn S a)) (hdg : decode cc pc = .ok (.baload, 1)) (kk : zW p l e R s m args below meth c Q N0 D cy nL cells slots S lv (pc + 1) (.int (zri S a i.toNatClampNeg) :: rest)) : zW p l e R s m args below meth c Q N0 D cy nL cells slots S lv (pc) (.int i :: .ref a :: rest) := by
  intro H locs ls hP hD hS hl
  obtain ⟨q0, -, he⟩ := zGa (cy := cy) (j := 3) ha rfl
  rw [zar_i (by decide) (by decide)] at he
  exact va_zald F.1 F.2.1 G.2.1 hP q0 3 he rfl hin hdg (kk H locs ls hP hD hS hl)
theorem r_lald (F : CallFix p m c cc nL s args Ts own) (G : zG N0 t0 D cy s s.heap) {a : Nat} {i : Int32} (ha : zA S a 15) (hin : vp_in i (zn S a)) (hdg : decode cc pc = .ok (.laload, 1)) (kk : zW p l e R s m args below meth c Q N0 D cy nL cells slots S lv (pc + 1) (.long (zrj S a i.toNatClampNeg) :: rest)) : zW p l e R s m args below meth c Q N0 D cy nL cells slots S lv (pc) (.int i :: .ref a :: rest) := by
  intro H locs ls hP hD hS hl
  obtain ⟨q0, -, he⟩ := zGa (cy := cy) (j := 2) ha rfl
  rw [zar_j] at he
  exact va_lald F.1 F.2.1 G.2.1 hP q0 2 he rfl hin hdg (kk H locs ls hP hD hS hl)
theorem r_iast (F : CallFix p m c cc nL s args Ts own) (G : zG N0 t0 D cy s s.heap) {a : Nat} {i : Int32} {x : Int32} (ha : zA S a 14) (hin : vp_in i (zn S a)) (hdg : decode cc pc = .ok (.iastore, 1)) (kk : zW p l e R s m args below meth c Q N0 D cy nL cells slots (zRi S a (upd (zri S a) i.toNatClampNeg x)) lv (pc + 1) (rest)) : zW p l e R s m args below meth c Q N0 D cy nL cells slots S lv (pc) (.int x :: .int i :: .ref a :: rest) := by
  intro H locs ls hP hD hS hl
  obtain ⟨q0, hk, he⟩ := zGa (cy := cy) (j := 1) ha rfl
  rw [zar_i (by decide) (by decide)] at he
  refine va_iast F.1 F.2.1 G.2.1 hP hD hS q0 1 he rfl hin hdg (fun H1 locs1 hP1 hD1 hS1 => ?_)
  have e : (zP cy S).set q0 (a, .inl (cy 1, zn S a, .inl (upd (zri S a) i.toNatClampNeg x))) = zP cy (zRi S a (upd (zri S a) i.toNatClampNeg x)) := (va_pl_set (X := []) hD ha.1 hk).trans (va_pl_congr (zF_ri ha.2 rfl (by decide) (by decide) _))
  rw [e] at hP1 hD1
  exact kk H1 locs1 ls hP1 hD1 hS1 hl
theorem r_bast (F : CallFix p m c cc nL s args Ts own) (G : zG N0 t0 D cy s s.heap) {a : Nat} {i : Int32} {x : Int32} (ha : zA S a 13) (hin : vp_in i (zn S a)) (hdg : decode cc pc = .ok (.bastore, 1)) (kk : zW p l e R s m args below meth c Q N0 D cy nL cells slots (zRi S a (upd (zri S a) i.toNatClampNeg (vp_nar .byte x))) lv (pc + 1) (rest)) : zW p l e R s m args below meth c Q N0 D cy nL cells slots S lv (pc) (.int x :: .int i :: .ref a :: rest) := by
  intro H locs ls hP hD hS hl
  obtain ⟨q0, hk, he⟩ := zGa (cy := cy) (j := 0) ha rfl
  rw [zar_i (by decide) (by decide)] at he
  refine va_bast F.1 F.2.1 G.2.1 hP hD hS q0 0 he rfl hin hdg (fun H1 locs1 hP1 hD1 hS1 => ?_)
  have e : (zP cy S).set q0 (a, .inl (cy 0, zn S a, .inl (upd (zri S a) i.toNatClampNeg (vp_nar .byte x)))) = zP cy (zRi S a (upd (zri S a) i.toNatClampNeg (vp_nar .byte x))) := (va_pl_set (X := []) hD ha.1 hk).trans (va_pl_congr (zF_ri ha.2 rfl (by decide) (by decide) _))
  rw [e] at hP1 hD1
  exact kk H1 locs1 ls hP1 hD1 hS1 hl
theorem r_zast (F : CallFix p m c cc nL s args Ts own) (G : zG N0 t0 D cy s s.heap) {a : Nat} {i : Int32} {x : Int32} (ha : zA S a 16) (hin : vp_in i (zn S a)) (hdg : decode cc pc = .ok (.bastore, 1)) (kk : zW p l e R s m args below meth c Q N0 D cy nL cells slots (zRi S a (upd (zri S a) i.toNatClampNeg (vp_nar .boolean x))) lv (pc + 1) (rest)) : zW p l e R s m args below meth c Q N0 D cy nL cells slots S lv (pc) (.int x :: .int i :: .ref a :: rest) := by
  intro H locs ls hP hD hS hl
  obtain ⟨q0, hk, he⟩ := zGa (cy := cy) (j := 3) ha rfl
  rw [zar_i (by decide) (by decide)] at he
  refine va_zast F.1 F.2.1 G.2.1 hP hD hS q0 3 he rfl hin hdg (fun H1 locs1 hP1 hD1 hS1 => ?_)
  have e : (zP cy S).set q0 (a, .inl (cy 3, zn S a, .inl (upd (zri S a) i.toNatClampNeg (vp_nar .boolean x)))) = zP cy (zRi S a (upd (zri S a) i.toNatClampNeg (vp_nar .boolean x))) := (va_pl_set (X := []) hD ha.1 hk).trans (va_pl_congr (zF_ri ha.2 rfl (by decide) (by decide) _))
  rw [e] at hP1 hD1
  exact kk H1 locs1 ls hP1 hD1 hS1 hl
theorem r_last (F : CallFix p m c cc nL s args Ts own) (G : zG N0 t0 D cy s s.heap) {a : Nat} {i : Int32} {x : Int64} (ha : zA S a 15) (hin : vp_in i (zn S a)) (hdg : decode cc pc = .ok (.lastore, 1)) (kk : zW p l e R s m args below meth c Q N0 D cy nL cells slots (zRj S a (vp_updL (zrj S a) i.toNatClampNeg x)) lv (pc + 1) (rest)) : zW p l e R s m args below meth c Q N0 D cy nL cells slots S lv (pc) (.long x :: .int i :: .ref a :: rest) := by
  intro H locs ls hP hD hS hl
  obtain ⟨q0, hk, he⟩ := zGa (cy := cy) (j := 2) ha rfl
  rw [zar_j] at he
  refine va_last F.1 F.2.1 G.2.1 hP hD hS q0 2 he rfl hin hdg (fun H1 locs1 hP1 hD1 hS1 => ?_)
  have e : (zP cy S).set q0 (a, .inl (cy 2, zn S a, .inr (.inl (vp_updL (zrj S a) i.toNatClampNeg x)))) = zP cy (zRj S a (vp_updL (zrj S a) i.toNatClampNeg x)) := (va_pl_set (X := []) hD ha.1 hk).trans (va_pl_congr (zF_rj ha.2 rfl rfl _))
  rw [e] at hP1 hD1
  exact kk H1 locs1 ls hP1 hD1 hS1 hl
theorem r_aldR (F : CallFix p m c cc nL s args Ts own) (G : zG N0 t0 D cy s s.heap) {a : Nat} {i : Int32} (ha : zA S a 17) (hin : vp_in i (zn S a)) (hdg : decode cc pc = .ok (.aaload, 1)) (kk : zW p l e R s m args below meth c Q N0 D cy nL cells slots S lv (pc + 1) (va_rf (zrq S a i.toNatClampNeg) :: rest)) : zW p l e R s m args below meth c Q N0 D cy nL cells slots S lv (pc) (.int i :: .ref a :: rest) := by
  intro H locs ls hP hD hS hl
  obtain ⟨q0, -, he⟩ := zGa (cy := cy) (j := 4) ha rfl
  rw [zar_q (by decide)] at he
  exact va_aldq F.1 F.2.1 G.2.1 hP q0 4 he rfl hin hdg (kk H locs ls hP hD hS hl)
theorem r_aldS (F : CallFix p m c cc nL s args Ts own) (G : zG N0 t0 D cy s s.heap) {a : Nat} {i : Int32} (ha : zA S a 18) (hin : vp_in i (zn S a)) (hdg : decode cc pc = .ok (.aaload, 1)) (kk : zW p l e R s m args below meth c Q N0 D cy nL cells slots S lv (pc + 1) (va_rf (zrq S a i.toNatClampNeg) :: rest)) : zW p l e R s m args below meth c Q N0 D cy nL cells slots S lv (pc) (.int i :: .ref a :: rest) := by
  intro H locs ls hP hD hS hl
  obtain ⟨q0, -, he⟩ := zGa (cy := cy) (j := 5) ha rfl
  rw [zar_q (by decide)] at he
  exact va_aldq F.1 F.2.1 G.2.1 hP q0 5 he rfl hin hdg (kk H locs ls hP hD hS hl)
theorem r_aldO (F : CallFix p m c cc nL s args Ts own) (G : zG N0 t0 D cy s s.heap) {a : Nat} {i : Int32} (ha : zA S a 19) (hin : vp_in i (zn S a)) (hdg : decode cc pc = .ok (.aaload, 1)) (kk : zW p l e R s m args below meth c Q N0 D cy nL cells slots S lv (pc + 1) (va_rf (zrq S a i.toNatClampNeg) :: rest)) : zW p l e R s m args below meth c Q N0 D cy nL cells slots S lv (pc) (.int i :: .ref a :: rest) := by
  intro H locs ls hP hD hS hl
  obtain ⟨q0, -, he⟩ := zGa (cy := cy) (j := 6) ha rfl
  rw [zar_q (by decide)] at he
  exact va_aldq F.1 F.2.1 G.2.1 hP q0 6 he rfl hin hdg (kk H locs ls hP hD hS hl)
theorem r_astN_R (F : CallFix p m c cc nL s args Ts own) (G : zG N0 t0 D cy s s.heap) {a : Nat} {i : Int32} (ha : zA S a 17) (hin : vp_in i (zn S a)) (hdg : decode cc pc = .ok (.aastore, 1)) (kk : zW p l e R s m args below meth c Q N0 D cy nL cells slots (zRq S a (va_up (zrq S a) i.toNatClampNeg none)) lv (pc + 1) (rest)) : zW p l e R s m args below meth c Q N0 D cy nL cells slots S lv (pc) (.null :: .int i :: .ref a :: rest) := by
  intro H locs ls hP hD hS hl
  obtain ⟨q0, hk, he⟩ := zGa (cy := cy) (j := 4) ha rfl
  rw [zar_q (by decide)] at he
  refine va_astqN F.1 F.2.1 G.2.1 hP hD hS q0 4 he rfl hin hdg (fun H1 locs1 hP1 hD1 hS1 => ?_)
  have e : (zP cy S).set q0 (a, .inl (cy 4, zn S a, .inr (.inr (.inr (.inr (va_up (zrq S a) i.toNatClampNeg none)))))) = zP cy (zRq S a (va_up (zrq S a) i.toNatClampNeg none)) := (va_pl_set (X := []) hD ha.1 hk).trans (va_pl_congr (zF_rq ha.2 rfl (by decide) _))
  rw [e] at hP1 hD1
  exact kk H1 locs1 ls hP1 hD1 hS1 hl
theorem r_astN_S (F : CallFix p m c cc nL s args Ts own) (G : zG N0 t0 D cy s s.heap) {a : Nat} {i : Int32} (ha : zA S a 18) (hin : vp_in i (zn S a)) (hdg : decode cc pc = .ok (.aastore, 1)) (kk : zW p l e R s m args below meth c Q N0 D cy nL cells slots (zRq S a (va_up (zrq S a) i.toNatClampNeg none)) lv (pc + 1) (rest)) : zW p l e R s m args below meth c Q N0 D cy nL cells slots S lv (pc) (.null :: .int i :: .ref a :: rest) := by
  intro H locs ls hP hD hS hl
  obtain ⟨q0, hk, he⟩ := zGa (cy := cy) (j := 5) ha rfl
  rw [zar_q (by decide)] at he
  refine va_astqN F.1 F.2.1 G.2.1 hP hD hS q0 5 he rfl hin hdg (fun H1 locs1 hP1 hD1 hS1 => ?_)
  have e : (zP cy S).set q0 (a, .inl (cy 5, zn S a, .inr (.inr (.inr (.inr (va_up (zrq S a) i.toNatClampNeg none)))))) = zP cy (zRq S a (va_up (zrq S a) i.toNatClampNeg none)) := (va_pl_set (X := []) hD ha.1 hk).trans (va_pl_congr (zF_rq ha.2 rfl (by decide) _))
  rw [e] at hP1 hD1
  exact kk H1 locs1 ls hP1 hD1 hS1 hl
theorem r_astN_O (F : CallFix p m c cc nL s args Ts own) (G : zG N0 t0 D cy s s.heap) {a : Nat} {i : Int32} (ha : zA S a 19) (hin : vp_in i (zn S a)) (hdg : decode cc pc = .ok (.aastore, 1)) (kk : zW p l e R s m args below meth c Q N0 D cy nL cells slots (zRq S a (va_up (zrq S a) i.toNatClampNeg none)) lv (pc + 1) (rest)) : zW p l e R s m args below meth c Q N0 D cy nL cells slots S lv (pc) (.null :: .int i :: .ref a :: rest) := by
  intro H locs ls hP hD hS hl
  obtain ⟨q0, hk, he⟩ := zGa (cy := cy) (j := 6) ha rfl
  rw [zar_q (by decide)] at he
  refine va_astqN F.1 F.2.1 G.2.1 hP hD hS q0 6 he rfl hin hdg (fun H1 locs1 hP1 hD1 hS1 => ?_)
  have e : (zP cy S).set q0 (a, .inl (cy 6, zn S a, .inr (.inr (.inr (.inr (va_up (zrq S a) i.toNatClampNeg none)))))) = zP cy (zRq S a (va_up (zrq S a) i.toNatClampNeg none)) := (va_pl_set (X := []) hD ha.1 hk).trans (va_pl_congr (zF_rq ha.2 rfl (by decide) _))
  rw [e] at hP1 hD1
  exact kk H1 locs1 ls hP1 hD1 hS1 hl
theorem r_ast_R (F : CallFix p m c cc nL s args Ts own) (G : zG N0 t0 D cy s s.heap) {a v : Nat} {i : Int32} (ha : zA S a 17) (hv : zA S v 7) (hin : vp_in i (zn S a)) (hdg : decode cc pc = .ok (.aastore, 1)) (kk : zW p l e R s m args below meth c Q N0 D cy nL cells slots (zRq S a (va_up (zrq S a) i.toNatClampNeg (some v))) lv (pc + 1) (rest)) : zW p l e R s m args below meth c Q N0 D cy nL cells slots S lv (pc) (.ref v :: .int i :: .ref a :: rest) := by
  intro H locs ls hP hD hS hl
  obtain ⟨q0, hk, he⟩ := zGa (cy := cy) (j := 4) ha rfl
  obtain ⟨q1, -, hv1⟩ := zGo (cy := cy) hv (by decide)
  rw [zar_q (by decide)] at he
  refine va_astq F.1 F.2.1 G.2.1 hP hD hS q0 4 q1 7 he rfl hv1 rfl hin hdg (fun H1 locs1 hP1 hD1 hS1 => ?_)
  have e : (zP cy S).set q0 (a, .inl (cy 4, zn S a, .inr (.inr (.inr (.inr (va_up (zrq S a) i.toNatClampNeg (some v))))))) = zP cy (zRq S a (va_up (zrq S a) i.toNatClampNeg (some v))) := (va_pl_set (X := []) hD ha.1 hk).trans (va_pl_congr (zF_rq ha.2 rfl (by decide) _))
  rw [e] at hP1 hD1
  exact kk H1 locs1 ls hP1 hD1 hS1 hl
theorem r_ast_S (F : CallFix p m c cc nL s args Ts own) (G : zG N0 t0 D cy s s.heap) {a v : Nat} {i : Int32} (ha : zA S a 18) (hv : zA S v 9) (hin : vp_in i (zn S a)) (hdg : decode cc pc = .ok (.aastore, 1)) (kk : zW p l e R s m args below meth c Q N0 D cy nL cells slots (zRq S a (va_up (zrq S a) i.toNatClampNeg (some v))) lv (pc + 1) (rest)) : zW p l e R s m args below meth c Q N0 D cy nL cells slots S lv (pc) (.ref v :: .int i :: .ref a :: rest) := by
  intro H locs ls hP hD hS hl
  obtain ⟨q0, hk, he⟩ := zGa (cy := cy) (j := 5) ha rfl
  obtain ⟨q1, -, hv1⟩ := zGo (cy := cy) hv (by decide)
  rw [zar_q (by decide)] at he
  refine va_astq F.1 F.2.1 G.2.1 hP hD hS q0 5 q1 9 he rfl hv1 rfl hin hdg (fun H1 locs1 hP1 hD1 hS1 => ?_)
  have e : (zP cy S).set q0 (a, .inl (cy 5, zn S a, .inr (.inr (.inr (.inr (va_up (zrq S a) i.toNatClampNeg (some v))))))) = zP cy (zRq S a (va_up (zrq S a) i.toNatClampNeg (some v))) := (va_pl_set (X := []) hD ha.1 hk).trans (va_pl_congr (zF_rq ha.2 rfl (by decide) _))
  rw [e] at hP1 hD1
  exact kk H1 locs1 ls hP1 hD1 hS1 hl
theorem r_ast_O (F : CallFix p m c cc nL s args Ts own) (G : zG N0 t0 D cy s s.heap) {a v ci : Nat} {r : vw_C} {i : Int32} (ha : zA S a 19) (hv : zA S v ci) (hlt : ci < 13) (hc : vwCl[ci]? = some r) (hca : (r.1, "java/lang/Object") ∈ zCast) (hin : vp_in i (zn S a)) (hdg : decode cc pc = .ok (.aastore, 1)) (kk : zW p l e R s m args below meth c Q N0 D cy nL cells slots (zRq S a (va_up (zrq S a) i.toNatClampNeg (some v))) lv (pc + 1) (rest)) : zW p l e R s m args below meth c Q N0 D cy nL cells slots S lv (pc) (.ref v :: .int i :: .ref a :: rest) := by
  intro H locs ls hP hD hS hl
  obtain ⟨q0, hk, he⟩ := zGa (cy := cy) (j := 6) ha rfl
  obtain ⟨q1, -, hv1⟩ := zGo (cy := cy) hv hlt
  rw [zar_q (by decide)] at he
  refine va_astqO F.1 F.2.1 G.2.1 hP hD hS q0 6 q1 ci he rfl (G.2.2.1 _ hca) hv1 hc hin hdg (fun H1 locs1 hP1 hD1 hS1 => ?_)
  have e : (zP cy S).set q0 (a, .inl (cy 6, zn S a, .inr (.inr (.inr (.inr (va_up (zrq S a) i.toNatClampNeg (some v))))))) = zP cy (zRq S a (va_up (zrq S a) i.toNatClampNeg (some v))) := (va_pl_set (X := []) hD ha.1 hk).trans (va_pl_congr (zF_rq ha.2 rfl (by decide) _))
  rw [e] at hP1 hD1
  exact kk H1 locs1 ls hP1 hD1 hS1 hl
theorem r_alen (F : CallFix p m c cc nL s args Ts own) (G : zG N0 t0 D cy s s.heap) {a k j : Nat} {ty : FieldType} (ha : zA S a k) (hk : k = 13 + j) (ht : (zty cy)[j]? = some (cy j, ty)) (hdg : decode cc pc = .ok (.arraylength, 1)) (kk : zW p l e R s m args below meth c Q N0 D cy nL cells slots S lv (pc + 1) (.int (nI (zn S a)) :: rest)) : zW p l e R s m args below meth c Q N0 D cy nL cells slots S lv (pc) (.ref a :: rest) := by
  intro H locs ls hP hD hS hl
  obtain ⟨q0, -, he⟩ := zGa (cy := cy) (j := j) ha hk
  exact va_alen F.1 F.2.1 G.2.1 hP q0 j he ht rfl hdg (kk H locs ls hP hD hS hl)
theorem r_alenT (F : CallFix p m c cc nL s args Ts own) (G : zG N0 t0 D cy s s.heap) (hdg : decode cc pc = .ok (.arraylength, 1)) (kk : zW p l e R s m args below meth c Q N0 D cy nL cells slots S lv (pc + 1) (.int 0 :: rest)) : zW p l e R s m args below meth c Q N0 D cy nL cells slots S lv (pc) (.ref t0 :: rest) := by
  intro H locs ls hP hD hS hl
  exact va_tlen F.1 F.2.1 (A := zN N0) G.2.2.2.2.2.2.2.2.2.2.2.1 hS rfl hdg (kk H locs ls hP hD hS hl)
theorem r_gets (F : CallFix p m c cc nL s args Ts own) (G : zG N0 t0 D cy s s.heap) {idx : Nat} (hlk : Cond.fieldLink own idx RJx4a65c zED zOA ∈ Ts) (hdg : decode cc pc = .ok (.getstatic idx, 3)) (kk : zW p l e R s m args below meth c Q N0 D cy nL cells slots S lv (pc + 3) (.ref t0 :: rest)) : zW p l e R s m args below meth c Q N0 D cy nL cells slots S lv (pc) (rest) := by
  intro H locs ls hP hD hS hl
  exact va_gets F.1 F.2.1 G.2.2.2.2.2.2.2.2.2.2.1 hS F.2.2.2.1 (F.2.2.2.2 _ hlk) (fun _ h9 => h9) hdg (kk H locs ls hP hD hS hl)
theorem zhA (G : zG N0 t0 D cy s s.heap) : ∀ q, s.heap.size ≤ q → zN N0 q := fun q h => Nat.le_trans G.1 h
theorem r_new (F : CallFix p m c cc nL s args Ts own) (G : zG N0 t0 D cy s s.heap) {ci N idx : Nat} {C : String} {T : u_T} {ty0 : Nat → FieldType} (hc : vwCl[ci]? = some (C, T, N)) (hlt : ci < 13) (hin : ∀ w ∈ u_ws C T N, w ∈ Ts) (hty : ∀ k, k < N → parseFieldDescriptor (T k).2.2.1 = some (ty0 k)) (hdv : ∀ j, j < N → defaultValue (ty0 j) = vp_V ((zfl ci).map (fun r => if r.1 = 0 then Value.int 0 else if r.1 = 1 then Value.null else Value.long 0)) j) (hcl : Cond.classLink own idx C ∈ Ts) (hit : Cond.instantiable C N ∈ Ts) (hini : Cond.initialized C ∈ Ts) (h1 : cells + 1 ≤ R.cells) (h2 : slots + N ≤ R.slots) (hdg : decode cc pc = .ok (.new idx, 3)) (kk : ∀ q, q ∉ zL S → zW p l e R s m args below meth c Q N0 D cy nL (cells + 1) (slots + N) (zNo S q ci) lv (pc + 3) (.ref q :: rest)) : zW p l e R s m args below meth c Q N0 D cy nL cells slots S lv (pc) (rest) := by
  intro H locs ls hP hD hS hl
  refine va_new (D := D) (ci := ci) F.1 F.2.1 F.2.2.2.2 hin ty0 hty F.2.2.2.1 (F.2.2.2.2 _ hcl) (F.2.2.2.2 _ hit) (F.2.2.2.2 _ hini) G.2.1 hP hD hS (zhA G) hc hdv h1 h2 hdg (fun q H1 hP1 hD1 hS1 => ?_)
  have hq : q ∉ zL S := va_pl_fresh2 (X := []) hD1
  have e : zP cy S ++ [(q, .inr (ci, (zfl ci).map (fun r => if r.1 = 0 then Value.int 0 else if r.1 = 1 then Value.null else Value.long 0)))] = zP cy (zNo S q ci) := (va_pl_push hq).trans (va_pl_congr (zF_no hlt))
  rw [e] at hP1 hD1
  exact kk q hq H1 locs ls hP1 hD1 hS1 hl
theorem r_newB (F : CallFix p m c cc nL s args Ts own) (G : zG N0 t0 D cy s s.heap) {n : Int32} {n' : Nat} (harr : Cond.arrayClass .byte ∈ Ts) (hn : ¬ n < 0) (hN : n.toNatClampNeg = n') (hby : n' * componentBytes .byte ≤ 536870912) (h1 : cells + 1 ≤ R.cells) (h2 : slots + n' ≤ R.slots) (hdg : decode cc pc = .ok (.newarray .byte, 2)) (kk : ∀ q, q ∉ zL S → zW p l e R s m args below meth c Q N0 D cy nL (cells + 1) (slots + n') (zNa S q 13 n') lv (pc + 2) (.ref q :: rest)) : zW p l e R s m args below meth c Q N0 D cy nL cells slots S lv (pc) (.int n :: rest) := by
  intro H locs ls hP hD hS hl
  refine va_newa (D := D) (a0 := (n', .inl (fun _ => 0))) (atype := .byte) F.1 F.2.1 (F.2.2.2.2 _ harr) rfl G.2.1 hP hD hS (zhA G) (fun cA => rfl) hn hN hby h1 h2 hdg (fun q cA H1 hK1 hP1 hD1 hS1 => ?_)
  have ec : cA = cy 0 := Option.some.inj ((hK1.2 7 (cA, .byte) rfl).2.symm.trans (G.2.1.2 0 (cy 0, .byte) rfl).2)
  subst ec
  have hq : q ∉ zL S := va_pl_fresh2 (X := []) hD1
  have e : zP cy S ++ [(q, .inl (cy 0, n', .inl (fun _ => 0)))] = zP cy (zNa S q 13 n') := (va_pl_push hq).trans (va_pl_congr (zF_na (j := 0) rfl))
  rw [e] at hP1 hD1
  exact kk q hq H1 locs ls hP1 hD1 hS1 hl
theorem r_newI (F : CallFix p m c cc nL s args Ts own) (G : zG N0 t0 D cy s s.heap) {n : Int32} {n' : Nat} (harr : Cond.arrayClass .int ∈ Ts) (hn : ¬ n < 0) (hN : n.toNatClampNeg = n') (hby : n' * componentBytes .int ≤ 536870912) (h1 : cells + 1 ≤ R.cells) (h2 : slots + n' ≤ R.slots) (hdg : decode cc pc = .ok (.newarray .int, 2)) (kk : ∀ q, q ∉ zL S → zW p l e R s m args below meth c Q N0 D cy nL (cells + 1) (slots + n') (zNa S q 14 n') lv (pc + 2) (.ref q :: rest)) : zW p l e R s m args below meth c Q N0 D cy nL cells slots S lv (pc) (.int n :: rest) := by
  intro H locs ls hP hD hS hl
  refine va_newa (D := D) (a0 := (n', .inl (fun _ => 0))) (atype := .int) F.1 F.2.1 (F.2.2.2.2 _ harr) rfl G.2.1 hP hD hS (zhA G) (fun cA => rfl) hn hN hby h1 h2 hdg (fun q cA H1 hK1 hP1 hD1 hS1 => ?_)
  have ec : cA = cy 1 := Option.some.inj ((hK1.2 7 (cA, .int) rfl).2.symm.trans (G.2.1.2 1 (cy 1, .int) rfl).2)
  subst ec
  have hq : q ∉ zL S := va_pl_fresh2 (X := []) hD1
  have e : zP cy S ++ [(q, .inl (cy 1, n', .inl (fun _ => 0)))] = zP cy (zNa S q 14 n') := (va_pl_push hq).trans (va_pl_congr (zF_na (j := 1) rfl))
  rw [e] at hP1 hD1
  exact kk q hq H1 locs ls hP1 hD1 hS1 hl
theorem r_newJ (F : CallFix p m c cc nL s args Ts own) (G : zG N0 t0 D cy s s.heap) {n : Int32} {n' : Nat} (harr : Cond.arrayClass .long ∈ Ts) (hn : ¬ n < 0) (hN : n.toNatClampNeg = n') (hby : n' * componentBytes .long ≤ 536870912) (h1 : cells + 1 ≤ R.cells) (h2 : slots + n' ≤ R.slots) (hdg : decode cc pc = .ok (.newarray .long, 2)) (kk : ∀ q, q ∉ zL S → zW p l e R s m args below meth c Q N0 D cy nL (cells + 1) (slots + n') (zNa S q 15 n') lv (pc + 2) (.ref q :: rest)) : zW p l e R s m args below meth c Q N0 D cy nL cells slots S lv (pc) (.int n :: rest) := by
  intro H locs ls hP hD hS hl
  refine va_newa (D := D) (a0 := (n', .inr (.inl (fun _ => 0)))) (atype := .long) F.1 F.2.1 (F.2.2.2.2 _ harr) rfl G.2.1 hP hD hS (zhA G) (fun cA => rfl) hn hN hby h1 h2 hdg (fun q cA H1 hK1 hP1 hD1 hS1 => ?_)
  have ec : cA = cy 2 := Option.some.inj ((hK1.2 7 (cA, .long) rfl).2.symm.trans (G.2.1.2 2 (cy 2, .long) rfl).2)
  subst ec
  have hq : q ∉ zL S := va_pl_fresh2 (X := []) hD1
  have e : zP cy S ++ [(q, .inl (cy 2, n', .inr (.inl (fun _ => 0))))] = zP cy (zNa S q 15 n') := (va_pl_push hq).trans (va_pl_congr (zF_na (j := 2) rfl))
  rw [e] at hP1 hD1
  exact kk q hq H1 locs ls hP1 hD1 hS1 hl
theorem r_newZ (F : CallFix p m c cc nL s args Ts own) (G : zG N0 t0 D cy s s.heap) {n : Int32} {n' : Nat} (harr : Cond.arrayClass .boolean ∈ Ts) (hn : ¬ n < 0) (hN : n.toNatClampNeg = n') (hby : n' * componentBytes .boolean ≤ 536870912) (h1 : cells + 1 ≤ R.cells) (h2 : slots + n' ≤ R.slots) (hdg : decode cc pc = .ok (.newarray .boolean, 2)) (kk : ∀ q, q ∉ zL S → zW p l e R s m args below meth c Q N0 D cy nL (cells + 1) (slots + n') (zNa S q 16 n') lv (pc + 2) (.ref q :: rest)) : zW p l e R s m args below meth c Q N0 D cy nL cells slots S lv (pc) (.int n :: rest) := by
  intro H locs ls hP hD hS hl
  refine va_newa (D := D) (a0 := (n', .inl (fun _ => 0))) (atype := .boolean) F.1 F.2.1 (F.2.2.2.2 _ harr) rfl G.2.1 hP hD hS (zhA G) (fun cA => rfl) hn hN hby h1 h2 hdg (fun q cA H1 hK1 hP1 hD1 hS1 => ?_)
  have ec : cA = cy 3 := Option.some.inj ((hK1.2 7 (cA, .boolean) rfl).2.symm.trans (G.2.1.2 3 (cy 3, .boolean) rfl).2)
  subst ec
  have hq : q ∉ zL S := va_pl_fresh2 (X := []) hD1
  have e : zP cy S ++ [(q, .inl (cy 3, n', .inl (fun _ => 0)))] = zP cy (zNa S q 16 n') := (va_pl_push hq).trans (va_pl_congr (zF_na (j := 3) rfl))
  rw [e] at hP1 hD1
  exact kk q hq H1 locs ls hP1 hD1 hS1 hl
theorem r_newR (F : CallFix p m c cc nL s args Ts own) (G : zG N0 t0 D cy s s.heap) {n : Int32} {n' idx : Nat} (hcl : Cond.classLink own idx "ObjectLinker$Routine" ∈ Ts) (hn : ¬ n < 0) (hN : n.toNatClampNeg = n') (hby : n' * 4 ≤ 536870912) (h1 : cells + 1 ≤ R.cells) (h2 : slots + n' ≤ R.slots) (hdg : decode cc pc = .ok (.anewarray idx, 3)) (kk : ∀ q, q ∉ zL S → zW p l e R s m args below meth c Q N0 D cy nL (cells + 1) (slots + n') (zNa S q 17 n') lv (pc + 3) (.ref q :: rest)) : zW p l e R s m args below meth c Q N0 D cy nL cells slots S lv (pc) (.int n :: rest) := by
  intro H locs ls hP hD hS hl
  refine va_newq (D := D) F.1 F.2.1 F.2.2.2.1 (F.2.2.2.2 _ hcl) (G.2.2.2.2.2.1 RX6 (by decide)) G.2.1 hP hD hS (zhA G) hn hN hby h1 h2 hdg (fun q cA H1 hK1 hP1 hD1 hS1 => ?_)
  obtain ⟨_, _, _, _, _, e1⟩ := (hK1.2 7 (cA, .object "ObjectLinker$Routine") rfl).2
  obtain ⟨_, _, _, _, _, e2⟩ := (G.2.1.2 4 (cy 4, .object "ObjectLinker$Routine") rfl).2
  have ec : cA = cy 4 := Option.some.inj (e1.symm.trans e2)
  subst ec
  have hq : q ∉ zL S := va_pl_fresh2 (X := []) hD1
  have e : zP cy S ++ [(q, .inl (cy 4, n', .inr (.inr (.inr (.inr (fun _ => none))))))] = zP cy (zNa S q 17 n') := (va_pl_push hq).trans (va_pl_congr (zF_na (j := 4) rfl))
  rw [e] at hP1 hD1
  exact kk q hq H1 locs ls hP1 hD1 hS1 hl
theorem r_newS (F : CallFix p m c cc nL s args Ts own) (G : zG N0 t0 D cy s s.heap) {n : Int32} {n' idx : Nat} (hcl : Cond.classLink own idx "ObjectLinker$Symbol" ∈ Ts) (hn : ¬ n < 0) (hN : n.toNatClampNeg = n') (hby : n' * 4 ≤ 536870912) (h1 : cells + 1 ≤ R.cells) (h2 : slots + n' ≤ R.slots) (hdg : decode cc pc = .ok (.anewarray idx, 3)) (kk : ∀ q, q ∉ zL S → zW p l e R s m args below meth c Q N0 D cy nL (cells + 1) (slots + n') (zNa S q 18 n') lv (pc + 3) (.ref q :: rest)) : zW p l e R s m args below meth c Q N0 D cy nL cells slots S lv (pc) (.int n :: rest) := by
  intro H locs ls hP hD hS hl
  refine va_newq (D := D) F.1 F.2.1 F.2.2.2.1 (F.2.2.2.2 _ hcl) (G.2.2.2.2.2.1 RX8 (by decide)) G.2.1 hP hD hS (zhA G) hn hN hby h1 h2 hdg (fun q cA H1 hK1 hP1 hD1 hS1 => ?_)
  obtain ⟨_, _, _, _, _, e1⟩ := (hK1.2 7 (cA, .object "ObjectLinker$Symbol") rfl).2
  obtain ⟨_, _, _, _, _, e2⟩ := (G.2.1.2 5 (cy 5, .object "ObjectLinker$Symbol") rfl).2
  have ec : cA = cy 5 := Option.some.inj (e1.symm.trans e2)
  subst ec
  have hq : q ∉ zL S := va_pl_fresh2 (X := []) hD1
  have e : zP cy S ++ [(q, .inl (cy 5, n', .inr (.inr (.inr (.inr (fun _ => none))))))] = zP cy (zNa S q 18 n') := (va_pl_push hq).trans (va_pl_congr (zF_na (j := 5) rfl))
  rw [e] at hP1 hD1
  exact kk q hq H1 locs ls hP1 hD1 hS1 hl
theorem r_newO (F : CallFix p m c cc nL s args Ts own) (G : zG N0 t0 D cy s s.heap) {n : Int32} {n' idx : Nat} (hcl : Cond.classLink own idx "java/lang/Object" ∈ Ts) (hn : ¬ n < 0) (hN : n.toNatClampNeg = n') (hby : n' * 4 ≤ 536870912) (h1 : cells + 1 ≤ R.cells) (h2 : slots + n' ≤ R.slots) (hdg : decode cc pc = .ok (.anewarray idx, 3)) (kk : ∀ q, q ∉ zL S → zW p l e R s m args below meth c Q N0 D cy nL (cells + 1) (slots + n') (zNa S q 19 n') lv (pc + 3) (.ref q :: rest)) : zW p l e R s m args below meth c Q N0 D cy nL cells slots S lv (pc) (.int n :: rest) := by
  intro H locs ls hP hD hS hl
  refine va_newq (D := D) F.1 F.2.1 F.2.2.2.1 (F.2.2.2.2 _ hcl) (G.2.2.2.2.2.1 "java/lang/Object" (by decide)) G.2.1 hP hD hS (zhA G) hn hN hby h1 h2 hdg (fun q cA H1 hK1 hP1 hD1 hS1 => ?_)
  obtain ⟨_, _, _, _, _, e1⟩ := (hK1.2 7 (cA, .object "java/lang/Object") rfl).2
  obtain ⟨_, _, _, _, _, e2⟩ := (G.2.1.2 6 (cy 6, .object "java/lang/Object") rfl).2
  have ec : cA = cy 6 := Option.some.inj (e1.symm.trans e2)
  subst ec
  have hq : q ∉ zL S := va_pl_fresh2 (X := []) hD1
  have e : zP cy S ++ [(q, .inl (cy 6, n', .inr (.inr (.inr (.inr (fun _ => none))))))] = zP cy (zNa S q 19 n') := (va_pl_push hq).trans (va_pl_congr (zF_na (j := 6) rfl))
  rw [e] at hP1 hD1
  exact kk q hq H1 locs ls hP1 hD1 hS1 hl
end ZH
