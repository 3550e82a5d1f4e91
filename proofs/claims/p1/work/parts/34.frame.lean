section ZQ
variable {p : Program} {l : Launch} {e : Env} {R : Room} {s : State} {m : MethodId} {args : Array Value} {below : List Frame} {meth : Method} {c : Code} {Q : State → Prop} {N0 t0 : Nat} {D : va_G} {cy : Nat → ClassId} {cc : ByteArray} {nL cells slots : Nat} {Ts : List Cond} {own : String} {S : zS} {lv : List (Nat × Value)} {pc : Nat} {rest : List Value}
theorem r_getS (F : CallFix p m c cc nL s args Ts own) (G : zG N0 t0 D cy s s.heap) {ci k id idx a N : Nat} {C ref : String} {T : u_T} {b : Nat} (hc : vwCl[ci]? = some (C, T, N)) (hlt : ci < 13) (hkN : k < N) (hf : (zfl ci)[k]? = some (1, id)) (hin : ∀ w ∈ u_ws C T N, w ∈ Ts) (hlk : Cond.fieldLink own idx ref (T k).2.1 (T k).2.2.1 ∈ Ts) (hsm : ∀ x, s.fieldFound? (T k).1 (T k).2.1 (T k).2.2.1 = some x → s.fieldFound? ref (T k).2.1 (T k).2.2.1 = some x) (hdg : decode cc pc = .ok (.getfield idx, 3)) (ha : zA S a ci) (hv : zq S id a = some b) (kk : zW p l e R s m args below meth c Q N0 D cy nL cells slots S lv (pc + 3) (.ref b :: rest)) : zW p l e R s m args below meth c Q N0 D cy nL cells slots S lv (pc) (.ref a :: rest) := r_getq F G hc hlt hkN hf hin hlk hsm hdg ha (by rw [hv]; exact kk)
theorem r_getqS (F : CallFix p m c cc nL s args Ts own) (G : zG N0 t0 D cy s s.heap) {ci k id idx a N : Nat} {C ref : String} {T : u_T} {v : Option Nat} (hc : vwCl[ci]? = some (C, T, N)) (hlt : ci < 13) (hkN : k < N) (hf : (zfl ci)[k]? = some (1, id)) (hin : ∀ w ∈ u_ws C T N, w ∈ Ts) (hlk : Cond.fieldLink own idx ref (T k).2.1 (T k).2.2.1 ∈ Ts) (hsm : ∀ x, s.fieldFound? (T k).1 (T k).2.1 (T k).2.2.1 = some x → s.fieldFound? ref (T k).2.1 (T k).2.2.1 = some x) (hdg : decode cc pc = .ok (.getfield idx, 3)) (ha : zA S a ci) (hv : zq S id a = v) (kk : zW p l e R s m args below meth c Q N0 D cy nL cells slots S lv (pc + 3) (va_rf v :: rest)) : zW p l e R s m args below meth c Q N0 D cy nL cells slots S lv (pc) (.ref a :: rest) := r_getq F G hc hlt hkN hf hin hlk hsm hdg ha (by rw [hv]; exact kk)
theorem r_getiS (F : CallFix p m c cc nL s args Ts own) (G : zG N0 t0 D cy s s.heap) {ci k id idx a N : Nat} {C ref : String} {T : u_T} {v : Int32} (hc : vwCl[ci]? = some (C, T, N)) (hlt : ci < 13) (hkN : k < N) (hf : (zfl ci)[k]? = some (0, id)) (hin : ∀ w ∈ u_ws C T N, w ∈ Ts) (hlk : Cond.fieldLink own idx ref (T k).2.1 (T k).2.2.1 ∈ Ts) (hsm : ∀ x, s.fieldFound? (T k).1 (T k).2.1 (T k).2.2.1 = some x → s.fieldFound? ref (T k).2.1 (T k).2.2.1 = some x) (hdg : decode cc pc = .ok (.getfield idx, 3)) (ha : zA S a ci) (hv : zi S id a = v) (kk : zW p l e R s m args below meth c Q N0 D cy nL cells slots S lv (pc + 3) (.int v :: rest)) : zW p l e R s m args below meth c Q N0 D cy nL cells slots S lv (pc) (.ref a :: rest) := r_geti F G hc hlt hkN hf hin hlk hsm hdg ha (by rw [hv]; exact kk)
theorem r_getlS (F : CallFix p m c cc nL s args Ts own) (G : zG N0 t0 D cy s s.heap) {ci k id idx a N : Nat} {C ref : String} {T : u_T} {v : Int64} (hc : vwCl[ci]? = some (C, T, N)) (hlt : ci < 13) (hkN : k < N) (hf : (zfl ci)[k]? = some (2, id)) (hin : ∀ w ∈ u_ws C T N, w ∈ Ts) (hlk : Cond.fieldLink own idx ref (T k).2.1 (T k).2.2.1 ∈ Ts) (hsm : ∀ x, s.fieldFound? (T k).1 (T k).2.1 (T k).2.2.1 = some x → s.fieldFound? ref (T k).2.1 (T k).2.2.1 = some x) (hdg : decode cc pc = .ok (.getfield idx, 3)) (ha : zA S a ci) (hv : zl S id a = v) (kk : zW p l e R s m args below meth c Q N0 D cy nL cells slots S lv (pc + 3) (.long v :: rest)) : zW p l e R s m args below meth c Q N0 D cy nL cells slots S lv (pc) (.ref a :: rest) := r_getl F G hc hlt hkN hf hin hlk hsm hdg ha (by rw [hv]; exact kk)
end ZQ
/-- what stands at b is as it was -/
def zsm (S S' : zS) (b : Nat) : Prop := (∀ id, zi S' id b = zi S id b) ∧ (∀ id, zq S' id b = zq S id b) ∧ (∀ id, zl S' id b = zl S id b) ∧ zn S' b = zn S b ∧ zri S' b = zri S b ∧ zrj S' b = zrj S b ∧ zrq S' b = zrq S b
/-- all that was there is there, and but for X as it was -/
def zfr (S S' : zS) (X : Nat → Prop) : Prop := ∀ b ∈ zL S, b ∈ zL S' ∧ zK S' b = zK S b ∧ (¬ X b → zsm S S' b)
theorem zsm.rf {S : zS} {b : Nat} : zsm S S b := ⟨fun _ => rfl, fun _ => rfl, fun _ => rfl, rfl, rfl, rfl, rfl⟩
theorem zsm.tr {S S1 S2 : zS} {b : Nat} (h : zsm S S1 b) (k : zsm S1 S2 b) : zsm S S2 b := by
  obtain ⟨a1, a2, a3, a4, a5, a6, a7⟩ := h
  obtain ⟨b1, b2, b3, b4, b5, b6, b7⟩ := k
  exact ⟨fun i => (b1 i).trans (a1 i), fun i => (b2 i).trans (a2 i), fun i => (b3 i).trans (a3 i), b4.trans a4, b5.trans a5, b6.trans a6, b7.trans a7⟩
theorem zfr.rf {S : zS} {X : Nat → Prop} : zfr S S X := fun _ hb => ⟨hb, rfl, fun _ => zsm.rf⟩
theorem zfr.tr {S S1 S2 : zS} {X Y : Nat → Prop} (h : zfr S S1 X) (k : zfr S1 S2 Y) (hX : ∀ b ∈ zL S, Y b → X b) : zfr S S2 X := fun b hb => by
  obtain ⟨a1, a2, a3⟩ := h b hb
  obtain ⟨b1, b2, b3⟩ := k b a1
  exact ⟨b1, b2.trans a2, fun hn => (a3 hn).tr (b3 (fun y => hn (hX b hb y)))⟩
theorem zfr.al {S S' : zS} {X : Nat → Prop} {a k : Nat} (h : zfr S S' X) (ha : zA S a k) : zA S' a k := ⟨(h a ha.1).1, (h a ha.1).2.1.trans ha.2⟩
theorem zfr.sm {S S' : zS} {X : Nat → Prop} {a : Nat} (h : zfr S S' X) (ha : a ∈ zL S) (hn : ¬ X a) : zsm S S' a := (h a ha).2.2 hn
theorem zsm.pi {S : zS} {id a b : Nat} {v : Int32} (h : b ≠ a) : zsm S (zPi S id a v) b := ⟨fun j => by simp [zi, zPi, z2, h], fun j => by simp [zq, zPi, z2, h], fun j => by simp [zl, zPi, z2, h], rfl, rfl, rfl, rfl⟩
theorem zfr.pi {S S1 : zS} {X : Nat → Prop} {id a : Nat} {v : Int32} (h : zfr S S1 X) (hX : a ∈ zL S → X a) : zfr S (zPi S1 id a v) X := fun b hb => ⟨(h b hb).1, (h b hb).2.1, fun hn => ((h b hb).2.2 hn).tr (zsm.pi (fun e => hn (e ▸ hX (e ▸ hb))))⟩
theorem zsm.pq {S : zS} {id a b : Nat} {v : Option Nat} (h : b ≠ a) : zsm S (zPq S id a v) b := ⟨fun j => by simp [zi, zPq, z2, h], fun j => by simp [zq, zPq, z2, h], fun j => by simp [zl, zPq, z2, h], rfl, rfl, rfl, rfl⟩
theorem zfr.pq {S S1 : zS} {X : Nat → Prop} {id a : Nat} {v : Option Nat} (h : zfr S S1 X) (hX : a ∈ zL S → X a) : zfr S (zPq S1 id a v) X := fun b hb => ⟨(h b hb).1, (h b hb).2.1, fun hn => ((h b hb).2.2 hn).tr (zsm.pq (fun e => hn (e ▸ hX (e ▸ hb))))⟩
theorem zsm.pl {S : zS} {id a b : Nat} {v : Int64} (h : b ≠ a) : zsm S (zPl S id a v) b := ⟨fun j => by simp [zi, zPl, z2, h], fun j => by simp [zq, zPl, z2, h], fun j => by simp [zl, zPl, z2, h], rfl, rfl, rfl, rfl⟩
theorem zfr.pl {S S1 : zS} {X : Nat → Prop} {id a : Nat} {v : Int64} (h : zfr S S1 X) (hX : a ∈ zL S → X a) : zfr S (zPl S1 id a v) X := fun b hb => ⟨(h b hb).1, (h b hb).2.1, fun hn => ((h b hb).2.2 hn).tr (zsm.pl (fun e => hn (e ▸ hX (e ▸ hb))))⟩
theorem zsm.ri {S : zS} {a b : Nat} {f : Nat → Int32} (h : b ≠ a) : zsm S (zRi S a f) b := ⟨fun _ => rfl, fun _ => rfl, fun _ => rfl, rfl, by simp [zri, zRi, va_up_ne _ _ h], by simp [zrj, zRi, va_up_ne _ _ h], by simp [zrq, zRi, va_up_ne _ _ h]⟩
theorem zfr.ri {S S1 : zS} {X : Nat → Prop} {a : Nat} {f : Nat → Int32} (h : zfr S S1 X) (hX : a ∈ zL S → X a) : zfr S (zRi S1 a f) X := fun b hb => ⟨(h b hb).1, (h b hb).2.1, fun hn => ((h b hb).2.2 hn).tr (zsm.ri (fun e => hn (e ▸ hX (e ▸ hb))))⟩
theorem zsm.rj {S : zS} {a b : Nat} {f : Nat → Int64} (h : b ≠ a) : zsm S (zRj S a f) b := ⟨fun _ => rfl, fun _ => rfl, fun _ => rfl, rfl, by simp [zri, zRj, va_up_ne _ _ h], by simp [zrj, zRj, va_up_ne _ _ h], by simp [zrq, zRj, va_up_ne _ _ h]⟩
theorem zfr.rj {S S1 : zS} {X : Nat → Prop} {a : Nat} {f : Nat → Int64} (h : zfr S S1 X) (hX : a ∈ zL S → X a) : zfr S (zRj S1 a f) X := fun b hb => ⟨(h b hb).1, (h b hb).2.1, fun hn => ((h b hb).2.2 hn).tr (zsm.rj (fun e => hn (e ▸ hX (e ▸ hb))))⟩
theorem zsm.rq {S : zS} {a b : Nat} {f : Nat → Option Nat} (h : b ≠ a) : zsm S (zRq S a f) b := ⟨fun _ => rfl, fun _ => rfl, fun _ => rfl, rfl, by simp [zri, zRq, va_up_ne _ _ h], by simp [zrj, zRq, va_up_ne _ _ h], by simp [zrq, zRq, va_up_ne _ _ h]⟩
theorem zfr.rq {S S1 : zS} {X : Nat → Prop} {a : Nat} {f : Nat → Option Nat} (h : zfr S S1 X) (hX : a ∈ zL S → X a) : zfr S (zRq S1 a f) X := fun b hb => ⟨(h b hb).1, (h b hb).2.1, fun hn => ((h b hb).2.2 hn).tr (zsm.rq (fun e => hn (e ▸ hX (e ▸ hb))))⟩
theorem zfr.no {S S1 : zS} {X : Nat → Prop} {q ci : Nat} (h : zfr S S1 X) (hq : q ∉ zL S1) : zfr S (zNo S1 q ci) X := fun b hb => by
  obtain ⟨h1, h2, h3⟩ := h b hb
  have hne : b ≠ q := fun e => hq (e ▸ h1)
  refine ⟨List.mem_append_left _ h1, (va_up_ne _ _ hne).trans h2, fun hn => (h3 hn).tr ⟨fun j => by simp [zi, zNo, zat, hne], fun j => by simp [zq, zNo, zat, hne], fun j => by simp [zl, zNo, zat, hne], rfl, rfl, rfl, rfl⟩⟩
theorem zfr.na {S S1 : zS} {X : Nat → Prop} {q k n : Nat} (h : zfr S S1 X) (hq : q ∉ zL S1) : zfr S (zNa S1 q k n) X := fun b hb => by
  obtain ⟨h1, h2, h3⟩ := h b hb
  have hne : b ≠ q := fun e => hq (e ▸ h1)
  refine ⟨List.mem_append_left _ h1, (va_up_ne _ _ hne).trans h2, fun hn => (h3 hn).tr ⟨fun j => rfl, fun j => rfl, fun j => rfl, va_up_ne _ _ hne, va_up_ne _ _ hne, va_up_ne _ _ hne, va_up_ne _ _ hne⟩⟩
/-- a new object's fields -/
def zdf (S : zS) (a : Nat) : Prop := (∀ id, zi S id a = 0) ∧ (∀ id, zq S id a = none) ∧ (∀ id, zl S id a = 0)
theorem zdf.no {S : zS} {q ci : Nat} : zdf (zNo S q ci) q := ⟨fun j => by simp [zi, zNo, zat], fun j => by simp [zq, zNo, zat], fun j => by simp [zl, zNo, zat]⟩
theorem z2_s {α : Type} (f : Nat → Nat → α) (i a : Nat) (v : α) : z2 f i a v i a = v := by simp [z2]
theorem z2_n {α : Type} (f : Nat → Nat → α) {i j a b : Nat} (v : α) (h : j ≠ i ∨ b ≠ a) : z2 f i a v j b = f j b := by
  unfold z2
  rw [if_neg (fun e => h.elim (fun k => k e.1) (fun k => k e.2))]
