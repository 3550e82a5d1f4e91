/-- a constructor's work at a: the fields of L hold new things of their kinds (arrays of their lengths, all 0), each its own; the rest of a is as in S0, and what was there before is as it was -/
def zct (S0 : zS) (a : Nat) (f : Nat → Int32) (L : List (Nat × Nat × Nat)) (S : zS) : Prop :=
  zfr S0 S (fun b => b = a) ∧ (∀ j, zi S j a = f j) ∧ (∀ j, zl S j a = zl S0 j a) ∧ (∀ j, j ∉ L.map (fun r => r.1) → zq S j a = zq S0 j a) ∧
  (∀ r ∈ L, ∃ q, zq S r.1 a = some q ∧ q ∉ zL S0 ∧ zA S q r.2.1 ∧ (13 ≤ r.2.1 → zn S q = r.2.2 ∧ (zri S q = fun _ => 0) ∧ (zrj S q = fun _ => 0) ∧ (zrq S q = fun _ => none))) ∧
  (∀ r ∈ L, ∀ r2 ∈ L, zq S r.1 a = zq S r2.1 a → r.1 = r2.1)
theorem zct.nil {S : zS} {a : Nat} : zct S a (fun j => zi S j a) [] S := ⟨zfr.rf, fun _ => rfl, fun _ => rfl, fun _ _ => rfl, (fun _ h => by cases h), (fun _ h => by cases h)⟩
theorem zct.al {S0 S : zS} {a k : Nat} {f : Nat → Int32} {L : List (Nat × Nat × Nat)} (h : zct S0 a f L S) (ha : zA S0 a k) : zA S a k := h.1.al ha
/-- a new array goes into a field -/
theorem zct.arr {S0 S : zS} {a k ci n id q : Nat} {f : Nat → Int32} {L : List (Nat × Nat × Nat)} (h : zct S0 a f L S) (ha : zA S0 a ci) (hq : q ∉ zL S) (hid : id ∉ L.map (fun r => r.1)) : zct S0 a f ((id, k, n) :: L) (zPq (zNa S q k n) id a (some q)) := by
  obtain ⟨h1, h2, h3, h4, h5, h6⟩ := h
  have haS : a ∈ zL S := (h1 a ha.1).1
  have hne : a ≠ q := fun e => hq (e ▸ haS)
  have hq0 : q ∉ zL S0 := fun e => hq (h1 q e).1
  have key : ∀ r ∈ L, zq (zPq (zNa S q k n) id a (some q)) r.1 a = zq S r.1 a := fun r hr => by
    have : r.1 ≠ id := fun e => hid (e ▸ List.mem_map.mpr ⟨r, hr, rfl⟩)
    show z2 (zq S) id a (some q) r.1 a = _
    exact z2_n _ _ (Or.inl this)
  have self : zq (zPq (zNa S q k n) id a (some q)) id a = some q := z2_s _ _ _ _
  refine ⟨zfr.pq (zfr.na h1 hq) (fun _ => rfl), fun j => h2 j, fun j => h3 j, fun j hj => ?_, fun r hr => ?_, fun r hr r2 hr2 e => ?_⟩
  · have hj1 : j ≠ id := fun e => hj (by rw [e]; exact List.mem_cons_self)
    have hj2 : j ∉ L.map (fun r => r.1) := fun e => hj (List.mem_cons_of_mem _ e)
    show z2 (zq S) id a (some q) j a = _
    rw [z2_n _ _ (Or.inl hj1)]
    exact h4 j hj2
  · rcases List.mem_cons.mp hr with e | hr
    · subst e
      exact ⟨q, self, hq0, zA.naq (S := S) (n := n), fun _ => ⟨va_up_self _ _ _, va_up_self _ _ _, va_up_self _ _ _, va_up_self _ _ _⟩⟩
    · obtain ⟨q2, g1, g2, g3, g4⟩ := h5 r hr
      have hn2 : q2 ≠ q := fun e => hq (e ▸ g3.1)
      refine ⟨q2, (key r hr).trans g1, g2, zA.na (S := S) (j := k) (n := n) g3 hq, fun hk => ?_⟩
      obtain ⟨f1, f2, f3, f4⟩ := g4 hk
      exact ⟨(va_up_ne _ _ hn2).trans f1, (va_up_ne _ _ hn2).trans f2, (va_up_ne _ _ hn2).trans f3, (va_up_ne _ _ hn2).trans f4⟩
  · have new : ∀ r ∈ L, zq (zPq (zNa S q k n) id a (some q)) r.1 a ≠ some q := fun r hr e => by
      obtain ⟨q2, g1, g2, g3, g4⟩ := h5 r hr
      rw [key r hr, g1] at e
      exact hq (Option.some.inj e ▸ g3.1)
    rcases List.mem_cons.mp hr with e1 | hr <;> rcases List.mem_cons.mp hr2 with e2 | hr2
    · subst e1; subst e2; rfl
    · subst e1; exact absurd (e.symm.trans self) (new r2 hr2)
    · subst e2; exact absurd (e.trans self) (new r hr)
    · rw [key r hr, key r2 hr2] at e
      exact h6 r hr r2 hr2 e
/-- a new object, made by its constructor, goes into a field -/
theorem zct.obj {S0 S S1 : zS} {a k ci n id q : Nat} {f : Nat → Int32} {L : List (Nat × Nat × Nat)} (h : zct S0 a f L S) (ha : zA S0 a ci) (hq : q ∉ zL S) (hk : k < 13) (h1' : zfr (zNo S q k) S1 (fun b => b = q)) (hid : id ∉ L.map (fun r => r.1)) : zct S0 a f ((id, k, n) :: L) (zPq S1 id a (some q)) := by
  obtain ⟨h1, h2, h3, h4, h5, h6⟩ := h
  have haS : a ∈ zL S := (h1 a ha.1).1
  have hne : a ≠ q := fun e => hq (e ▸ haS)
  have hq0 : q ∉ zL S0 := fun e => hq (h1 q e).1
  have hF : zfr S S1 (fun b => b = q) := zfr.tr (zfr.no zfr.rf hq) h1' (fun _ _ e => e)
  have hsa : zsm S S1 a := hF.sm haS hne
  have key : ∀ r ∈ L, zq (zPq S1 id a (some q)) r.1 a = zq S r.1 a := fun r hr => by
    have : r.1 ≠ id := fun e => hid (e ▸ List.mem_map.mpr ⟨r, hr, rfl⟩)
    show z2 (zq S1) id a (some q) r.1 a = _
    rw [z2_n _ _ (Or.inl this)]
    exact hsa.2.1 _
  have self : zq (zPq S1 id a (some q)) id a = some q := z2_s _ _ _ _
  refine ⟨zfr.pq (zfr.tr h1 hF (fun b hb e => absurd (e ▸ hb) hq0)) (fun _ => rfl), fun j => (hsa.1 j).trans (h2 j), fun j => (hsa.2.2.1 j).trans (h3 j), fun j hj => ?_, fun r hr => ?_, fun r hr r2 hr2 e => ?_⟩
  · have hj1 : j ≠ id := fun e => hj (by rw [e]; exact List.mem_cons_self)
    have hj2 : j ∉ L.map (fun r => r.1) := fun e => hj (List.mem_cons_of_mem _ e)
    show z2 (zq S1) id a (some q) j a = _
    rw [z2_n _ _ (Or.inl hj1)]
    exact (hsa.2.1 j).trans (h4 j hj2)
  · rcases List.mem_cons.mp hr with e | hr
    · subst e
      exact ⟨q, self, hq0, h1'.al zA.noq, fun h13 => absurd (show 13 ≤ k from h13) (by omega)⟩
    · obtain ⟨q2, g1, g2, g3, g4⟩ := h5 r hr
      have hn2 : q2 ≠ q := fun e => hq (e ▸ g3.1)
      have hs2 : zsm S S1 q2 := hF.sm g3.1 hn2
      refine ⟨q2, (key r hr).trans g1, g2, hF.al g3, fun hk => ?_⟩
      obtain ⟨f1, f2, f3, f4⟩ := g4 hk
      exact ⟨hs2.2.2.2.1.trans f1, hs2.2.2.2.2.1.trans f2, hs2.2.2.2.2.2.1.trans f3, hs2.2.2.2.2.2.2.trans f4⟩
  · have new : ∀ r ∈ L, zq (zPq S1 id a (some q)) r.1 a ≠ some q := fun r hr e => by
      obtain ⟨q2, g1, g2, g3, g4⟩ := h5 r hr
      rw [key r hr, g1] at e
      exact hq (Option.some.inj e ▸ g3.1)
    rcases List.mem_cons.mp hr with e1 | hr <;> rcases List.mem_cons.mp hr2 with e2 | hr2
    · subst e1; subst e2; rfl
    · subst e1; exact absurd (e.symm.trans self) (new r2 hr2)
    · subst e2; exact absurd (e.trans self) (new r hr)
    · rw [key r hr, key r2 hr2] at e
      exact h6 r hr r2 hr2 e
theorem zct.nul {S0 S : zS} {a id : Nat} {f : Nat → Int32} {L : List (Nat × Nat × Nat)} (h : zct S0 a f L S) (hid : id ∉ L.map (fun r => r.1)) (h0 : zq S0 id a = none) : zct S0 a f L (zPq S id a none) := by
  obtain ⟨h1, h2, h3, h4, h5, h6⟩ := h
  have key : ∀ j, zq (zPq S id a none) j a = zq S j a := fun j => by
    show z2 (zq S) id a none j a = _
    by_cases e : j = id
    · subst e; rw [z2_s, h4 j hid, h0]
    · exact z2_n _ _ (Or.inl e)
  refine ⟨zfr.pq h1 (fun _ => rfl), h2, h3, fun j hj => (key j).trans (h4 j hj), fun r hr => ?_, fun r hr r2 hr2 e => ?_⟩
  · obtain ⟨q, g1, g2⟩ := h5 r hr
    exact ⟨q, (key _).trans g1, g2⟩
  · rw [key, key] at e
    exact h6 r hr r2 hr2 e
theorem zct.pi {S0 S : zS} {a id : Nat} {v : Int32} {f : Nat → Int32} {L : List (Nat × Nat × Nat)} (h : zct S0 a f L S) : zct S0 a (fun j => if j = id then v else f j) L (zPi S id a v) := by
  obtain ⟨h1, h2, h3, h4, h5, h6⟩ := h
  refine ⟨zfr.pi h1 (fun _ => rfl), fun j => ?_, h3, h4, h5, h6⟩
  show z2 (zi S) id a v j a = _
  by_cases e : j = id
  · subst e; rw [z2_s]; simp
  · rw [z2_n _ _ (Or.inl e), h2]; simp [e]
