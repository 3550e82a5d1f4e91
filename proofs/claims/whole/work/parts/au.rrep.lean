def sH : List aF → Nat
  | [] => 0
  | F :: Fs => sH Fs + fh F
def sK : List aF → Nat
  | [] => 0
  | F :: Fs => sK Fs + fn F
/-- the reference's tables say F, the n-th open function -/
def rF (v1 : zV) (n h b : Nat) (F : aF) : Prop := v1.1 1240 n = nI (ff F) ∧ v1.1 1241 n = nI (fa F) ∧ v1.1 1242 n = nI h ∧ v1.1 1243 n = nI b ∧ (∀ k, k < 8 → v1.2 1244 (8 * n + k) = fc F k) ∧ (∀ j, j < fh F → v1.2 1245 (h + j) = fv F j) ∧ ∀ j, j < fn F → v1.1 1247 (b + j) = nI (fo F j) ∧ v1.1 1248 (b + j) = nI (h + fb F j)
def rS (v1 : zV) : List aF → Prop
  | [] => True
  | F :: Fs => rF v1 Fs.length (sH Fs) (sK Fs) F ∧ rS v1 Fs
def rT (v1 : zV) : List aF → Prop
  | [] => True
  | F :: Fs => v1.1 1246 0 = nI (sH Fs + fh F)
/-- the reference's tables say the machine -/
def rR (A : aM) (v1 : zV) : Prop := v1.1 1239 0 = nI A.1.length ∧ rT v1 A.1 ∧ v1.1 1249 0 = nI (sK A.1) ∧ rS v1 A.1 ∧ (∀ k, k < 1024 → v1.1 1228 k = A.2.1 k) ∧ v1.1 1231 0 = nI A.2.2.1
/-- below n, h, b all is the same -/
def lo9 (v1 v2 : zV) (n h b : Nat) : Prop := (∀ id k, (1240 ≤ id ∧ id ≤ 1243) → k < n → v2.1 id k = v1.1 id k) ∧ (∀ k, k < 8 * n → v2.2 1244 k = v1.2 1244 k) ∧ (∀ k, k < h → v2.2 1245 k = v1.2 1245 k) ∧ ∀ id k, (id = 1247 ∨ id = 1248) → k < b → v2.1 id k = v1.1 id k
section RRR
variable {v1 v2 : zV} {n h b : Nat}
theorem lo9.rf : lo9 v1 v1 n h b := ⟨fun _ _ _ _ => rfl, fun _ _ => rfl, fun _ _ => rfl, fun _ _ _ _ => rfl⟩
theorem lo9.u1 (q : lo9 v1 v2 n h b) {id k : Nat} {x : Int32} (h1 : (1240 ≤ id ∧ id ≤ 1243) → n ≤ k) (h2 : (id = 1247 ∨ id = 1248) → b ≤ k) : lo9 v1 (u1 v2 id k x) n h b := by
  refine ⟨fun j m hj hm => (u1_n ?_).trans (q.1 j m hj hm), q.2.1, q.2.2.1, fun j m hj hm => (u1_n ?_).trans (q.2.2.2 j m hj hm)⟩
  · by_cases e : j = id
    · subst e; have := h1 hj; exact Or.inr (by omega)
    · exact Or.inl e
  · by_cases e : j = id
    · subst e; have := h2 hj; exact Or.inr (by omega)
    · exact Or.inl e
theorem lo9.u2 (q : lo9 v1 v2 n h b) {id k : Nat} {x : Int64} (h1 : id = 1244 → 8 * n ≤ k) (h2 : id = 1245 → h ≤ k) : lo9 v1 (u2 v2 id k x) n h b := by
  refine ⟨q.1, fun m hm => (u2_n ?_).trans (q.2.1 m hm), fun m hm => (u2_n ?_).trans (q.2.2.1 m hm), q.2.2.2⟩
  · by_cases e : id = 1244
    · have := h1 e; exact Or.inr (by omega)
    · exact Or.inl (fun e9 => e e9.symm)
  · by_cases e : id = 1245
    · have := h2 e; exact Or.inr (by omega)
    · exact Or.inl (fun e9 => e e9.symm)
theorem lo9.le (q : lo9 v1 v2 n h b) {n' h' b' : Nat} (h1 : n' ≤ n) (h2 : h' ≤ h) (h3 : b' ≤ b) : lo9 v1 v2 n' h' b' := ⟨fun j m hj hm => q.1 j m hj (by omega), fun m hm => q.2.1 m (by omega), fun m hm => q.2.2.1 m (by omega), fun j m hj hm => q.2.2.2 j m hj (by omega)⟩
theorem rF.lo {F : aF} (hr : rF v1 n h b F) (q : lo9 v1 v2 (n + 1) (h + fh F) (b + fn F)) : rF v2 n h b F := by
  obtain ⟨r1, r2, r3, r4, r5, r6, r7⟩ := hr
  refine ⟨(q.1 _ _ (by omega) (by omega)).trans r1, (q.1 _ _ (by omega) (by omega)).trans r2, (q.1 _ _ (by omega) (by omega)).trans r3, (q.1 _ _ (by omega) (by omega)).trans r4, fun k hk => (q.2.1 _ (by omega)).trans (r5 k hk), fun j hj => (q.2.2.1 _ (by omega)).trans (r6 j hj), fun j hj => ⟨(q.2.2.2 _ _ (Or.inl rfl) (by omega)).trans (r7 j hj).1, (q.2.2.2 _ _ (Or.inr rfl) (by omega)).trans (r7 j hj).2⟩⟩
theorem rS.lo : ∀ {L : List aF}, rS v1 L → lo9 v1 v2 L.length (sH L) (sK L) → rS v2 L
  | [], _, _ => trivial
  | F :: Fs, hr, q => ⟨hr.1.lo q, hr.2.lo (q.le (by show Fs.length ≤ Fs.length + 1; omega) (by show sH Fs ≤ sH Fs + fh F; omega) (by show sK Fs ≤ sK Fs + fn F; omega))⟩
variable {F G : aF} {Fs : List aF} {U : aU}
theorem rR.N (hr : rR (F :: Fs, U) v1) : v1.1 1239 0 = nI (Fs.length + 1) := hr.1
theorem rR.T (hr : rR (F :: Fs, U) v1) : v1.1 1246 0 = nI (sH Fs + fh F) := hr.2.1
theorem rR.K (hr : rR (F :: Fs, U) v1) : v1.1 1249 0 = nI (sK Fs + fn F) := hr.2.2.1
theorem rR.F1 (hr : rR (F :: Fs, U) v1) : rF v1 Fs.length (sH Fs) (sK Fs) F := hr.2.2.2.1.1
theorem rR.go (hr : rR (F :: Fs, U) v1) {k : Nat} : rR (fGo F k :: Fs, U) (u1 v1 1241 Fs.length (nI k)) := by
  obtain ⟨h1, h2, h3, ⟨⟨r1, r2, r3, r4, r5, r6, r7⟩, h4⟩, h5, h6⟩ := hr
  exact ⟨(u1_n (Or.inl (by decide))).trans h1, (u1_n (Or.inl (by decide))).trans h2, (u1_n (Or.inl (by decide))).trans h3, ⟨⟨(u1_n (Or.inl (by decide))).trans r1, u1_s, (u1_n (Or.inl (by decide))).trans r3, (u1_n (Or.inl (by decide))).trans r4, r5, r6, fun j hj => ⟨(u1_n (Or.inl (by decide))).trans (r7 j hj).1, (u1_n (Or.inl (by decide))).trans (r7 j hj).2⟩⟩, h4.lo (lo9.rf.u1 (fun _ => Nat.le_refl _) (fun h9 => by omega))⟩, fun k hk => (u1_n (Or.inl (by decide))).trans (h5 k hk), (u1_n (Or.inl (by decide))).trans h6⟩
theorem rR.dr (hr : rR (F :: Fs, U) v1) {m : Nat} : rR (fDr F m :: Fs, U) (u1 v1 1246 0 (nI (sH Fs + (fh F - m)))) := by
  obtain ⟨h1, h2, h3, ⟨⟨r1, r2, r3, r4, r5, r6, r7⟩, h4⟩, h5, h6⟩ := hr
  exact ⟨(u1_n (Or.inl (by decide))).trans h1, u1_s, (u1_n (Or.inl (by decide))).trans h3, ⟨⟨(u1_n (Or.inl (by decide))).trans r1, (u1_n (Or.inl (by decide))).trans r2, (u1_n (Or.inl (by decide))).trans r3, (u1_n (Or.inl (by decide))).trans r4, r5, fun j hj => r6 j (by have : j < fh F - m := hj; omega), fun j hj => ⟨(u1_n (Or.inl (by decide))).trans (r7 j hj).1, (u1_n (Or.inl (by decide))).trans (r7 j hj).2⟩⟩, h4.lo (lo9.rf.u1 (fun h9 => by omega) (fun h9 => by omega))⟩, fun k hk => (u1_n (Or.inl (by decide))).trans (h5 k hk), (u1_n (Or.inl (by decide))).trans h6⟩
theorem rR.pu (hr : rR (F :: Fs, U) v1) {x : Int64} : rR (fPu F x :: Fs, U) (u1 (u2 v1 1245 (sH Fs + fh F) x) 1246 0 (nI (sH Fs + fh F + 1))) := by
  obtain ⟨h1, h2, h3, ⟨⟨r1, r2, r3, r4, r5, r6, r7⟩, h4⟩, h5, h6⟩ := hr
  refine ⟨(u1_n (Or.inl (by decide))).trans h1, u1_s, (u1_n (Or.inl (by decide))).trans h3, ⟨⟨(u1_n (Or.inl (by decide))).trans r1, (u1_n (Or.inl (by decide))).trans r2, (u1_n (Or.inl (by decide))).trans r3, (u1_n (Or.inl (by decide))).trans r4, fun k hk => (u2_n (v := v1) (i := 1245) (j := 1244) (k := sH Fs + fh F) (x := x) (Or.inl (by decide))).trans (r5 k hk), fun j hj => ?_, fun j hj => ⟨(u1_n (Or.inl (by decide))).trans (r7 j hj).1, (u1_n (Or.inl (by decide))).trans (r7 j hj).2⟩⟩, h4.lo ((lo9.rf.u2 (fun h9 => by omega) (fun _ => by omega)).u1 (fun h9 => by omega) (fun h9 => by omega))⟩, fun k hk => (u1_n (Or.inl (by decide))).trans (h5 k hk), (u1_n (Or.inl (by decide))).trans h6⟩
  have hj2 : j < fh F + 1 := hj
  show (u2 v1 1245 (sH Fs + fh F) x).2 1245 (sH Fs + j) = va_up (fv F) (fh F) x j
  by_cases e : j = fh F
  · rw [e, u2_s, va_up_self]
  · rw [u2_n (Or.inr (by omega)), va_up_ne _ _ e]
    exact r6 j (by omega)
theorem rR.lc (hr : rR (F :: Fs, U) v1) {i : Nat} {x : Int64} : rR (fLo F i x :: Fs, U) (u2 v1 1244 (8 * Fs.length + i) x) := by
  obtain ⟨h1, h2, h3, ⟨⟨r1, r2, r3, r4, r5, r6, r7⟩, h4⟩, h5, h6⟩ := hr
  refine ⟨h1, h2, h3, ⟨⟨r1, r2, r3, r4, fun k hk => ?_, fun j hj => (u2_n (Or.inl (by decide))).trans (r6 j hj), r7⟩, h4.lo (lo9.rf.u2 (fun _ => by omega) (fun h9 => by omega))⟩, h5, h6⟩
  show _ = va_up (fc F) i x k
  by_cases e : k = i
  · rw [e, u2_s, va_up_self]
  · rw [u2_n (Or.inr (by omega)), va_up_ne _ _ e]
    exact r5 k hk
theorem rR.op (hr : rR (F :: Fs, U) v1) {p : Nat} : rR (fOp F p :: Fs, U) (u1 (u1 (u1 v1 1247 (sK Fs + fn F) (nI p)) 1248 (sK Fs + fn F) (v1.1 1246 0)) 1249 0 (nI (sK Fs + fn F + 1))) := by
  obtain ⟨h1, h2, h3, ⟨⟨r1, r2, r3, r4, r5, r6, r7⟩, h4⟩, h5, h6⟩ := hr
  have hk : ∀ id k, id ≠ 1247 → id ≠ 1248 → id ≠ 1249 → (u1 (u1 (u1 v1 1247 (sK Fs + fn F) (nI p)) 1248 (sK Fs + fn F) (v1.1 1246 0)) 1249 0 (nI (sK Fs + fn F + 1))).1 id k = v1.1 id k := fun id k a1 a2 a3 => by
    rw [u1_n (Or.inl a3), u1_n (Or.inl a2), u1_n (Or.inl a1)]
  refine ⟨(hk _ _ (by decide) (by decide) (by decide)).trans h1, (hk _ _ (by decide) (by decide) (by decide)).trans h2, u1_s, ⟨⟨(hk _ _ (by decide) (by decide) (by decide)).trans r1, (hk _ _ (by decide) (by decide) (by decide)).trans r2, (hk _ _ (by decide) (by decide) (by decide)).trans r3, (hk _ _ (by decide) (by decide) (by decide)).trans r4, r5, r6, fun j hj => ?_⟩, h4.lo (((lo9.rf.u1 (fun h9 => by omega) (fun _ => by omega)).u1 (fun h9 => by omega) (fun _ => by omega)).u1 (fun h9 => by omega) (fun h9 => by omega))⟩, fun k hk2 => (hk _ _ (by decide) (by decide) (by decide)).trans (h5 k hk2), (hk _ _ (by decide) (by decide) (by decide)).trans h6⟩
  have hj2 : j < fn F + 1 := hj
  show _ = nI (va_up (fo F) (fn F) p j) ∧ _ = nI (sH Fs + va_up (fb F) (fn F) (fh F) j)
  by_cases e : j = fn F
  · rw [e, va_up_self, va_up_self, u1_n (Or.inl (by decide)), u1_n (Or.inl (by decide)), u1_s, u1_n (Or.inl (by decide)), u1_s]
    exact ⟨rfl, h2⟩
  · rw [va_up_ne _ _ e, va_up_ne _ _ e, u1_n (Or.inl (by decide)), u1_n (Or.inl (by decide)), u1_n (Or.inr (by omega)), u1_n (Or.inl (by decide)), u1_n (Or.inr (by omega)), u1_n (Or.inl (by decide))]
    exact r7 j (by omega)
theorem rR.cu (hr : rR (F :: Fs, U) v1) {m : Nat} (hm : m ≤ fn F) : rR (fCu F m :: Fs, U) (u1 v1 1249 0 (nI (sK Fs + m))) := by
  obtain ⟨h1, h2, h3, ⟨⟨r1, r2, r3, r4, r5, r6, r7⟩, h4⟩, h5, h6⟩ := hr
  exact ⟨(u1_n (Or.inl (by decide))).trans h1, (u1_n (Or.inl (by decide))).trans h2, u1_s, ⟨⟨(u1_n (Or.inl (by decide))).trans r1, (u1_n (Or.inl (by decide))).trans r2, (u1_n (Or.inl (by decide))).trans r3, (u1_n (Or.inl (by decide))).trans r4, r5, r6, fun j hj => ⟨(u1_n (Or.inl (by decide))).trans (r7 j (by have : j < m := hj; omega)).1, (u1_n (Or.inl (by decide))).trans (r7 j (by have : j < m := hj; omega)).2⟩⟩, h4.lo (lo9.rf.u1 (fun h9 => by omega) (fun h9 => by omega))⟩, fun k hk => (u1_n (Or.inl (by decide))).trans (h5 k hk), (u1_n (Or.inl (by decide))).trans h6⟩
theorem rR.ke (hr : rR (F :: Fs, U) v1) {c m : Nat} (hm : m ≤ 1) (hc : c + m ≤ fh F) : rR (fKe F c m :: Fs, U) (vKp v1 (sH Fs + c) (sH Fs + fh F) m) := by
  obtain ⟨h1, h2, h3, ⟨⟨r1, r2, r3, r4, r5, r6, r7⟩, h4⟩, h5, h6⟩ := hr
  have e1 : ∀ id k, id ≠ 1246 → (vKp v1 (sH Fs + c) (sH Fs + fh F) m).1 id k = v1.1 id k := fun id k hk => (u1_n (Or.inl hk)).trans (by split <;> rfl)
  have e2 : ∀ id k, id ≠ 1245 ∨ k ≠ sH Fs + c → (vKp v1 (sH Fs + c) (sH Fs + fh F) m).2 id k = v1.2 id k := fun id k hk => by
    show (if m = 0 then v1 else u2 v1 1245 (sH Fs + c) (v1.2 1245 (sH Fs + fh F - 1))).2 id k = v1.2 id k
    split
    · rfl
    · exact u2_n hk
  refine ⟨(e1 _ _ (by decide)).trans h1, ?_, (e1 _ _ (by decide)).trans h3, ⟨⟨(e1 _ _ (by decide)).trans r1, (e1 _ _ (by decide)).trans r2, (e1 _ _ (by decide)).trans r3, (e1 _ _ (by decide)).trans r4, fun k hk => (e2 _ _ (Or.inl (by decide))).trans (r5 k hk), fun j hj => ?_, fun j hj => ⟨(e1 _ _ (by decide)).trans (r7 j hj).1, (e1 _ _ (by decide)).trans (r7 j hj).2⟩⟩, h4.lo ⟨fun id k hk _ => e1 _ _ (by omega), fun k _ => e2 _ _ (Or.inl (by decide)), fun k hk => e2 _ _ (Or.inr (by omega)), fun id k hk _ => e1 _ _ (by omega)⟩⟩, fun k hk => (e1 _ _ (by decide)).trans (h5 k hk), (e1 _ _ (by decide)).trans h6⟩
  · show (u1 _ 1246 0 (nI (sH Fs + c + m))).1 1246 0 = nI (sH Fs + (c + m))
    rw [u1_s, Nat.add_assoc]
  · have hj2 : j < c + m := hj
    show _ = (if m = 0 then fv F else va_up (fv F) c (fv F (fh F - 1))) j
    by_cases e : m = 0
    · rw [if_pos e, e2 _ _ (Or.inr (by omega))]
      exact r6 j (by omega)
    · rw [if_neg e]
      by_cases e3 : j = c
      · rw [e3, va_up_self]
        show (if m = 0 then v1 else u2 v1 1245 (sH Fs + c) (v1.2 1245 (sH Fs + fh F - 1))).2 1245 (sH Fs + c) = _
        rw [if_neg e, u2_s, show sH Fs + fh F - 1 = sH Fs + (fh F - 1) from by omega]
        exact r6 _ (by omega)
      · rw [va_up_ne _ _ e3, e2 _ _ (Or.inr (by omega))]
        exact r6 j (by omega)
theorem rR.mem (hr : rR (F :: Fs, U) v1) {m : Nat → Int32} (h1 : ∀ id k, id ≠ 1228 → v2.1 id k = v1.1 id k) (h2 : v2.2 = v1.2) (h3 : ∀ k, k < 1024 → v2.1 1228 k = m k) : rR (F :: Fs, m, U.2) v2 := by
  have q2' := hr.T
  obtain ⟨q1, q2, q3, q4, q5, q6⟩ := hr
  exact ⟨(h1 _ _ (by decide)).trans q1, (h1 _ _ (by decide)).trans q2', (h1 _ _ (by decide)).trans q3, q4.lo ⟨fun id k hk _ => h1 _ _ (by omega), fun k _ => by rw [h2], fun k _ => by rw [h2], fun id k hk _ => h1 _ _ (by omega)⟩, h3, (h1 _ _ (by decide)).trans q6⟩
end RRR
