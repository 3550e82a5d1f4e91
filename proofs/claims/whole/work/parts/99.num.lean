section ZL2
variable {p : Program} {l : Launch} {e : Env} {R : Room} {s : State} {m : MethodId} {args : Array Value} {below : List Frame} {meth : Method} {c : Code} {Q : State → Prop} {N0 : Nat} {D : va_G} {cy : Nat → ClassId} {nL hd : Nat}
/-- a loop that takes room -/
theorem z_loop2 {cells slots : Nat} {S : zS} {lv : List (Nat × Value)} (I : Nat → Nat → Nat → zS → List (Nat × Value) → Prop) (n : Nat) (body : ∀ (n cl sl : Nat) (S : zS) (lv : List (Nat × Value)), I n cl sl S lv → (∀ (n' cl' sl' : Nat) (S' : zS) (lv' : List (Nat × Value)), n' < n → I n' cl' sl' S' lv' → zW p l e R s m args below meth c Q N0 D cy nL cl' sl' S' lv' hd []) → zW p l e R s m args below meth c Q N0 D cy nL cl sl S lv hd []) (h : I n cells slots S lv) : zW p l e R s m args below meth c Q N0 D cy nL cells slots S lv hd [] := by
  induction n using Nat.strongRecOn generalizing S lv cells slots with
  | ind n ih => exact body n cells slots S lv h (fun n' cl' sl' S' lv' hn h' => ih n' hn h')
/-- ways that meet, with room -/
theorem z_cut2 {cells slots pc : Nat} {S : zS} {lv : List (Nat × Value)} {st : List Value} (J : Nat → Nat → zS → List (Nat × Value) → Prop) (pc2 : Nat) (tail : ∀ cl sl S lv, J cl sl S lv → zW p l e R s m args below meth c Q N0 D cy nL cl sl S lv pc2 []) (main : (∀ cl sl S lv, J cl sl S lv → zW p l e R s m args below meth c Q N0 D cy nL cl sl S lv pc2 []) → zW p l e R s m args below meth c Q N0 D cy nL cells slots S lv pc st) : zW p l e R s m args below meth c Q N0 D cy nL cells slots S lv pc st := main tail
end ZL2
/-- the room that k adds to an empty list take -/
def CC : Nat → Nat
  | 0 => 0
  | k + 1 => CC k + chC k
def CS : Nat → Nat
  | 0 => 0
  | k + 1 => CS k + chS k
theorem CC_b : ∀ k, k ≤ 96 → CC k ≤ 7 ∧ CS k ≤ 311 := by decide +kernel
/-- things by their numbers: what counts them (1202, 1203, 1204), how many an object may have -/
def pN (v : zV) (t M x : Nat) : Nat := pS v t (x / M) + x % M
def eN (v : zV) (t M i : Nat) : Nat := (fnd (fun x => decide (x % M < cn v t (x / M)) && decide (pN v t M x = i)) (6 * M)).getD 0
theorem pS_mono {v : zV} {t a b : Nat} (h : a ≤ b) : pS v t a ≤ pS v t b := by
  induction b with
  | zero => rw [Nat.le_zero.mp h]; exact Nat.le_refl _
  | succ b ih =>
    rcases Nat.lt_or_ge a (b + 1) with h1 | h1
    · exact Nat.le_trans (ih (by omega)) (Nat.le_add_right _ _)
    · rw [show a = b + 1 by omega]; exact Nat.le_refl _
theorem pN_lt {v : zV} {t M x y : Nat} (hM : 0 < M) (hxy : y < x) (hy : y % M < cn v t (y / M)) : pN v t M y < pN v t M x := by
  unfold pN
  have hd : y / M ≤ x / M := Nat.div_le_div_right (by omega)
  rcases Nat.lt_or_ge (y / M) (x / M) with h | h
  · have h1 : pS v t (y / M + 1) ≤ pS v t (x / M) := pS_mono h
    have h2 : pS v t (y / M + 1) = pS v t (y / M) + cn v t (y / M) := rfl
    omega
  · have e : y / M = x / M := by omega
    rw [e]
    have h1 := Nat.div_add_mod y M
    have h2 := Nat.div_add_mod x M
    rw [e] at h1
    omega
theorem eN_at {v : zV} {t M x : Nat} (hM : 0 < M) (hx : x < 6 * M) (ht : x % M < cn v t (x / M)) : eN v t M (pN v t M x) = x := by
  unfold eN
  have h : fnd (fun z => decide (z % M < cn v t (z / M)) && decide (pN v t M z = pN v t M x)) (6 * M) = some x := fnd_iff.mpr ⟨hx, by
    rw [decide_eq_true ht, decide_eq_true rfl]
    rfl, fun y hy => by
    by_cases h1 : y % M < cn v t (y / M)
    · have h2 := pN_lt hM hy h1
      rw [decide_eq_false (show ¬ pN v t M y = pN v t M x by omega), Bool.and_false]
    · rw [decide_eq_false h1, Bool.false_and]⟩
  rw [h]
  rfl
/-- every number below the count is one's -/
theorem pN_ex {v : zV} {t M i : Nat} (hM : 0 < M) (hc : ∀ o, o < 6 → cn v t o ≤ M) : ∀ o, o ≤ 6 → i < pS v t o → ∃ x, x < o * M ∧ x % M < cn v t (x / M) ∧ pN v t M x = i
  | 0, _, h => absurd h (Nat.not_lt_zero i)
  | o + 1, ho, h => by
    rcases Nat.lt_or_ge i (pS v t o) with h1 | h1
    · obtain ⟨x, hx, h2, h3⟩ := pN_ex hM hc o (by omega) h1
      exact ⟨x, by rw [Nat.succ_mul]; omega, h2, h3⟩
    · have h2 : pS v t (o + 1) = pS v t o + cn v t o := rfl
      have hco := hc o (by omega)
      have hk : i - pS v t o < M := by omega
      have e1 : (o * M + (i - pS v t o)) / M = o := by
        rw [Nat.mul_comm, Nat.mul_add_div hM, Nat.div_eq_of_lt hk]
        omega
      have e2 : (o * M + (i - pS v t o)) % M = i - pS v t o := by
        rw [Nat.mul_comm, Nat.mul_add_mod, Nat.mod_eq_of_lt hk]
      refine ⟨o * M + (i - pS v t o), by rw [Nat.succ_mul]; omega, by rw [e1, e2]; omega, ?_⟩
      unfold pN
      rw [e1, e2]
      omega
theorem eN_t {v : zV} {t M i : Nat} (hM : 0 < M) (hc : ∀ o, o < 6 → cn v t o ≤ M) (hi : i < pS v t 6) : eN v t M i < 6 * M ∧ eN v t M i % M < cn v t (eN v t M i / M) ∧ pN v t M (eN v t M i) = i := by
  obtain ⟨x, h1, h2, h3⟩ := pN_ex hM hc 6 (Nat.le_refl _) hi
  have e := eN_at hM h1 h2
  rw [h3] at e
  rw [e]
  exact ⟨h1, h2, h3⟩
theorem pS_top {v : zV} (hA : vA v) {t : Nat} (ht : t = 1202 ∨ t = 1203 ∨ t = 1204) {o : Nat} (ho : cn v 1201 0 ≤ o) (ho6 : o ≤ 6) : pS v t o = pS v t (cn v 1201 0) := by
  induction o with
  | zero => rw [Nat.le_zero.mp ho]
  | succ o ih =>
    rcases Nat.lt_or_ge (cn v 1201 0) (o + 1) with h1 | h1
    · have h2 := hA o (by omega) (by omega)
      have h3 : cn v t o = 0 := by rcases ht with e | e | e <;> subst e; exact h2.1; exact h2.2.1; exact h2.2.2
      show pS v t o + cn v t o = _
      rw [h3, ih (by omega) (by omega)]
      rfl
    · rw [show cn v 1201 0 = o + 1 by omega]
theorem pS_b {v : zV} {t M : Nat} (hc : ∀ o, o < 6 → cn v t o ≤ M) : ∀ o, o ≤ 6 → pS v t o ≤ o * M
  | 0, _ => Nat.zero_le _
  | o + 1, h => by
    have := pS_b hc o (by omega)
    have := hc o (by omega)
    show pS v t o + cn v t o ≤ _
    rw [Nat.succ_mul]
    omega
/-- what is linked keeps what was built -/
theorem Rep.img {v : zV} {W W' : zO} (h : Rep v W) (hs : ∀ d, d < 32 ∨ 40 ≤ d → W' d = W d) {n1 n2 n3 n4 : Nat} {f1 f2 f3 f4 : Nat → Nat} (h1 : n1 ≤ 48 ∧ vl W' 32 n1 f1 ∧ ∀ i, i < n1 → kd (f1 i) = 7) (h2 : n2 ≤ 24 ∧ vl W' 34 n2 f2 ∧ ∀ i, i < n2 → kd (f2 i) = 8) (h3 : n3 ≤ 96 ∧ vl W' 36 n3 f3 ∧ ∀ i, i < n3 → kd (f3 i) = 9) (h4 : n4 ≤ 48 ∧ vl W' 38 n4 f4 ∧ ∀ i, i < n4 → kd (f4 i) = 7) : Rep v W' := by
  obtain ⟨y1, y2, y3, y4, y5, y6, y7, y8, y9, y10, y11, y12, y13, y14, y15⟩ := h
  have hk : ∀ d, d < 40 → 32 ≤ d → kd d = 0 ∨ kd d = 19 := by decide
  have hal : ∀ c, oa W c → c < 32 ∨ 40 ≤ c → oa W' c := fun c hc h9 => by
    show (W' c).1
    rw [hs c h9]
    exact hc
  have hod : ∀ c, c % 2 = 0 → 32 ≤ c → c < 40 → oa W' c := fun c hc c1 c2 => by
    rcases (show c = 32 ∨ c = 34 ∨ c = 36 ∨ c = 38 by omega) with e | e | e | e <;> subst e
    · exact h1.2.1.1
    · exact h2.2.1.1
    · exact h3.2.1.1
    · exact h4.2.1.1
  have hwr : wr W' := fun id hid d hd hkd => by
    have hw := wL_k id hid
    have hd9 : d < 32 ∨ 40 ≤ d := by
      by_cases h9 : d < 32 ∨ 40 ≤ d
      · exact h9
      · rcases hk d (by omega) (by omega) with e | e
        · exact absurd (hkd.symm.trans e) hw.1
        · exact absurd (hkd.symm.trans e) hw.2.1
    obtain ⟨g1, g2, g3, g4⟩ := y1 id hid d (oa_same (hs d hd9) hd) hkd
    refine ⟨?_, ?_, fun h9 => ?_, g4⟩
    · show (W' d).2.2.1 id = _
      rw [hs d hd9]
      exact g1
    · by_cases h9 : wd id d < 32 ∨ 40 ≤ wd id d
      · exact hal _ g2 h9
      · refine hod _ ?_ (by omega) (by omega)
        rcases (show wd id d % 2 = 0 ∨ wd id d % 2 = 1 by omega) with e | e
        · exact e
        · exfalso
          have e19 : kd (wd id d) = 19 := by
            rcases (show wd id d = 33 ∨ wd id d = 35 ∨ wd id d = 37 ∨ wd id d = 39 by omega) with e | e | e | e <;> rw [e] <;> rfl
          exact hw.2.2.1 (g4.symm.trans e19)
    · have h8 : wd id d < 32 ∨ 40 ≤ wd id d := by
        by_cases h9 : wd id d < 32 ∨ 40 ≤ wd id d
        · exact h9
        · rcases hk (wd id d) (by omega) (by omega) with e | e
          · exact absurd (g4.symm.trans e) (hw.2.2.2 (by assumption))
          · exact absurd (g4.symm.trans e) hw.2.2.1
      show (W' (wd id d)).2.2.2.2.1 = _
      rw [hs _ h8]
      exact g3 h9
  refine ⟨hwr, hal 2 y2 (by omega), y3.same (hs 4 (by omega)) (hs 5 (by omega)), fun o ho => (y4 o ho).same (fun _ _ => rfl) (fun k hk => hs _ (by omega)), fun f hf hf2 => (y5 f hf hf2).same (fun _ _ => rfl) (fun _ _ => ⟨rfl, rfl⟩) (fun k hk => hs _ (by omega)), fun g hg hg2 => (y6 g hg hg2).same rfl rfl (fun _ _ => rfl) (hs _ (by omega)) (hs _ (by omega)), fun y hy hy2 => (y7 y hy hy2).same (fun _ _ => rfl) (hs _ (by omega)), fun c hc => ?_, ?_, ?_, ?_, ?_, ?_, fun k hk => ?_, ⟨n1, f1, h1⟩, ⟨n2, f2, h2⟩, ⟨n3, f3, h3⟩, ⟨n4, f4, h4⟩, y15.2.2.2.2.1.same (hs 44 (by omega)) (hs 45 (by omega)), y15.2.2.2.2.2.1.same (hs 46 (by omega)) (hs 47 (by omega)), y15.2.2.2.2.2.2.same (hs 48 (by omega)) (hs 49 (by omega))⟩
  · by_cases h9 : c < 60
    · exact Or.inl h9
    · exact y8 c (oa_same (hs c (by omega)) hc)
  · show (W' 2).2.1 1106 = _
    rw [hs 2 (by omega)]; exact y9
  · show (W' 2).2.1 1107 = _
    rw [hs 2 (by omega)]; exact y10
  · show (W' 14).2.2.2.1 409 = _
    rw [hs 14 (by omega)]; exact y11
  · show (W' 14).2.1 410 = _
    rw [hs 14 (by omega)]; exact y12
  · show (W' 14).2.1 411 = _
    rw [hs 14 (by omega)]; exact y13
  · show (W' 58).2.2.2.2.2.1 k = _
    rw [hs 58 (by omega)]; exact y14 k hk
