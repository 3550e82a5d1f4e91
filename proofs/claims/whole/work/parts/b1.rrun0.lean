/-- stored bytes only -/
def vB (v : zV) : Prop := ∀ i, i < 1536 → vp_nar .byte (v.1 1213 i) = v.1 1213 i
theorem rs_ge {x k : Nat} : x ≤ rs x k := by
  unfold rs
  have h1 := Nat.div_add_mod (x + 2 ^ k - 1) (2 ^ k)
  have h2 : 0 < 2 ^ k := Nat.two_pow_pos k
  have h3 := Nat.mod_lt (x + 2 ^ k - 1) h2
  rw [Nat.mul_comm] at h1
  omega
theorem aS_mo {v : zV} {a : Nat} : ∀ d, aS v a ≤ aS v (a + d)
  | 0 => Nat.le_refl _
  | d + 1 => by
    have h1 := aS_mo (v := v) (a := a) d
    have h2 : aS v (a + d) ≤ aS v (a + d + 1) := by
      show aS v (a + d) ≤ (if (a + d) % 4 < cn v 1203 ((a + d) / 4) then rs (aS v (a + d)) (cn v 1212 (a + d)) + cn v 1211 (a + d) else aS v (a + d))
      split
      · have := rs_ge (x := aS v (a + d)) (k := cn v 1212 (a + d))
        omega
      · exact Nat.le_refl _
    exact Nat.le_trans h1 h2
/-- where segment g lies -/
abbrev aG (v : zV) (g : Nat) : Nat := rs (aS v g) (cn v 1212 g)
theorem aG_le {v : zV} {g : Nat} (hg : g < 24) (ht : g % 4 < cn v 1203 (g / 4)) (h : aS v 24 ≤ 1024) : aG v g + cn v 1211 g ≤ 1024 := by
  have h1 : aS v (g + 1) = rs (aS v g) (cn v 1212 g) + cn v 1211 g := if_pos ht
  have h2 := aS_mo (v := v) (a := g + 1) (24 - (g + 1))
  rw [show g + 1 + (24 - (g + 1)) = 24 by omega] at h2
  show rs (aS v g) (cn v 1212 g) + _ ≤ _
  omega
/-- memory behind the first g segments -/
def mG (v : zV) : Nat → Nat → Int32
  | 0 => fun _ => 0
  | g + 1 => if g % 4 < cn v 1203 (g / 4) then (fun k => if aG v g ≤ k ∧ k < aG v g + cn v 1211 g then v.1 1213 (64 * g + (k - aG v g)) else mG v g k) else mG v g
/-- where a run begins -/
def aBe (v : zV) (f : Nat) (x y : Int64) : aM := ([(f, 0, 0, (fun k => if k < cn v 1205 f then (if k = 0 then x else if k = 1 then y else 0) else 0), (fun _ => 0), 0, (fun _ => 0), fun _ => 0)], mG v 24, 1, 0)
theorem aBe_ok {v : zV} {Ss : List Nat} (hs : sOK v Ss) {f : Nat} (hf : tF v f) {x y : Int64} : aOK v (aBe v f x y) := ⟨⟨fOK.beg hs hf, trivial⟩, (by decide : 1 ≤ 40), (by decide : 1 ≤ 40)⟩
section ZMI
variable {v : zV} {Ss : List Nat} {F G : aF} {Fs : List aF} {U : aU} {n : Nat}
theorem aMi_l (h : cn v 1208 (ff F) ≤ fa F) : aMi v Ss n (F :: Fs, U) = .inr (n, aLv v F Fs U) := if_pos h
theorem aMi_f (h : ¬ cn v 1208 (ff F) ≤ fa F) : aMi v Ss 0 (F :: Fs, U) = .inl (1, 0, 0, U.2.1, U.1) := (if_neg h).trans (if_pos rfl)
theorem aMi_s (h : ¬ cn v 1208 (ff F) ≤ fa F) (hn : ¬ n = 0) (hc : (aSp v Ss F Fs U).1 = 0) : aMi v Ss n (F :: Fs, U) = .inr (n - 1, (aSp v Ss F Fs U).2) := (if_neg h).trans ((if_neg hn).trans (if_pos hc))
theorem aMi_e (h : ¬ cn v 1208 (ff F) ≤ fa F) (hn : ¬ n = 0) (hc : ¬ (aSp v Ss F Fs U).1 = 0) : aMi v Ss n (F :: Fs, U) = .inl ((aSp v Ss F Fs U).1, 0, n - 1, U.2.1, U.1) := (if_neg h).trans ((if_neg hn).trans (if_neg hc))
theorem aMi_0 : aMi v Ss n ([], U) = .inl (0, U.2.2, n, U.2.1, U.1) := rfl
/-- which functions are open behind a step -/
def mpR (M : List Nat) (R : Nat × aM) : Prop := R.1 < 10 ∧ (R.1 = 0 → ∃ L, R.2.1.map ff = L ++ M ∧ L.length ≤ 1)
theorem mpR.no {c : Nat} {A : aM} {M : List Nat} (hc : ¬ c = 0) (h10 : c < 10) : mpR M (c, A) := ⟨h10, fun h9 => absurd h9 hc⟩
theorem mpR.s {A : aF} (he : ff A = ff F) : mpR ((F :: Fs).map ff) (0, A :: Fs, U) := ⟨(by decide : 0 < 10), fun _ => ⟨[], by show ff A :: Fs.map ff = ff F :: Fs.map ff; rw [he], Nat.zero_le _⟩⟩
theorem mpR.cl {A : aF} {g : Nat} (he : ff A = ff F) : mpR ((F :: Fs).map ff) (aCl v A Fs U g) := by
  show mpR _ (if Fs.length + 1 = 40 then (6, A :: Fs, U) else (0, aCa v A Fs U g))
  split
  · exact mpR.no (by decide) (by decide)
  · refine ⟨(by decide : 0 < 10), fun _ => ⟨[g], ?_, Nat.le_refl _⟩⟩
    show g :: ff A :: Fs.map ff = [g] ++ (ff F :: Fs.map ff)
    rw [he]
    rfl
theorem aSp_m (hs : sOK v Ss) (hf : tF v (ff F)) (hk : fa F < cn v 1208 (ff F)) : mpR ((F :: Fs).map ff) (aSp v Ss F Fs U) := by
  have hw36 := hs.w hf hk
  rcases (show (3 ≤ kw v (ff F) (fa F) ∧ kw v (ff F) (fa F) ≤ 16) ∨ (kw v (ff F) (fa F) = 0) ∨ (kw v (ff F) (fa F) = 1) ∨ (kw v (ff F) (fa F) = 2) ∨ (kw v (ff F) (fa F) = 17) ∨ (kw v (ff F) (fa F) = 18) ∨ (kw v (ff F) (fa F) = 19) ∨ (kw v (ff F) (fa F) = 20) ∨ (kw v (ff F) (fa F) = 21) ∨ (kw v (ff F) (fa F) = 22) ∨ (kw v (ff F) (fa F) = 23) ∨ (kw v (ff F) (fa F) = 24) ∨ (kw v (ff F) (fa F) = 25) ∨ (kw v (ff F) (fa F) = 26) ∨ (kw v (ff F) (fa F) = 27) ∨ (kw v (ff F) (fa F) = 28) ∨ (kw v (ff F) (fa F) = 29) ∨ (kw v (ff F) (fa F) = 30) ∨ (kw v (ff F) (fa F) = 31) ∨ (kw v (ff F) (fa F) = 32) ∨ (kw v (ff F) (fa F) = 33) ∨ (kw v (ff F) (fa F) = 34) ∨ (kw v (ff F) (fa F) = 35) by omega) with hw | hw | hw | hw | hw | hw | hw | hw | hw | hw | hw | hw | hw | hw | hw | hw | hw | hw | hw | hw | hw | hw | hw
  · rw [aSp_r hw]
    split
    · exact mpR.no (by decide) (by decide)
    · exact mpR.s rfl
  · rw [aSp_0 hw]
    exact mpR.s rfl
  · rw [aSp_1 hw]
    exact mpR.s rfl
  · rw [aSp_2 hw]
    exact mpR.s rfl
  · rw [aSp_17 hw]
    exact mpR.s rfl
  · rw [aSp_18 hw]
    exact mpR.s rfl
  · rw [aSp_19 hw]
    split
    · exact mpR.no (by decide) (by decide)
    · exact mpR.s rfl
  · rw [aSp_20 hw]
    split
    · exact mpR.no (by decide) (by decide)
    · exact mpR.s rfl
  · rw [aSp_21 hw]
    split
    · exact mpR.no (by decide) (by decide)
    · exact mpR.s rfl
  · rw [aSp_22 hw]
    split
    · exact mpR.no (by decide) (by decide)
    · exact mpR.s rfl
  · rw [aSp_23 hw]
    exact mpR.s rfl
  · rw [aSp_24 hw]
    exact mpR.s rfl
  · rw [aSp_25 hw]
    split
    · split
      · exact mpR.s rfl
      · exact mpR.s rfl
    · exact mpR.s rfl
  · rw [aSp_26 hw]
    exact mpR.s rfl
  · rw [aSp_27 hw]
    exact mpR.s rfl
  · rw [aSp_28 hw]
    exact mpR.s aBr_ff
  · rw [aSp_29 hw]
    split
    · exact mpR.s rfl
    · exact mpR.s aBr_ff
  · rw [aSp_30 hw]
    exact mpR.s rfl
  · rw [aSp_31 hw]
    split
    · exact mpR.no (by decide) (by decide)
    · exact mpR.cl rfl
  · rw [aSp_32 hw]
    split
    · exact mpR.no (by decide) (by decide)
    · split
      · exact mpR.cl rfl
      · exact mpR.no (by decide) (by decide)
  · rw [aSp_33 hw]
    exact mpR.s rfl
  · rw [aSp_34 hw]
    exact mpR.s rfl
  · rw [aSp_35 hw]
    exact mpR.s rfl
end ZMI
theorem aLv_m {v : zV} {F : aF} {Fs : List aF} {U : aU} : (aLv v F Fs U).1.map ff = Fs.map ff := by
  cases Fs with
  | nil => rfl
  | cons G Gs =>
    show ff (if cn v 1206 (ff F) = 0 then G else fPu G (fv F (fh F - 1))) :: Gs.map ff = ff G :: Gs.map ff
    split <;> rfl
theorem last_ap {L M : List Nat} {x : Nat} (hL : L.length ≤ 1) (h : M.getLast? = some x) : (L ++ M).getLast? = some x := by
  cases L with
  | nil => exact h
  | cons a L2 =>
    cases L2 with
    | nil =>
      cases M with
      | nil => cases h
      | cons b M2 =>
        show (a :: b :: M2).getLast? = some x
        rw [List.getLast?_cons_cons]
        exact h
    | cons b L3 => exact absurd hL (by show ¬ L3.length + 1 + 1 ≤ 1; omega)
theorem last_tl {a x : Nat} {M : List Nat} (h : (a :: M).getLast? = some x) (hm : M ≠ []) : M.getLast? = some x := by
  cases M with
  | nil => exact absurd rfl hm
  | cons b M2 =>
    rw [List.getLast?_cons_cons] at h
    exact h
/-- all but what a run writes -/
def rU (vs v1 : zV) : Prop := (∀ id k, ¬ (id = 1200 ∨ id = 1228 ∨ id = 1230 ∨ id = 1231 ∨ (1239 ≤ id ∧ id ≤ 1249)) → v1.1 id k = vs.1 id k) ∧ v1.1 1200 0 = 0
section ZRU
variable {v vs v1 v2 : zV}
theorem rU.u (h : rU vs v1) {id k : Nat} {x : Int32} (hid : id = 1228 ∨ id = 1230 ∨ id = 1231 ∨ (1239 ≤ id ∧ id ≤ 1249)) : rU vs (u1 v1 id k x) := ⟨fun j m hj => (u1_n (Or.inl (fun e => hj (by rw [e]; omega)))).trans (h.1 j m hj), (u1_n (Or.inl (by omega))).trans h.2⟩
theorem rU.T (h : rU vs v1) (hT : vT v1 v2) : rU vs v2 := ⟨fun id k hk => (hT.1 id k (by omega)).trans (h.1 id k hk), (hT.1 1200 0 (by omega)).trans h.2⟩
theorem rU.L (h : rU vs v1) (hL : vL v vs) : vL v v1 := fun id k hk => (h.1 id k (by omega)).trans (hL id k hk)
theorem rU.Q (h : rU vs v1) {Ss : List Nat} (hq : tQ vs 1224 1225 Ss) : tQ v1 1224 1225 Ss := ⟨(h.1 _ _ (by omega)).trans hq.1, fun k hk => (h.1 _ _ (by omega)).trans (hq.2 k hk)⟩
end ZRU
/-- what a run of n fuel leaves -/
def rnR (vs v1 : zV) (n : Nat) (R : aR) : Prop := rU vs v1 ∧ v1.2 1229 0 = R.2.1 ∧ v1.1 1230 0 = nI (n - R.2.2.1) ∧ v1.1 1231 0 = nI R.2.2.2.1 ∧ ∀ i, i < 1024 → v1.1 1228 i = R.2.2.2.2 i
/-- the first function stands -/
theorem rR.st {v v1 v2 : zV} {f : Nat} {x y : Int64} (hE : enR v1 v2 0 f (cn v 1205 f) (cn v 1205 f) 0 0) (hm : ∀ k, k < 1024 → v1.1 1228 k = mG v 24 k) (hk : v1.1 1249 0 = nI 0) (ha : ∀ k, k < cn v 1205 f → v1.2 1245 k = if k = 0 then x else if k = 1 then y else 0) : rR (aBe v f x y) v2 := by
  obtain ⟨e1, e2, e3, e4, e5, e6, e7, e8, e9, e10⟩ := hE
  rw [Nat.sub_self] at e4 e6 e8
  refine ⟨e1, e6, (e9 _ _ (by omega) (by omega)).trans hk, ⟨⟨e2, e3, e4, e5, fun k hk8 => ?_, fun j hj => absurd hj (Nat.not_lt_zero j), fun j hj => absurd hj (Nat.not_lt_zero j)⟩, trivial⟩, fun k hk2 => (e9 _ _ (by omega) (by omega)).trans (hm k hk2), e7⟩
  refine (e8 k hk8).trans ?_
  show _ = if k < cn v 1205 f then (if k = 0 then x else if k = 1 then y else 0) else 0
  by_cases h9 : k < cn v 1205 f
  · rw [if_pos h9, if_pos h9, Nat.zero_add]
    exact ha k h9
  · rw [if_neg h9, if_neg h9]
