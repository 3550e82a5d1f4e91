/-- the list c holds k things, their numbers f -/
def vl (W : zO) (c k : Nat) (f : Nat → Nat) : Prop := oa W c ∧ oi W c 2 = nI k ∧ (∀ j, j ≠ 1 → oq W c j = none) ∧ ((k = 0 ∧ oq W c 1 = some 0) ∨ (oq W c 1 = some (c + 1) ∧ oa W (c + 1) ∧ k ≤ onn W (c + 1) ∧ onn W (c + 1) ∈ zcap ∧ ∀ i, i < k → orq W (c + 1) i = some (f i)))
section ZVL
variable {t0 : Nat} {X : Nat → Prop} {S0 S S' : zS} {ad : Nat → Nat} {W W' : zO} {c a k x : Nat} {f : Nat → Nat}
theorem vl.same (h : vl W c k f) (h1 : W' c = W c) (h2 : W' (c + 1) = W (c + 1)) : vl W' c k f := by
  unfold vl oa oi oq onn orq
  rw [h1, h2]
  exact h
theorem vl.cg (h : vl W c k f) {g : Nat → Nat} (hg : ∀ i, i < k → f i = g i) : vl W c k g := ⟨h.1, h.2.1, h.2.2.1, h.2.2.2.imp id (fun q => ⟨q.1, q.2.1, q.2.2.1, q.2.2.2.1, fun i hi => by rw [q.2.2.2.2 i hi, hg i hi]⟩)⟩
theorem vl.z (h : vl W c k f) (hH : zH t0 X S0 ad W S) (hk : kd c = 0) (ea : ad c = a) : zi S 2 a = nI k := (hH.i h.1 ea (by rw [hk]; decide)).trans h.2.1
theorem vl.al (h : vl W c k f) (hH : zH t0 X S0 ad W S) (hk : kd c = 0) (ea : ad c = a) : zA S a 0 := hH.al h.1 ea hk
/-- the row's address -/
def vlq (t0 : Nat) (ad : Nat → Nat) (W : zO) (c : Nat) : Nat := if oq W c 1 = some 0 then t0 else ad (c + 1)
theorem vl.E (h : vl W c k f) (hH : zH t0 X S0 ad W S) (hk : kd c = 0) (ea : ad c = a) : zq S 1 a = some (vlq t0 ad W c) := by
  have h9 := hH.q (id := 1) h.1 ea (by rw [hk]; decide)
  unfold vlq
  rcases h.2.2.2 with ⟨-, e⟩ | ⟨e, -⟩
  · rw [h9, e, if_pos rfl, ← hH.2.2.2.1]
    rfl
  · rw [h9, e, if_neg (fun e9 => by cases e9)]
    rfl
theorem vl.pos (h : vl W c k f) (hk : 0 < k) : oq W c 1 = some (c + 1) ∧ oa W (c + 1) ∧ k ≤ onn W (c + 1) ∧ onn W (c + 1) ∈ zcap ∧ ∀ i, i < k → orq W (c + 1) i = some (f i) := by
  rcases h.2.2.2 with ⟨e, -⟩ | e
  · omega
  · exact e
theorem vlq_row (h : oq W c 1 = some (c + 1)) : vlq t0 ad W c = ad (c + 1) := by
  unfold vlq
  rw [if_neg (by rw [h]; intro e; cases e)]
/-- what get needs -/
theorem vl.get (h : vl W c k f) (hH : zH t0 X S0 ad W S) (hk1 : kd (c + 1) = 19) {j : Nat} (hj : j < k) : zA S (vlq t0 ad W c) 19 ∧ k ≤ zn S (vlq t0 ad W c) ∧ zn S (vlq t0 ad W c) < 2 ^ 31 ∧ zrq S (vlq t0 ad W c) j = some (ad (f j)) := by
  obtain ⟨h1, h2, h3, h4, h5⟩ := h.pos (by omega)
  rw [vlq_row h1]
  have hn := hH.n h2 rfl (by rw [hk1]; decide)
  have hb := zcap_b _ h4
  refine ⟨hH.al h2 rfl hk1, by rw [hn]; exact h3, by rw [hn]; omega, ?_⟩
  rw [hH.rq h2 rfl (by rw [hk1]; decide) j, h5 j hj]
  rfl
/-- what add needs -/
theorem vl.row (h : vl W c k f) (hH : zH t0 X S0 ad W S) (hk1 : kd (c + 1) = 19) {ci : Nat} (hf : ∀ i, i < k → kd (f i) = ci) (h109 : k ≠ 109) : zrow t0 (oq W c 1 ≠ some 0) S (vlq t0 ad W c) k ci := by
  rcases h.2.2.2 with ⟨e, e2⟩ | ⟨e1, e2, e3, e4, e5⟩
  · exact Or.inl ⟨fun h9 => h9 e2, e, by unfold vlq; rw [if_pos e2]⟩
  · refine Or.inr ⟨(by rw [e1]; intro e9; cases e9), ?_⟩
    rw [vlq_row e1]
    have hn := hH.n e2 rfl (by rw [hk1]; decide)
    refine ⟨hH.al e2 rfl hk1, by rw [hn]; exact e4, by rw [hn]; exact e3, h109, fun i hi y hy => ?_⟩
    rw [hH.rq e2 rfl (by rw [hk1]; decide) i, e5 i hi] at hy
    have hd := (hH.cl e2).2 i (f i) (e5 i hi)
    cases hy
    exact hH.al hd.1 rfl (hf i hi)
/-- behind an add -/
theorem vl.add (h : vl W c k f) (hH : zH t0 X S0 ad W S) (hev : c % 2 = 0) (hk0 : kd c = 0) (hk1 : kd (c + 1) = 19) (hx : oa W x) (hxe : x % 2 = 0) {q1 u v : Nat} (eu : ad c = u) (ev : ad x = v) (hz : zadd (oq W c 1 ≠ some 0) S S' u (vlq t0 ad W c) q1 k v) : ∃ (ad' : Nat → Nat) (W' : zO), zH t0 X S0 ad' W' S' ∧ (∀ d, d ≠ c + 1 → ad' d = ad d) ∧ vl W' c (k + 1) (va_up f k x) ∧ ∀ d, d ≠ c → d ≠ c + 1 → W' d = W d := by
  subst eu
  subst ev
  obtain ⟨z1, z2, z3, z4, z5, z6, z7, z8, z9, z10, z11, z12, z13⟩ := hz
  have hlt : kd c < 13 := by rw [hk0]; decide
  have hge : 13 ≤ kd (c + 1) := by rw [hk1]; decide
  have hcE : zcl W c (W c) := hH.cl h.1
  have hrow : (q1 ∉ zL S) ∨ (oa W (c + 1) ∧ q1 = ad (c + 1)) := by
    rcases z1 with z | ⟨z, e⟩
    · exact Or.inl z
    · rcases h.2.2.2 with ⟨-, e2⟩ | ⟨e1, e2, -⟩
      · exact absurd e2 z
      · exact Or.inr ⟨e2, by rw [e, vlq_row e1]⟩
  let g : Nat → Option Nat := fun i => if i < k then some (f i) else if q1 ∈ zL S then orq W (c + 1) i else none
  let e : zE := (True, fun j => zi S' j (ad c), va_up (oq W c) 1 (some (c + 1)), fun j => zl S' j (ad c), 0, fun _ => 0, fun _ => 0, fun _ => none)
  let e2 : zE := (True, fun _ => 0, fun _ => none, fun _ => 0, zn S' q1, zri S' q1, zrj S' q1, va_up g k (some x))
  have hWc : va_up (va_up W c e) (c + 1) e2 c = e := by rw [va_up_ne _ _ (by omega), va_up_self]
  have hW1 : va_up (va_up W c e) (c + 1) e2 (c + 1) = e2 := va_up_self _ _ _
  have hup : ∀ d, oa W d → oa (va_up (va_up W c e) (c + 1) e2) d := fun d hd => by
    show (va_up (va_up W c e) (c + 1) e2 d).1
    by_cases q2 : d = c + 1
    · rw [q2, hW1]; exact trivial
    · by_cases q3 : d = c
      · rw [q3, hWc]; exact trivial
      · rw [va_up_ne _ _ q2, va_up_ne _ _ q3]; exact hd
  have hgk : ∀ i, i ≠ k → zrq S' q1 i = (g i).map (va_up ad (c + 1) q1) ∧ ∀ d, g i = some d → oa W d ∧ d % 2 = 0 := fun i hi => by
    have hold : ∀ i, i < k → oa W (c + 1) ∧ orq W (c + 1) i = some (f i) ∧ zrq S (vlq t0 ad W c) i = some (ad (f i)) ∧ oa W (f i) ∧ f i % 2 = 0 := fun i hi => by
      obtain ⟨p1, p2, p3, p4, p5⟩ := h.pos (by omega)
      have hd := (hH.cl p2).2 i (f i) (p5 i hi)
      exact ⟨p2, p5 i hi, (h.get hH hk1 hi).2.2.2, hd⟩
    have hmp : ∀ d, d % 2 = 0 → (some d).map (va_up ad (c + 1) q1) = some (ad d) := fun d hd => by
      show some (va_up ad (c + 1) q1 d) = _
      rw [va_up_ne _ _ (by omega)]
    by_cases hL : q1 ∈ zL S
    · rcases hrow with hr | ⟨r1, r2⟩
      · exact absurd hL hr
      · rcases z1 with z | ⟨z, ez⟩
        · exact absurd hL z
        · have hzi := (z13 z ez (ez ▸ hL)).2 i hi
          have e9 : vlq t0 ad W c = ad (c + 1) := ez.symm.trans r2
          rw [hzi, e9, hH.rq r1 rfl hge i]
          show _ = (if i < k then some (f i) else if q1 ∈ zL S then orq W (c + 1) i else none).map _ ∧ ∀ d, (if i < k then some (f i) else if q1 ∈ zL S then orq W (c + 1) i else none) = some d → _
          have hgi : (if i < k then some (f i) else if q1 ∈ zL S then orq W (c + 1) i else none) = orq W (c + 1) i := by
            by_cases hik : i < k
            · rw [if_pos hik, (hold i hik).2.1]
            · rw [if_neg hik, if_pos hL]
          rw [hgi]
          refine ⟨?_, fun d hd => (hH.cl r1).2 i d hd⟩
          cases ho : orq W (c + 1) i with
          | none => rfl
          | some d => exact (hmp d ((hH.cl r1).2 i d ho).2).symm
    · rw [z12 hL i hi]
      show _ = (if i < k then some (f i) else if q1 ∈ zL S then orq W (c + 1) i else none).map _ ∧ ∀ d, (if i < k then some (f i) else if q1 ∈ zL S then orq W (c + 1) i else none) = some d → _
      by_cases hik : i < k
      · obtain ⟨p1, p2, p3, p4⟩ := hold i hik
        rw [if_pos hik, if_pos hik, p3]
        exact ⟨(hmp _ p4.2).symm, fun d hd => by cases hd; exact p4⟩
      · rw [if_neg hik, if_neg hik, if_neg hL]
        exact ⟨rfl, fun d hd => by cases hd⟩
  refine ⟨va_up ad (c + 1) q1, va_up (va_up W c e) (c + 1) e2, ?_, fun d hd => va_up_ne _ _ hd, ?_, fun d h1 h2 => by rw [va_up_ne _ _ h2, va_up_ne _ _ h1]⟩
  · refine hH.two h.1 hev (e := e) (e2 := e2) trivial trivial hrow (fun b hb => ⟨(z3 b hb).1, (z3 b hb).2.1, fun hn => (z3 b hb).2.2 (fun e9 => hn ?_)⟩) (by rw [hk1]; exact z2) ⟨fun _ => ⟨fun _ => rfl, fun j => ?_, fun _ => rfl⟩, fun h9 => absurd hlt (Nat.not_lt.mpr h9)⟩ ⟨fun h9 => absurd h9 (Nat.not_lt.mpr hge), fun _ => ⟨rfl, rfl, rfl, fun i => ?_⟩⟩ ⟨fun j d hd => ?_, fun i d hd => (by cases hd)⟩ ⟨fun j d hd => (by cases hd), fun i d hd => ?_⟩
    · rcases e9 with e9 | e9
      · exact Or.inl e9
      · rcases hrow with hr | ⟨r1, r2⟩
        · exact absurd (e9 ▸ hb) hr
        · exact Or.inr ⟨r1, e9.trans r2⟩
    · show zq S' j (ad c) = (va_up (oq W c) 1 (some (c + 1)) j).map (va_up ad (c + 1) q1)
      by_cases ej : j = 1
      · subst ej
        rw [va_up_self, z4]
        show _ = some (va_up ad (c + 1) q1 (c + 1))
        rw [va_up_self]
      · rw [va_up_ne _ _ ej, z5 j ej, hH.q h.1 rfl hlt]
        rw [h.2.2.1 j ej]
        rfl
    · show zrq S' q1 i = (va_up g k (some x) i).map _
      by_cases ei : i = k
      · subst ei
        rw [va_up_self, z11]
        show _ = some (va_up ad (c + 1) q1 x)
        rw [va_up_ne _ _ (by omega)]
      · rw [va_up_ne _ _ ei]
        exact (hgk i ei).1
    · have hd2 : va_up (oq W c) 1 (some (c + 1)) j = some d := hd
      by_cases ej : j = 1
      · subst ej
        rw [va_up_self] at hd2
        cases hd2
        refine Or.inr ⟨?_, fun _ => rfl⟩
        show (va_up (va_up W c e) (c + 1) e2 (c + 1)).1
        rw [hW1]
        exact trivial
      · rw [va_up_ne _ _ ej] at hd2
        exact (hcE.1 j d hd2).imp id (fun g => ⟨hup d g.1, g.2⟩)
    · have hd2 : va_up g k (some x) i = some d := hd
      by_cases ei : i = k
      · subst ei
        rw [va_up_self] at hd2
        cases hd2
        exact ⟨hup x hx, hxe⟩
      · rw [va_up_ne _ _ ei] at hd2
        have h9 := (hgk i ei).2 d hd2
        exact ⟨hup d h9.1, h9.2⟩
  · refine ⟨?_, ?_, fun j ej => ?_, Or.inr ⟨?_, ?_, ?_, ?_, fun i hi => ?_⟩⟩
    · show (va_up (va_up W c e) (c + 1) e2 c).1
      rw [hWc]; exact trivial
    · show (va_up (va_up W c e) (c + 1) e2 c).2.1 2 = _
      rw [hWc]; exact z6
    · show (va_up (va_up W c e) (c + 1) e2 c).2.2.1 j = _
      rw [hWc]
      exact (va_up_ne _ _ ej).trans (h.2.2.1 j ej)
    · show (va_up (va_up W c e) (c + 1) e2 c).2.2.1 1 = _
      rw [hWc]
      show va_up (oq W c) 1 (some (c + 1)) 1 = _
      exact va_up_self _ _ _
    · show (va_up (va_up W c e) (c + 1) e2 (c + 1)).1
      rw [hW1]; exact trivial
    · show k + 1 ≤ (va_up (va_up W c e) (c + 1) e2 (c + 1)).2.2.2.2.1
      rw [hW1]; exact z9
    · show (va_up (va_up W c e) (c + 1) e2 (c + 1)).2.2.2.2.1 ∈ zcap
      rw [hW1]; exact z10
    · show (va_up (va_up W c e) (c + 1) e2 (c + 1)).2.2.2.2.2.2.2 i = some (va_up f k x i)
      rw [hW1]
      show va_up g k (some x) i = _
      by_cases ei : i = k
      · subst ei
        rw [va_up_self, va_up_self]
      · rw [va_up_ne _ _ ei, va_up_ne _ _ ei]
        show (if i < k then some (f i) else _) = _
        rw [if_pos (by omega)]
/-- behind a clear -/
theorem vl.clear (h : vl W c k f) (hH : zH t0 X S0 ad W S) (hk0 : kd c = 0) (hk1 : kd (c + 1) = 19) {u : Nat} {w : Int32} (eu : ad c = u) (hS : S' = zRq (zPi (zPi S 0 u w) 2 u 0) (vlq t0 ad W c) (fun i => if i < k then none else zrq S (vlq t0 ad W c) i)) : ∃ W' : zO, zH t0 X S0 ad W' S' ∧ vl W' c 0 f ∧ ∀ d, d ≠ c → d ≠ c + 1 → W' d = W d := by
  subst eu
  have h1 : zH t0 X S0 ad (oI W c 0 w) (zPi S 0 (ad c) w) := hH.pi h.1 rfl hk0 (by decide) w
  have a1 : oa (oI W c 0 w) c := (va_up_al (e := eI (W c) 0 w) h.1 h.1 c).mpr h.1
  have h2 : zH t0 X S0 ad (oI (oI W c 0 w) c 2 0) (zPi (zPi S 0 (ad c) w) 2 (ad c) 0) := h1.pi a1 rfl hk0 (by decide) 0
  have ec : oI (oI W c 0 w) c 2 0 c = eI (eI (W c) 0 w) 2 0 := by
    show va_up (va_up W c (eI (W c) 0 w)) c (eI (va_up W c (eI (W c) 0 w) c) 2 0) c = _
    rw [va_up_self, va_up_self]
  have eo : ∀ d, d ≠ c → oI (oI W c 0 w) c 2 0 d = W d := fun d hd => by
    show va_up (va_up W c (eI (W c) 0 w)) c (eI (va_up W c (eI (W c) 0 w) c) 2 0) d = _
    rw [va_up_ne _ _ hd, va_up_ne _ _ hd]
  have a2 : oa (oI (oI W c 0 w) c 2 0) c := by
    show (oI (oI W c 0 w) c 2 0 c).1
    rw [ec]; exact h.1
  rcases h.2.2.2 with ⟨e1, e2⟩ | ⟨e1, e2, e3, e4, e5⟩
  · subst e1
    have e6 : S' = zPi (zPi S 0 (ad c) w) 2 (ad c) 0 := hS.trans (zRq_id (fun i => by rw [if_neg (Nat.not_lt_zero i)]))
    subst e6
    refine ⟨_, h2, ⟨a2, ?_, fun j hj => ?_, Or.inl ⟨rfl, ?_⟩⟩, fun d hd _ => eo d hd⟩
    · show (oI (oI W c 0 w) c 2 0 c).2.1 2 = _
      rw [ec]
      show va_up (va_up (W c).2.1 0 w) 2 0 2 = _
      rw [va_up_self]
      rfl
    · show (oI (oI W c 0 w) c 2 0 c).2.2.1 j = _
      rw [ec]; exact h.2.2.1 j hj
    · show (oI (oI W c 0 w) c 2 0 c).2.2.1 1 = _
      rw [ec]; exact e2
  · rw [vlq_row e1] at hS
    have w1 : oI (oI W c 0 w) c 2 0 (c + 1) = W (c + 1) := eo _ (by omega)
    have b2 : oa (oI (oI W c 0 w) c 2 0) (c + 1) := by
      show (oI (oI W c 0 w) c 2 0 (c + 1)).1
      rw [w1]; exact e2
    have hge : 13 ≤ kd (c + 1) := by rw [hk1]; decide
    have hal : ∀ d, oa W d → oa (oI (oI W c 0 w) c 2 0) d := fun d hd => (va_up_al (e := eI (oI W c 0 w c) 2 0) a1 a1 d).mpr ((va_up_al (e := eI (W c) 0 w) h.1 h.1 d).mpr hd)
    have h3 := h2.srq b2 rfl hk1 (by decide) (fun i => if i < k then none else orq W (c + 1) i) (f2 := fun i => if i < k then none else zrq S (ad (c + 1)) i) (fun i => by
      by_cases hi : i < k
      · rw [if_pos hi, if_pos hi]; rfl
      · rw [if_neg hi, if_neg hi]; exact hH.rq e2 rfl hge i) (fun i d hd => by
      by_cases hi : i < k
      · rw [if_pos hi] at hd; cases hd
      · rw [if_neg hi] at hd
        have := (hH.cl e2).2 i d hd
        exact ⟨hal d this.1, this.2⟩)
    rw [← hS] at h3
    have w2 : ∀ d, d ≠ c + 1 → oRq (oI (oI W c 0 w) c 2 0) (c + 1) (fun i => if i < k then none else orq W (c + 1) i) d = oI (oI W c 0 w) c 2 0 d := fun d hd => va_up_ne _ _ hd
    have w3 : oRq (oI (oI W c 0 w) c 2 0) (c + 1) (fun i => if i < k then none else orq W (c + 1) i) (c + 1) = eRq (W (c + 1)) (fun i => if i < k then none else orq W (c + 1) i) := by
      show va_up _ (c + 1) (eRq (oI (oI W c 0 w) c 2 0 (c + 1)) _) (c + 1) = _
      rw [va_up_self, w1]
    have w4 := w2 c (by omega)
    refine ⟨_, h3, ⟨?_, ?_, fun j hj => ?_, Or.inr ⟨?_, ?_, Nat.zero_le _, ?_, fun i hi => absurd hi (Nat.not_lt_zero i)⟩⟩, fun d hd hd2 => (w2 d hd2).trans (eo d hd)⟩
    · show (oRq _ _ _ c).1
      rw [w4]; exact a2
    · show (oRq _ _ _ c).2.1 2 = _
      rw [w4, ec]
      show va_up (va_up (W c).2.1 0 w) 2 0 2 = _
      rw [va_up_self]
      rfl
    · show (oRq _ _ _ c).2.2.1 j = _
      rw [w4, ec]; exact h.2.2.1 j hj
    · show (oRq _ _ _ c).2.2.1 1 = _
      rw [w4, ec]; exact e1
    · show (oRq _ _ _ (c + 1)).1
      rw [w3]; exact e2
    · show (oRq _ _ _ (c + 1)).2.2.2.2.1 ∈ zcap
      rw [w3]; exact e4
/-- a new list -/
theorem vl.new (hH : zH t0 X S0 ad W S) {n q : Nat} (hn : ¬ oa W n) (h0 : n ≠ 0) (hq : q ∉ zL S) (hk : kd n = 0) : zH t0 X S0 (va_up ad n q) (oQ (oI (va_up W n eNo) n 0 0) n 1 (some 0)) (zPq (zPi (zNo S q 0) 0 q 0) 1 q (some t0)) ∧ vl (oQ (oI (va_up W n eNo) n 0 0) n 1 (some 0)) n 0 f := by
  have h1 := hH.newo hn h0 hq hk (by decide)
  have a0 : oa (va_up W n eNo) n := by
    show (va_up W n eNo n).1
    rw [va_up_self]; exact trivial
  have h2 := h1.pi (id := 0) a0 (va_up_self _ _ _) hk (by decide) 0
  have a1 : oa (oI (va_up W n eNo) n 0 0) n := (va_up_al (e := eI (va_up W n eNo n) 0 0) a0 a0 n).mpr a0
  have h3 := h2.pq (id := 1) a1 (va_up_self _ _ _) hk (by decide) (some 0) (x2 := some t0) (by
    show _ = some (va_up ad n q 0)
    rw [va_up_ne _ _ (fun e => h0 e.symm), hH.2.2.2.1]) (fun d hd => by cases hd; exact Or.inl rfl)
  have ec : oQ (oI (va_up W n eNo) n 0 0) n 1 (some 0) n = eQ (eI eNo 0 0) 1 (some 0) := by
    show va_up (va_up (va_up W n eNo) n (eI (va_up W n eNo n) 0 0)) n (eQ (va_up (va_up W n eNo) n (eI (va_up W n eNo n) 0 0) n) 1 (some 0)) n = _
    rw [va_up_self, va_up_self, va_up_self]
  refine ⟨h3, ?_, ?_, fun j hj => ?_, Or.inl ⟨rfl, ?_⟩⟩
  · show (oQ _ _ _ _ n).1
    rw [ec]; exact trivial
  · show (oQ _ _ _ _ n).2.1 2 = _
    rw [ec]; rfl
  · show (oQ _ _ _ _ n).2.2.1 j = _
    rw [ec]; exact va_up_ne _ _ hj
  · show (oQ _ _ _ _ n).2.2.1 1 = _
    rw [ec]
    rfl
end ZVL
