/-- a cell of the linker's world: is it there; int, reference, long fields by number; the row's length, ints, longs, references -/
abbrev zE : Type := Prop × (Nat → Int32) × (Nat → Option Nat) × (Nat → Int64) × Nat × (Nat → Int32) × (Nat → Int64) × (Nat → Option Nat)
/-- the linker's world: a cell for each number of a thing (even: a thing that keeps its place; odd: the row of the list, or of the bytes, before it; 0: the empty row of all new lists) -/
abbrev zO : Type := Nat → zE
abbrev oa (W : zO) (c : Nat) : Prop := (W c).1
abbrev oi (W : zO) (c id : Nat) : Int32 := (W c).2.1 id
abbrev oq (W : zO) (c id : Nat) : Option Nat := (W c).2.2.1 id
abbrev ol (W : zO) (c id : Nat) : Int64 := (W c).2.2.2.1 id
abbrev onn (W : zO) (c : Nat) : Nat := (W c).2.2.2.2.1
abbrev ori (W : zO) (c : Nat) : Nat → Int32 := (W c).2.2.2.2.2.1
abbrev orj (W : zO) (c : Nat) : Nat → Int64 := (W c).2.2.2.2.2.2.1
abbrev orq (W : zO) (c : Nat) : Nat → Option Nat := (W c).2.2.2.2.2.2.2
abbrev eI (e : zE) (id : Nat) (x : Int32) : zE := (e.1, va_up e.2.1 id x, e.2.2)
abbrev eQ (e : zE) (id : Nat) (x : Option Nat) : zE := (e.1, e.2.1, va_up e.2.2.1 id x, e.2.2.2)
abbrev eL (e : zE) (id : Nat) (x : Int64) : zE := (e.1, e.2.1, e.2.2.1, va_up e.2.2.2.1 id x, e.2.2.2.2)
abbrev eRi (e : zE) (f : Nat → Int32) : zE := (e.1, e.2.1, e.2.2.1, e.2.2.2.1, e.2.2.2.2.1, f, e.2.2.2.2.2.2)
abbrev eRj (e : zE) (f : Nat → Int64) : zE := (e.1, e.2.1, e.2.2.1, e.2.2.2.1, e.2.2.2.2.1, e.2.2.2.2.2.1, f, e.2.2.2.2.2.2.2)
abbrev eRq (e : zE) (f : Nat → Option Nat) : zE := (e.1, e.2.1, e.2.2.1, e.2.2.2.1, e.2.2.2.2.1, e.2.2.2.2.2.1, e.2.2.2.2.2.2.1, f)
abbrev eNo : zE := (True, fun _ => 0, fun _ => none, fun _ => 0, 0, fun _ => 0, fun _ => 0, fun _ => none)
abbrev eNa (n : Nat) : zE := (True, fun _ => 0, fun _ => none, fun _ => 0, n, fun _ => 0, fun _ => 0, fun _ => none)
abbrev oI (W : zO) (c id : Nat) (x : Int32) : zO := va_up W c (eI (W c) id x)
abbrev oQ (W : zO) (c id : Nat) (x : Option Nat) : zO := va_up W c (eQ (W c) id x)
abbrev oL (W : zO) (c id : Nat) (x : Int64) : zO := va_up W c (eL (W c) id x)
abbrev oRi (W : zO) (c : Nat) (f : Nat → Int32) : zO := va_up W c (eRi (W c) f)
abbrev oRj (W : zO) (c : Nat) (f : Nat → Int64) : zO := va_up W c (eRj (W c) f)
abbrev oRq (W : zO) (c : Nat) (f : Nat → Option Nat) : zO := va_up W c (eRq (W c) f)
/-- the kind of a thing by its number: 2 the linker, 4 its units, 6 names, 8 check, 10 image, 12 writer, 14 machine, 16 18 20 rows of names, 22 .. 30 of check, 32 .. 38 lists and 40 42 rows of image, 44 46 48 bytes of writer, 50 .. 58 rows of machine; 100 + 8 o a unit and its lists, 200 + 12 f a routine and its rows, 800 + 4 g a segment and its bytes, 900 + 2 y a symbol -/
def kd (c : Nat) : Nat :=
  if c < 60 then [19, 19, 11, 0, 0, 19, 6, 0, 2, 0, 3, 0, 5, 0, 4, 0, 18, 0, 18, 0, 18, 0, 14, 0, 14, 0, 14, 0, 14, 0, 16, 0, 0, 19, 0, 19, 0, 19, 0, 19, 14, 0, 14, 0, 1, 13, 1, 13, 1, 13, 15, 0, 17, 0, 14, 0, 14, 0, 13, 0].getD c 0
  else if c < 200 then [10, 0, 0, 19, 0, 19, 0, 19].getD ((c - 100) % 8) 0
  else if c < 800 then (if (c - 200) % 12 = 0 then 7 else 14)
  else if c < 900 then (if (c - 800) % 4 = 0 then 8 else 13)
  else 9
def zHc (k : Nat) (ad : Nat → Nat) (e : zE) (S : zS) (a : Nat) : Prop := (k < 13 → (∀ id, zi S id a = e.2.1 id) ∧ (∀ id, zq S id a = (e.2.2.1 id).map ad) ∧ ∀ id, zl S id a = e.2.2.2.1 id) ∧ (13 ≤ k → zn S a = e.2.2.2.2.1 ∧ zri S a = e.2.2.2.2.2.1 ∧ zrj S a = e.2.2.2.2.2.2.1 ∧ ∀ i, zrq S a i = (e.2.2.2.2.2.2.2 i).map ad)
/-- what a cell's references go to -/
def zcl (W : zO) (c : Nat) (e : zE) : Prop := (∀ id d, e.2.2.1 id = some d → d = 0 ∨ (oa W d ∧ (d % 2 = 1 → d = c + 1))) ∧ ∀ i d, e.2.2.2.2.2.2.2 i = some d → oa W d ∧ d % 2 = 0
/-- the world S holds the linker's world W, each thing at its address; what isn't the linker's is as in S0 -/
def zH (t0 : Nat) (X : Nat → Prop) (S0 : zS) (ad : Nat → Nat) (W : zO) (S : zS) : Prop :=
  zfr S0 S X ∧ (∀ c, oa W c → zA S (ad c) (kd c) ∧ (ad c ∈ zL S0 → X (ad c)) ∧ zHc (kd c) ad (W c) S (ad c) ∧ zcl W c (W c)) ∧ (∀ c d, oa W c → oa W d → ad c = ad d → c = d) ∧ ad 0 = t0 ∧ ¬ oa W 0
section ZHH
variable {t0 : Nat} {X : Nat → Prop} {S0 S S' : zS} {ad : Nat → Nat} {W : zO} {c a id : Nat}
theorem zH.fr (h : zH t0 X S0 ad W S) : zfr S0 S X := h.1
theorem zH.al (h : zH t0 X S0 ad W S) (hc : oa W c) (ea : ad c = a) {k : Nat} (hk : kd c = k) : zA S a k := by
  subst ea
  subst hk
  exact (h.2.1 c hc).1
theorem zH.i (h : zH t0 X S0 ad W S) (hc : oa W c) (ea : ad c = a) (hk : kd c < 13) : zi S id a = oi W c id := by
  subst ea
  exact ((h.2.1 c hc).2.2.1.1 hk).1 id
theorem zH.q (h : zH t0 X S0 ad W S) (hc : oa W c) (ea : ad c = a) (hk : kd c < 13) : zq S id a = (oq W c id).map ad := by
  subst ea
  exact ((h.2.1 c hc).2.2.1.1 hk).2.1 id
theorem zH.qS (h : zH t0 X S0 ad W S) (hc : oa W c) (ea : ad c = a) (hk : kd c < 13) {d b : Nat} (hq : oq W c id = some d) (eb : ad d = b) : zq S id a = some b := by
  subst eb
  rw [h.q hc ea hk, hq]
  rfl
theorem zH.qN (h : zH t0 X S0 ad W S) (hc : oa W c) (ea : ad c = a) (hk : kd c < 13) (hq : oq W c id = none) : zq S id a = none := by
  rw [h.q hc ea hk, hq]
  rfl
theorem zH.l (h : zH t0 X S0 ad W S) (hc : oa W c) (ea : ad c = a) (hk : kd c < 13) : zl S id a = ol W c id := by
  subst ea
  exact ((h.2.1 c hc).2.2.1.1 hk).2.2 id
theorem zH.n (h : zH t0 X S0 ad W S) (hc : oa W c) (ea : ad c = a) (hk : 13 ≤ kd c) : zn S a = onn W c := by
  subst ea
  exact ((h.2.1 c hc).2.2.1.2 hk).1
theorem zH.ri (h : zH t0 X S0 ad W S) (hc : oa W c) (ea : ad c = a) (hk : 13 ≤ kd c) : zri S a = ori W c := by
  subst ea
  exact ((h.2.1 c hc).2.2.1.2 hk).2.1
theorem zH.rj (h : zH t0 X S0 ad W S) (hc : oa W c) (ea : ad c = a) (hk : 13 ≤ kd c) : zrj S a = orj W c := by
  subst ea
  exact ((h.2.1 c hc).2.2.1.2 hk).2.2.1
theorem zH.rq (h : zH t0 X S0 ad W S) (hc : oa W c) (ea : ad c = a) (hk : 13 ≤ kd c) (i : Nat) : zrq S a i = (orq W c i).map ad := by
  subst ea
  exact ((h.2.1 c hc).2.2.1.2 hk).2.2.2 i
theorem zH.ne (h : zH t0 X S0 ad W S) {d : Nat} (hc : oa W c) (hd : oa W d) (e : d ≠ c) : ad d ≠ ad c := fun e2 => e (h.2.2.1 d c hd hc e2)
theorem zH.c0 (h : zH t0 X S0 ad W S) (hc : oa W c) : c ≠ 0 := fun e => h.2.2.2.2 (e ▸ hc)
theorem zH.cl (h : zH t0 X S0 ad W S) (hc : oa W c) : zcl W c (W c) := (h.2.1 c hc).2.2.2
theorem va_up_al {W : zO} {c : Nat} {e : zE} (hc : oa W c) (he : e.1) (d : Nat) : oa (va_up W c e) d ↔ oa W d := by
  by_cases hd : d = c
  · subst hd
    show (va_up W d e d).1 ↔ _
    rw [va_up_self]
    exact ⟨fun _ => hc, fun _ => he⟩
  · show (va_up W c e d).1 ↔ _
    rw [va_up_ne _ _ hd]
theorem zcl.up {W : zO} {c d : Nat} {e e2 : zE} (hc : oa W c) (he : e.1) (h : zcl W d e2) : zcl (va_up W c e) d e2 :=
  ⟨fun i x hx => (h.1 i x hx).imp id (fun q => ⟨(va_up_al hc he x).mpr q.1, q.2⟩), fun i x hx => ⟨(va_up_al hc he x).mpr (h.2 i x hx).1, (h.2 i x hx).2⟩⟩
theorem zHc.sm {k : Nat} {e : zE} (h : zHc k ad e S a) (hs : zsm S S' a) : zHc k ad e S' a := by
  obtain ⟨s1, s2, s3, s4, s5, s6, s7⟩ := hs
  exact ⟨fun hk => ⟨fun j => (s1 j).trans ((h.1 hk).1 j), fun j => (s2 j).trans ((h.1 hk).2.1 j), fun j => (s3 j).trans ((h.1 hk).2.2 j)⟩, fun hk => ⟨s4.trans (h.2 hk).1, s5.trans (h.2 hk).2.1, s6.trans (h.2 hk).2.2.1, fun i => (congrFun s7 i).trans ((h.2 hk).2.2.2 i)⟩⟩
/-- one cell changes -/
theorem zH.upc (h : zH t0 X S0 ad W S) (hc : oa W c) {e : zE} (he : e.1) (hfr : zfr S S' (fun b => b = ad c)) (hcell : zHc (kd c) ad e S' (ad c)) (hcl : zcl W c e) : zH t0 X S0 ad (va_up W c e) S' := by
  have hal := va_up_al hc he
  refine ⟨zfr.tr h.1 hfr (fun b hb e1 => ?_), fun d hd => ?_, fun d d2 h1 h2 => h.2.2.1 d d2 ((hal d).mp h1) ((hal d2).mp h2), h.2.2.2.1, fun h0 => h.2.2.2.2 ((hal 0).mp h0)⟩
  · subst e1
    exact (h.2.1 c hc).2.1 hb
  · have hd2 := (hal d).mp hd
    have hA := (h.2.1 d hd2).1
    refine ⟨hfr.al hA, (h.2.1 d hd2).2.1, ?_⟩
    by_cases e2 : d = c
    · subst e2
      rw [va_up_self]
      exact ⟨hcell, zcl.up hc he hcl⟩
    · rw [va_up_ne _ _ e2]
      exact ⟨(h.2.1 d hd2).2.2.1.sm (hfr.sm hA.1 (h.ne hc hd2 e2)), zcl.up hc he (h.cl hd2)⟩
theorem zH.pi (h : zH t0 X S0 ad W S) (hc : oa W c) (ea : ad c = a) {k : Nat} (hk : kd c = k) (hk2 : k < 13) (x : Int32) : zH t0 X S0 ad (oI W c id x) (zPi S id a x) := by
  subst ea
  subst hk
  have hh := (h.2.1 c hc).2.2.1.1 hk2
  refine h.upc hc hc (zfr.pi zfr.rf (fun _ => rfl)) ⟨fun _ => ⟨fun j => ?_, hh.2.1, hh.2.2⟩, fun h9 => absurd hk2 (Nat.not_lt.mpr h9)⟩ ⟨(h.cl hc).1, (h.cl hc).2⟩
  show z2 (zi S) id (ad c) x j (ad c) = va_up (W c).2.1 id x j
  by_cases e : j = id
  · subst e
    rw [z2_s, va_up_self]
  · rw [z2_n _ _ (Or.inl e), va_up_ne _ _ e]
    exact hh.1 j
theorem zH.pl (h : zH t0 X S0 ad W S) (hc : oa W c) (ea : ad c = a) {k : Nat} (hk : kd c = k) (hk2 : k < 13) (x : Int64) : zH t0 X S0 ad (oL W c id x) (zPl S id a x) := by
  subst ea
  subst hk
  have hh := (h.2.1 c hc).2.2.1.1 hk2
  refine h.upc hc hc (zfr.pl zfr.rf (fun _ => rfl)) ⟨fun _ => ⟨hh.1, hh.2.1, fun j => ?_⟩, fun h9 => absurd hk2 (Nat.not_lt.mpr h9)⟩ ⟨(h.cl hc).1, (h.cl hc).2⟩
  show z2 (zl S) id (ad c) x j (ad c) = va_up (W c).2.2.2.1 id x j
  by_cases e : j = id
  · subst e
    rw [z2_s, va_up_self]
  · rw [z2_n _ _ (Or.inl e), va_up_ne _ _ e]
    exact hh.2.2 j
theorem zH.pq (h : zH t0 X S0 ad W S) (hc : oa W c) (ea : ad c = a) {k : Nat} (hk : kd c = k) (hk2 : k < 13) (x : Option Nat) {x2 : Option Nat} (ex : x2 = x.map ad) (hx : ∀ d, x = some d → d = 0 ∨ (oa W d ∧ d % 2 = 0)) : zH t0 X S0 ad (oQ W c id x) (zPq S id a x2) := by
  subst ex
  subst ea
  subst hk
  have hh := (h.2.1 c hc).2.2.1.1 hk2
  refine h.upc hc hc (zfr.pq zfr.rf (fun _ => rfl)) ⟨fun _ => ⟨hh.1, fun j => ?_, hh.2.2⟩, fun h9 => absurd hk2 (Nat.not_lt.mpr h9)⟩ ⟨fun j d hd => ?_, (h.cl hc).2⟩
  · show z2 (zq S) id (ad c) (x.map ad) j (ad c) = (va_up (W c).2.2.1 id x j).map ad
    by_cases e : j = id
    · subst e
      rw [z2_s, va_up_self]
    · rw [z2_n _ _ (Or.inl e), va_up_ne _ _ e]
      exact hh.2.1 j
  · have hd2 : va_up (W c).2.2.1 id x j = some d := hd
    by_cases e : j = id
    · subst e
      rw [va_up_self] at hd2
      exact (hx d hd2).imp id (fun g => ⟨g.1, fun h1 => absurd g.2 (by omega)⟩)
    · rw [va_up_ne _ _ e] at hd2
      exact (h.cl hc).1 j d hd2
theorem zH.sri (h : zH t0 X S0 ad W S) (hc : oa W c) (ea : ad c = a) {k : Nat} (hk : kd c = k) (hk2 : 13 ≤ k) (f : Nat → Int32) : zH t0 X S0 ad (oRi W c f) (zRi S a f) := by
  subst ea
  subst hk
  have hh := (h.2.1 c hc).2.2.1.2 hk2
  exact h.upc hc hc (zfr.ri zfr.rf (fun _ => rfl)) ⟨fun h9 => absurd h9 (Nat.not_lt.mpr hk2), fun _ => ⟨hh.1, va_up_self _ _ _, hh.2.2.1, hh.2.2.2⟩⟩ ⟨(h.cl hc).1, (h.cl hc).2⟩
theorem zH.srj (h : zH t0 X S0 ad W S) (hc : oa W c) (ea : ad c = a) {k : Nat} (hk : kd c = k) (hk2 : 13 ≤ k) (f : Nat → Int64) : zH t0 X S0 ad (oRj W c f) (zRj S a f) := by
  subst ea
  subst hk
  have hh := (h.2.1 c hc).2.2.1.2 hk2
  exact h.upc hc hc (zfr.rj zfr.rf (fun _ => rfl)) ⟨fun h9 => absurd h9 (Nat.not_lt.mpr hk2), fun _ => ⟨hh.1, hh.2.1, va_up_self _ _ _, hh.2.2.2⟩⟩ ⟨(h.cl hc).1, (h.cl hc).2⟩
theorem zH.srq (h : zH t0 X S0 ad W S) (hc : oa W c) (ea : ad c = a) {k : Nat} (hk : kd c = k) (hk2 : 13 ≤ k) (f : Nat → Option Nat) {f2 : Nat → Option Nat} (ef : ∀ i, f2 i = (f i).map ad) (hf : ∀ i d, f i = some d → oa W d ∧ d % 2 = 0) : zH t0 X S0 ad (oRq W c f) (zRq S a f2) := by
  subst ea
  subst hk
  have hh := (h.2.1 c hc).2.2.1.2 hk2
  refine h.upc hc hc (zfr.rq zfr.rf (fun _ => rfl)) ⟨fun h9 => absurd h9 (Nat.not_lt.mpr hk2), fun _ => ⟨hh.1, hh.2.1, hh.2.2.1, fun i => ?_⟩⟩ ⟨(h.cl hc).1, hf⟩
  show va_up (zrq S) (ad c) f2 (ad c) i = _
  rw [va_up_self]
  exact ef i
/-- a place of a row of references -/
theorem zH.srq1 (h : zH t0 X S0 ad W S) (hc : oa W c) (ea : ad c = a) {k : Nat} (hk : kd c = k) (hk2 : 13 ≤ k) (j : Nat) (x : Option Nat) {x2 : Option Nat} (ex : x2 = x.map ad) (hx : ∀ d, x = some d → oa W d ∧ d % 2 = 0) : zH t0 X S0 ad (oRq W c (va_up (orq W c) j x)) (zRq S a (va_up (zrq S a) j x2)) := by
  refine h.srq hc ea hk hk2 _ (fun i => ?_) (fun i d hd => ?_)
  · by_cases e : i = j
    · subst e
      rw [va_up_self, va_up_self, ex]
    · rw [va_up_ne _ _ e, va_up_ne _ _ e]
      exact h.rq hc ea (by rw [hk]; exact hk2) i
  · by_cases e : i = j
    · subst e
      rw [va_up_self] at hd
      exact hx d hd
    · rw [va_up_ne _ _ e] at hd
      exact (h.cl hc).2 i d hd
/-- a new thing, or a new row of a list whose reference to it is written in the same breath -/
theorem zH.new (h : zH t0 X S0 ad W S) {n q : Nat} (hn : ¬ oa W n) (h0 : n ≠ 0) (hq : q ∉ zL S) {e : zE} (he : e.1) (hfr : zfr S S' (fun _ => False)) (hA : zA S' q (kd n)) (hcell : zHc (kd n) (va_up ad n q) e S' q) (hcl : zcl (va_up W n e) n e) : zH t0 X S0 (va_up ad n q) (va_up W n e) S' := by
  have hne : ∀ d, oa W d → d ≠ n := fun d hd e1 => hn (e1 ▸ hd)
  have hal : ∀ d, oa (va_up W n e) d → d = n ∨ (d ≠ n ∧ oa W d) := fun d hd => by
    by_cases e1 : d = n
    · exact Or.inl e1
    · refine Or.inr ⟨e1, ?_⟩
      have hd2 : (va_up W n e d).1 := hd
      rw [va_up_ne _ _ e1] at hd2
      exact hd2
  have hup : ∀ d, oa W d → oa (va_up W n e) d := fun d hd => by
    show (va_up W n e d).1
    rw [va_up_ne _ _ (hne d hd)]
    exact hd
  have hmap : ∀ (x : Option Nat), (∀ y, x = some y → y = 0 ∨ oa W y) → x.map ad = x.map (va_up ad n q) := fun x hx => by
    cases x with
    | none => rfl
    | some y =>
      show some (ad y) = some (va_up ad n q y)
      rw [va_up_ne _ _ (by rcases hx y rfl with h1 | h1; · rw [h1]; exact fun e => h0 e.symm
                           · exact hne y h1)]
  refine ⟨zfr.tr h.1 hfr (fun _ _ e1 => e1.elim), fun d hd => ?_, fun d d2 h1 h2 e1 => ?_, ?_, fun h1 => ?_⟩
  · rcases hal d hd with e1 | ⟨e1, hd2⟩
    · subst e1
      rw [va_up_self, va_up_self]
      exact ⟨hA, fun hm => absurd (h.1 q hm).1 hq, hcell, hcl⟩
    · obtain ⟨g1, g2, g3, g4⟩ := h.2.1 d hd2
      rw [va_up_ne _ _ e1, va_up_ne _ _ e1]
      refine ⟨hfr.al g1, g2, ?_, fun i x hx => (g4.1 i x hx).imp id (fun g => ⟨hup x g.1, g.2⟩), fun i x hx => ⟨hup x (g4.2 i x hx).1, (g4.2 i x hx).2⟩⟩
      have g5 := g3.sm (hfr.sm g1.1 (fun e9 => e9))
      refine ⟨fun hk => ⟨(g5.1 hk).1, fun j => ((g5.1 hk).2.1 j).trans (hmap _ (fun y hy => (g4.1 j y hy).imp id (fun g => g.1))), (g5.1 hk).2.2⟩, fun hk => ⟨(g5.2 hk).1, (g5.2 hk).2.1, (g5.2 hk).2.2.1, fun i => ((g5.2 hk).2.2.2 i).trans (hmap _ (fun y hy => Or.inr (g4.2 i y hy).1))⟩⟩
  · rcases hal d h1 with q1 | ⟨q1, w1⟩ <;> rcases hal d2 h2 with q2 | ⟨q2, w2⟩
    · rw [q1, q2]
    · subst q1
      rw [va_up_self, va_up_ne _ _ q2] at e1
      exact absurd (e1 ▸ (h.2.1 d2 w2).1.1) hq
    · subst q2
      rw [va_up_self, va_up_ne _ _ q1] at e1
      exact absurd (e1 ▸ (h.2.1 d w1).1.1) hq
    · rw [va_up_ne _ _ q1, va_up_ne _ _ q2] at e1
      exact h.2.2.1 d d2 w1 w2 e1
  · rw [va_up_ne _ _ (fun e9 => h0 e9.symm)]
    exact h.2.2.2.1
  · rcases hal 0 h1 with e9 | ⟨-, w⟩
    · exact h0 e9.symm
    · exact h.2.2.2.2 w
theorem zH.newo (h : zH t0 X S0 ad W S) {n q : Nat} (hn : ¬ oa W n) (h0 : n ≠ 0) (hq : q ∉ zL S) {k : Nat} (hk : kd n = k) (hk2 : k < 13) : zH t0 X S0 (va_up ad n q) (va_up W n eNo) (zNo S q k) := by
  subst hk
  refine h.new hn h0 hq trivial (zfr.no zfr.rf hq) zA.noq ⟨fun _ => ⟨fun j => ?_, fun j => ?_, fun j => ?_⟩, fun h9 => absurd hk2 (Nat.not_lt.mpr h9)⟩ ⟨fun _ _ h1 => (by cases h1), fun _ _ h1 => (by cases h1)⟩
  · simp [zi, zNo, zat]
  · simp [zq, zNo, zat]
  · simp [zl, zNo, zat]
theorem zH.newa (h : zH t0 X S0 ad W S) {n q : Nat} (hn : ¬ oa W n) (h0 : n ≠ 0) (hq : q ∉ zL S) {k m : Nat} (hk : kd n = k) (hk2 : 13 ≤ k) : zH t0 X S0 (va_up ad n q) (va_up W n (eNa m)) (zNa S q k m) := by
  subst hk
  refine h.new hn h0 hq trivial (zfr.na zfr.rf hq) zA.naq ⟨fun h9 => absurd h9 (Nat.not_lt.mpr hk2), fun _ => ⟨va_up_self _ _ _, va_up_self _ _ _, va_up_self _ _ _, fun i => ?_⟩⟩ ⟨fun _ _ h1 => (by cases h1), fun _ _ h1 => (by cases h1)⟩
  show va_up (zrq S) q (fun _ => none) q i = _
  rw [va_up_self]
  rfl
/-- a thing and its odd neighbour change together, the neighbour perhaps at a new place -/
theorem zH.two (h : zH t0 X S0 ad W S) (hc : oa W c) (hev : c % 2 = 0) {q : Nat} {e e2 : zE} (he : e.1) (he2 : e2.1) (hq : q ∉ zL S ∨ (oa W (c + 1) ∧ q = ad (c + 1))) (hfr : zfr S S' (fun b => b = ad c ∨ (oa W (c + 1) ∧ b = ad (c + 1)))) (hA : zA S' q (kd (c + 1))) (hcell : zHc (kd c) (va_up ad (c + 1) q) e S' (ad c)) (hcell2 : zHc (kd (c + 1)) (va_up ad (c + 1) q) e2 S' q) (hcl : zcl (va_up (va_up W c e) (c + 1) e2) c e) (hcl2 : zcl (va_up (va_up W c e) (c + 1) e2) (c + 1) e2) : zH t0 X S0 (va_up ad (c + 1) q) (va_up (va_up W c e) (c + 1) e2) S' := by
  have hW : ∀ d, d ≠ c → d ≠ c + 1 → va_up (va_up W c e) (c + 1) e2 d = W d := fun d h1 h2 => by rw [va_up_ne _ _ h2, va_up_ne _ _ h1]
  have hWc : va_up (va_up W c e) (c + 1) e2 c = e := by rw [va_up_ne _ _ (by omega), va_up_self]
  have hW1 : va_up (va_up W c e) (c + 1) e2 (c + 1) = e2 := va_up_self _ _ _
  have hup : ∀ d, oa W d → oa (va_up (va_up W c e) (c + 1) e2) d := fun d hd => by
    show (va_up (va_up W c e) (c + 1) e2 d).1
    by_cases q2 : d = c + 1
    · rw [q2, hW1]; exact he2
    · by_cases q1 : d = c
      · rw [q1, hWc]; exact he
      · rw [hW d q1 q2]; exact hd
  have hdn : ∀ d, d ≠ c + 1 → oa (va_up (va_up W c e) (c + 1) e2) d → oa W d := fun d h1 hd => by
    by_cases q1 : d = c
    · rw [q1]; exact hc
    · have hd2 : (va_up (va_up W c e) (c + 1) e2 d).1 := hd
      rw [hW d q1 h1] at hd2
      exact hd2
  have hqn : ∀ d, oa W d → d ≠ c + 1 → ad d ≠ q := fun d hd h1 e1 => by
    rcases hq with h2 | ⟨h2, h3⟩
    · exact h2 (e1 ▸ (h.2.1 d hd).1.1)
    · exact h1 (h.2.2.1 d (c + 1) hd h2 (e1.trans h3))
  have hmap1 : ∀ x : Option Nat, (∀ y, x = some y → oa W y ∧ y % 2 = 0) → x.map ad = x.map (va_up ad (c + 1) q) := fun x hx => by
    cases x with
    | none => rfl
    | some y =>
      show some (ad y) = some (va_up ad (c + 1) q y)
      rw [va_up_ne _ _ (fun e1 => by have := (hx y rfl).2; omega)]
  refine ⟨zfr.tr h.1 hfr (fun b hb e1 => ?_), fun d hd => ?_, fun d d2 h1 h2 e1 => ?_, ?_, fun h1 => ?_⟩
  · rcases e1 with e1 | ⟨g1, e1⟩
    · subst e1; exact (h.2.1 c hc).2.1 hb
    · subst e1; exact (h.2.1 _ g1).2.1 hb
  · by_cases q2 : d = c + 1
    · subst q2
      rw [hW1, va_up_self]
      refine ⟨hA, fun hm => ?_, hcell2, hcl2⟩
      rcases hq with h2 | ⟨h2, h3⟩
      · exact absurd (h.1 q hm).1 h2
      · subst h3; exact (h.2.1 _ h2).2.1 hm
    · rw [va_up_ne _ _ q2]
      have hd2 := hdn d q2 hd
      obtain ⟨g1, g2, g3, g4⟩ := h.2.1 d hd2
      by_cases q1 : d = c
      · subst q1
        rw [hWc]
        exact ⟨hfr.al g1, g2, hcell, hcl⟩
      · rw [hW d q1 q2]
        refine ⟨hfr.al g1, g2, ?_, fun i x hx => (g4.1 i x hx).imp id (fun g => ⟨hup x g.1, g.2⟩), fun i x hx => ⟨hup x (g4.2 i x hx).1, (g4.2 i x hx).2⟩⟩
        have hns : ¬ (ad d = ad c ∨ (oa W (c + 1) ∧ ad d = ad (c + 1))) := fun e9 => by
          rcases e9 with e9 | ⟨e8, e9⟩
          · exact q1 (h.2.2.1 d c hd2 hc e9)
          · exact q2 (h.2.2.1 d _ hd2 e8 e9)
        have g5 := g3.sm (hfr.sm g1.1 hns)
        refine ⟨fun hk => ⟨(g5.1 hk).1, fun j => ((g5.1 hk).2.1 j).trans ?_, (g5.1 hk).2.2⟩, fun hk => ⟨(g5.2 hk).1, (g5.2 hk).2.1, (g5.2 hk).2.2.1, fun i => ((g5.2 hk).2.2.2 i).trans (hmap1 _ (fun y hy => g4.2 i y hy))⟩⟩
        cases hx : (W d).2.2.1 j with
        | none => rfl
        | some y =>
          show some (ad y) = some (va_up ad (c + 1) q y)
          rw [va_up_ne _ _ (fun e1 => by
            rcases g4.1 j y hx with h1 | ⟨_, h1⟩
            · omega
            · have := h1 (by omega)
              omega)]
  · by_cases q1 : d = c + 1
    · by_cases q2 : d2 = c + 1
      · rw [q1, q2]
      · subst q1
        rw [va_up_self, va_up_ne _ _ q2] at e1
        exact absurd e1.symm (hqn d2 (hdn d2 q2 h2) q2)
    · by_cases q2 : d2 = c + 1
      · subst q2
        rw [va_up_self, va_up_ne _ _ q1] at e1
        exact absurd e1 (hqn d (hdn d q1 h1) q1)
      · rw [va_up_ne _ _ q1, va_up_ne _ _ q2] at e1
        exact h.2.2.1 d d2 (hdn d q1 h1) (hdn d2 q2 h2) e1
  · rw [va_up_ne _ _ (by omega)]
    exact h.2.2.2.1
  · exact h.2.2.2.2 (hdn 0 (by omega) h1)
end ZHH
section ZGN
variable {p : Program} {l : Launch} {e : Env} {R : Room} {s : State} {m : MethodId} {args : Array Value} {below : List Frame} {meth : Method} {c : Code} {Q : State → Prop} {N0 : Nat} {D : va_G} {cy : Nat → ClassId} {nL cells slots pc : Nat} {S : zS} {lv : List (Nat × Value)} {st : List Value}
/-- the world by what is known of it alone -/
theorem zgen {P : zS → Prop} (h : P S) (k : ∀ S', P S' → zW p l e R s m args below meth c Q N0 D cy nL cells slots S' lv pc st) : zW p l e R s m args below meth c Q N0 D cy nL cells slots S lv pc st := k S h
end ZGN
