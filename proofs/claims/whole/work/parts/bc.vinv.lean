/-- what the tables always keep -/
def vI (v : zV) : Prop := vRg v ∧ vA v ∧ vZ v ∧ vD v ∧ vB v
section ZVI
variable {v v1 : zV}
theorem vI.L (h : vL v v1) (hI : vI v) : vI v1 := by
  obtain ⟨h1, h2, h3, h4, h5⟩ := hI
  refine ⟨h.rg h1, h.A h2, ⟨fun f hf ht => ?_, fun g hg ht => ?_⟩, h.D h4, fun i hi => ?_⟩
  · rw [h.c (by omega)] at ht
    obtain ⟨q1, q2⟩ := h3.1 f hf ht
    exact ⟨(h _ _ (by omega)).trans q1, fun k hk => ⟨(h _ _ (by omega)).trans (q2 k hk).1, (h _ _ (by omega)).trans (q2 k hk).2⟩⟩
  · rw [h.c (by omega)] at ht
    exact fun k hk => (h _ _ (by omega)).trans (h3.2 g hg ht k hk)
  · rw [h _ _ (by omega)]
    exact h5 i hi
/-- the first two updates of every building call -/
theorem vI.un (hI : vI v) : vI (u1 (u1 v 1200 0 0) 1219 0 0) := hI.L (fun id k hk => (u1_n (Or.inl (by omega))).trans (u1_n (Or.inl (by omega))))
theorem cn_n {i j k b : Nat} {x : Int32} (h : j ≠ i ∨ b ≠ k) : cn (u1 v i k x) j b = cn v j b := by
  show ((u1 v i k x).1 j b).toNatClampNeg = _
  rw [u1_n h]
theorem cn_s {i k m : Nat} {x : Int32} (hx : x = nI m) (hm : m < 2 ^ 31) : cn (u1 v i k x) i k = m := by
  show ((u1 v i k x).1 i k).toNatClampNeg = m
  rw [u1_s, hx, nI_clamp hm]
/-- a table that vA, vZ, vD, vB don't see -/
theorem vI.o (hI : vI v) {i k : Nat} {x : Int32} (hr : vRg (u1 v i k x)) (hi : i ≠ 1201 ∧ i ≠ 1202 ∧ i ≠ 1203 ∧ i ≠ 1204 ∧ i ≠ 1208 ∧ i ≠ 1209 ∧ i ≠ 1210 ∧ i ≠ 1213 ∧ i ≠ 1215 ∧ i ≠ 1217 ∧ i ≠ 1218) : vI (u1 v i k x) := by
  obtain ⟨h1, h2, h3, h4, h5⟩ := hI
  refine ⟨hr, fun o q1 q2 => ?_, ⟨fun f hf ht => ?_, fun g hg ht => ?_⟩, fun y hy ht => ?_, fun j hj => ?_⟩
  · rw [cn_n (Or.inl (by omega))] at q1
    rw [cn_n (Or.inl (by omega)), cn_n (Or.inl (by omega)), cn_n (Or.inl (by omega))]
    exact h2 o q1 q2
  · rw [cn_n (Or.inl (by omega))] at ht
    rw [u1_n (Or.inl (by omega))]
    exact ⟨(h3.1 f hf ht).1, fun k9 hk => by rw [u1_n (Or.inl (by omega)), u1_n (Or.inl (by omega))]; exact (h3.1 f hf ht).2 k9 hk⟩
  · rw [cn_n (Or.inl (by omega))] at ht
    exact fun k9 hk => (u1_n (Or.inl (by omega))).trans (h3.2 g hg ht k9 hk)
  · rw [cn_n (Or.inl (by omega))] at ht
    rw [u1_n (Or.inl (by omega)), u1_n (Or.inl (by omega)), cn_n (Or.inl (by omega)), cn_n (Or.inl (by omega)), cn_n (Or.inl (by omega))]
    exact h4 y hy ht
  · rw [u1_n (Or.inl (by omega))]
    exact h5 j hj
theorem zB_1 : ∀ t ∈ zmB, t.1 = 1201 → 6 ≤ t.2.2 := by decide
theorem vI.obj (hI : vI v) {n : Nat} (hn : v.1 1201 0 = nI n) (hn6 : n < 6) : vI (vObj v) := by
  have e : v.1 1201 0 + 1 = nI (n + 1) := by rw [hn]; exact nI_add n 1
  have hU := hI.un
  have hn1 : cn v 1201 0 = n := by show (v.1 1201 0).toNatClampNeg = n; rw [hn, nI_clamp (by omega)]
  show vI (u1 (u1 (u1 v 1200 0 0) 1219 0 0) 1201 0 (v.1 1201 0 + 1))
  rw [e]
  have hc0 : cn (u1 (u1 v 1200 0 0) 1219 0 0) 1201 0 = n := by rw [cn_n (Or.inl (by decide)), cn_n (Or.inl (by decide))]; exact hn1
  generalize u1 (u1 v 1200 0 0) 1219 0 0 = v2 at hU hc0
  obtain ⟨h1, h2, h3, h4, h5⟩ := hU
  refine ⟨h1.up rfl (fun t ht e9 => by have := zB_1 t ht e9; omega), fun o q1 q2 => ?_, ⟨fun f hf ht => ?_, fun g hg ht => ?_⟩, fun y hy ht => ?_, fun j hj => ?_⟩
  · rw [cn_s rfl (by omega)] at q1
    rw [cn_n (Or.inl (by decide)), cn_n (Or.inl (by decide)), cn_n (Or.inl (by decide))]
    exact h2 o (by omega) q2
  · rw [cn_n (Or.inl (by decide))] at ht
    rw [u1_n (Or.inl (by decide))]
    exact ⟨(h3.1 f hf ht).1, fun k9 hk => by rw [u1_n (Or.inl (by decide)), u1_n (Or.inl (by decide))]; exact (h3.1 f hf ht).2 k9 hk⟩
  · rw [cn_n (Or.inl (by decide))] at ht
    exact fun k9 hk => (u1_n (Or.inl (by decide))).trans (h3.2 g hg ht k9 hk)
  · rw [cn_n (Or.inl (by decide))] at ht
    rw [u1_n (Or.inl (by decide)), u1_n (Or.inl (by decide)), cn_n (Or.inl (by decide)), cn_n (Or.inl (by decide)), cn_n (Or.inl (by decide))]
    exact h4 y hy ht
  · rw [u1_n (Or.inl (by decide))]
    exact h5 j hj
theorem zB_2 : ∀ t ∈ zmB, (t.1 = 1202 → 8 ≤ t.2.2) ∧ (t.1 = 1203 → 4 ≤ t.2.2) ∧ (t.1 = 1204 → 16 ≤ t.2.2) ∧ (t.1 = 1205 → 4 ≤ t.2.2) ∧ (t.1 = 1206 → 1 ≤ t.2.2) ∧ (t.1 = 1207 → 4 ≤ t.2.2) ∧ (t.1 = 1208 → 60 ≤ t.2.2) ∧ (t.1 = 1209 → 35 ≤ t.2.2) ∧ t.1 ≠ 1210 ∧ (t.1 = 1211 → 64 ≤ t.2.2) ∧ (t.1 = 1212 → 4 ≤ t.2.2) ∧ t.1 ≠ 1213 ∧ (t.1 = 1214 → 30 ≤ t.2.2) ∧ (t.1 = 1215 → 1 ≤ t.2.2) ∧ (t.1 = 1216 → 2 ≤ t.2.2) ∧ t.1 ≠ 1217 ∧ (t.1 = 1218 → 64 ≤ t.2.2) := by decide
/-- a count grows by one -/
theorem vI.cnt (hI : vI v) {T i n M : Nat} (hT : (T = 1202 ∧ M = 8) ∨ (T = 1203 ∧ M = 4)) (hi : i < cn v 1201 0) (hn : cn v T i = n) (hnM : n < M) : vI (u1 v T i (nI (n + 1))) := by
  obtain ⟨h1, h2, h3, h4, h5⟩ := hI
  have hM : n + 1 < 2 ^ 31 := by omega
  have hge : ∀ t o, cn v t o ≤ cn (u1 v T i (nI (n + 1))) t o := fun t o => by
    by_cases e : t = T ∧ o = i
    · rw [e.1, e.2, cn_s rfl hM]; omega
    · rw [cn_n (by by_cases e1 : t = T; exact Or.inr (fun e2 => e ⟨e1, e2⟩); exact Or.inl e1)]
      exact Nat.le_refl _
  refine ⟨h1.up rfl (fun t ht e9 => by have h9 := zB_2 t ht; rcases hT with ⟨a1, a2⟩ | ⟨a1, a2⟩; have := h9.1 (e9.trans a1); omega; have := h9.2.1 (e9.trans a1); omega), fun o q1 q2 => ?_, ⟨fun f hf ht => ?_, fun g hg ht => ?_⟩, fun y hy ht => ?_, fun j hj => ?_⟩
  · rw [cn_n (Or.inl (by omega))] at q1
    rw [cn_n (Or.inr (by omega)), cn_n (Or.inr (by omega)), cn_n (Or.inr (by omega))]
    exact h2 o q1 q2
  · have := hge 1202 (f / 8)
    rw [u1_n (Or.inl (by omega))]
    exact ⟨(h3.1 f hf (by omega)).1, fun k9 hk => by rw [u1_n (Or.inl (by omega)), u1_n (Or.inl (by omega))]; exact (h3.1 f hf (by omega)).2 k9 hk⟩
  · have := hge 1203 (g / 4)
    exact fun k9 hk => (u1_n (Or.inl (by omega))).trans (h3.2 g hg (by omega) k9 hk)
  · rw [cn_n (Or.inl (by omega))] at ht
    have g2 := hge 1202 (y / 16)
    have g3 := hge 1203 (y / 16)
    rw [u1_n (Or.inl (by omega)), u1_n (Or.inl (by omega)), cn_n (i := T) (j := 1218) (Or.inl (by omega))]
    refine ⟨(h4 y hy ht).1, (h4 y hy ht).2.imp id (fun ⟨d, e1, e2, e3⟩ => ⟨d, e1, fun h9 => ?_, fun h9 => ?_⟩)⟩
    · have := e2 h9; omega
    · have := e3 h9; omega
  · rw [u1_n (Or.inl (by omega))]
    exact h5 j hj
theorem vI.fn (hI : vI v) {i n p q w : Nat} (hi : i < cn v 1201 0) (hn : v.1 1202 i = nI n) (hn8 : n < 8) (hp : p ≤ 4) (hq : q ≤ 1) (hw : w ≤ 4) : vI (vFun v i (nI p) (nI q) (nI w)) := by
  have e : v.1 1202 i + 1 = nI (n + 1) := by rw [hn]; exact nI_add n 1
  have hn1 : cn v 1202 i = n := by show (v.1 1202 i).toNatClampNeg = n; rw [hn, nI_clamp (by omega)]
  have hU := hI.un
  show vI (u1 (u1 (u1 (u1 (u1 (u1 v 1200 0 0) 1219 0 0) 1205 (8 * i + cn v 1202 i) (nI p)) 1206 (8 * i + cn v 1202 i) (nI q)) 1207 (8 * i + cn v 1202 i) (nI w)) 1202 i (v.1 1202 i + 1))
  rw [e]
  have c1 : cn (u1 (u1 v 1200 0 0) 1219 0 0) 1201 0 = cn v 1201 0 := by rw [cn_n (Or.inl (by decide)), cn_n (Or.inl (by decide))]
  have c2 : cn (u1 (u1 v 1200 0 0) 1219 0 0) 1202 i = n := by rw [cn_n (Or.inl (by decide)), cn_n (Or.inl (by decide))]; exact hn1
  generalize u1 (u1 v 1200 0 0) 1219 0 0 = v2 at hU c1 c2
  have k1 := hU.o (k := 8 * i + cn v 1202 i) (hU.1.up (i := 1205) (x := nI p) rfl (fun t ht e9 => by have := (zB_2 t ht).2.2.2.1 e9; omega)) (by decide)
  have k2 := k1.o (k := 8 * i + cn v 1202 i) (k1.1.up (i := 1206) (x := nI q) rfl (fun t ht e9 => by have := (zB_2 t ht).2.2.2.2.1 e9; omega)) (by decide)
  have k3 := k2.o (k := 8 * i + cn v 1202 i) (k2.1.up (i := 1207) (x := nI w) rfl (fun t ht e9 => by have := (zB_2 t ht).2.2.2.2.2.1 e9; omega)) (by decide)
  refine k3.cnt (Or.inl ⟨rfl, rfl⟩) ?_ ?_ hn8
  · rw [cn_n (Or.inl (by decide)), cn_n (Or.inl (by decide)), cn_n (Or.inl (by decide)), c1]; exact hi
  · rw [cn_n (Or.inl (by decide)), cn_n (Or.inl (by decide)), cn_n (Or.inl (by decide)), c2]
theorem vI.sg (hI : vI v) {i n p q : Nat} (hi : i < cn v 1201 0) (hn : v.1 1203 i = nI n) (hn4 : n < 4) (hp : p ≤ 64) (hq : q ≤ 4) : vI (vSeg v i (nI p) (nI q)) := by
  have e : v.1 1203 i + 1 = nI (n + 1) := by rw [hn]; exact nI_add n 1
  have hn1 : cn v 1203 i = n := by show (v.1 1203 i).toNatClampNeg = n; rw [hn, nI_clamp (by omega)]
  have hU := hI.un
  show vI (u1 (u1 (u1 (u1 (u1 v 1200 0 0) 1219 0 0) 1211 (4 * i + cn v 1203 i) (nI p)) 1212 (4 * i + cn v 1203 i) (nI q)) 1203 i (v.1 1203 i + 1))
  rw [e]
  have c1 : cn (u1 (u1 v 1200 0 0) 1219 0 0) 1201 0 = cn v 1201 0 := by rw [cn_n (Or.inl (by decide)), cn_n (Or.inl (by decide))]
  have c2 : cn (u1 (u1 v 1200 0 0) 1219 0 0) 1203 i = n := by rw [cn_n (Or.inl (by decide)), cn_n (Or.inl (by decide))]; exact hn1
  generalize u1 (u1 v 1200 0 0) 1219 0 0 = v2 at hU c1 c2
  have k1 := hU.o (k := 4 * i + cn v 1203 i) (hU.1.up (i := 1211) (x := nI p) rfl (fun t ht e9 => by have := (zB_2 t ht).2.2.2.2.2.2.2.2.2.1 e9; omega)) (by decide)
  have k2 := k1.o (k := 4 * i + cn v 1203 i) (k1.1.up (i := 1212) (x := nI q) rfl (fun t ht e9 => by have := (zB_2 t ht).2.2.2.2.2.2.2.2.2.2.1 e9; omega)) (by decide)
  refine k2.cnt (Or.inr ⟨rfl, rfl⟩) ?_ ?_ hn4
  · rw [cn_n (Or.inl (by decide)), cn_n (Or.inl (by decide)), c1]; exact hi
  · rw [cn_n (Or.inl (by decide)), cn_n (Or.inl (by decide)), c2]
theorem vI.cd (hI : vI v) {f n w : Nat} {a : Int32} (hf : f < 48) (ht : f % 8 < cn v 1202 (f / 8)) (hn : v.1 1208 f = nI n) (hn60 : n < 60) (hw : w ≤ 35) : vI (vCod v f (nI w) a) := by
  have e : v.1 1208 f + 1 = nI (n + 1) := by rw [hn]; exact nI_add n 1
  have hn1 : cn v 1208 f = n := by show (v.1 1208 f).toNatClampNeg = n; rw [hn, nI_clamp (by omega)]
  have hU := hI.un
  show vI (u1 (u1 (u1 (u1 (u1 v 1200 0 0) 1219 0 0) 1209 (60 * f + cn v 1208 f) (nI w)) 1210 (60 * f + cn v 1208 f) a) 1208 f (v.1 1208 f + 1))
  rw [e, hn1]
  have c2 : cn (u1 (u1 v 1200 0 0) 1219 0 0) 1202 (f / 8) = cn v 1202 (f / 8) := by rw [cn_n (Or.inl (by decide)), cn_n (Or.inl (by decide))]
  generalize u1 (u1 v 1200 0 0) 1219 0 0 = v2 at hU c2
  obtain ⟨h1, h2, h3, h4, h5⟩ := hU
  have r1 : vRg (u1 v2 1209 (60 * f + n) (nI w)) := h1.up rfl (fun t ht e9 => by have := (zB_2 t ht).2.2.2.2.2.2.2.1 e9; omega)
  have r2 : vRg (u1 (u1 v2 1209 (60 * f + n) (nI w)) 1210 (60 * f + n) a) := r1.u9 (fun t ht => (zB_2 t ht).2.2.2.2.2.2.2.2.1)
  have r3 : vRg (u1 (u1 (u1 v2 1209 (60 * f + n) (nI w)) 1210 (60 * f + n) a) 1208 f (nI (n + 1))) := r2.up rfl (fun t ht e9 => by have := (zB_2 t ht).2.2.2.2.2.2.1 e9; omega)
  have hk : ∀ id k, id ≠ 1208 → id ≠ 1209 → id ≠ 1210 → (u1 (u1 (u1 v2 1209 (60 * f + n) (nI w)) 1210 (60 * f + n) a) 1208 f (nI (n + 1))).1 id k = v2.1 id k := fun id k a1 a2 a3 => by
    rw [u1_n (Or.inl a1), u1_n (Or.inl a3), u1_n (Or.inl a2)]
  have hkc : ∀ id k, id ≠ 1208 → id ≠ 1209 → id ≠ 1210 → cn (u1 (u1 (u1 v2 1209 (60 * f + n) (nI w)) 1210 (60 * f + n) a) 1208 f (nI (n + 1))) id k = cn v2 id k := fun id k a1 a2 a3 => congrArg Int32.toNatClampNeg (hk id k a1 a2 a3)
  refine ⟨r3, fun o q1 q2 => ?_, ⟨fun f2 hf2 ht2 => ?_, fun g hg ht2 => ?_⟩, fun y hy ht2 => ?_, fun j hj => ?_⟩
  · rw [hkc _ _ (by decide) (by decide) (by decide)] at q1
    rw [hkc _ _ (by decide) (by decide) (by decide), hkc _ _ (by decide) (by decide) (by decide), hkc _ _ (by decide) (by decide) (by decide)]
    exact h2 o q1 q2
  · rw [hkc _ _ (by decide) (by decide) (by decide)] at ht2
    have hne : f2 ≠ f := fun e9 => by rw [e9, c2] at ht2; exact ht2 ht
    obtain ⟨z1, z2⟩ := h3.1 f2 hf2 ht2
    refine ⟨?_, fun k hk9 => ⟨?_, ?_⟩⟩
    · rw [u1_n (Or.inr hne), u1_n (Or.inl (by decide)), u1_n (Or.inl (by decide))]; exact z1
    · rw [u1_n (Or.inl (by decide)), u1_n (Or.inl (by decide)), u1_n (Or.inr (by omega))]; exact (z2 k hk9).1
    · rw [u1_n (Or.inl (by decide)), u1_n (Or.inr (by omega)), u1_n (Or.inl (by decide))]; exact (z2 k hk9).2
  · rw [hkc _ _ (by decide) (by decide) (by decide)] at ht2
    exact fun k9 hk9 => (hk _ _ (by decide) (by decide) (by decide)).trans (h3.2 g hg ht2 k9 hk9)
  · rw [hkc _ _ (by decide) (by decide) (by decide)] at ht2
    rw [hk _ _ (by decide) (by decide) (by decide), hk _ _ (by decide) (by decide) (by decide), hkc _ _ (by decide) (by decide) (by decide), hkc _ _ (by decide) (by decide) (by decide), hkc _ _ (by decide) (by decide) (by decide)]
    exact h4 y hy ht2
  · rw [hk _ _ (by decide) (by decide) (by decide)]
    exact h5 j hj
theorem nar_2 (x : Int32) : vp_nar .byte (vp_nar .byte x) = vp_nar .byte x := by
  show x.toInt8.toInt32.toInt8.toInt32 = x.toInt8.toInt32
  rw [Int8.toInt8_toInt32]
theorem vI.fl (hI : vI v) {g t n : Nat} {w : Int64} (hg : g < 24) (ht : g % 4 < cn v 1203 (g / 4)) (htn : t + n ≤ cn v 1211 g) (hn : n ≤ 8) : vI (vFil (u1 (u1 v 1200 0 0) 1219 0 0) (64 * g + t) w n) := by
  have hU := hI.un
  have s64 := (rg_1211 hI.1 (k := g) (by omega)).2
  have c2 : cn (u1 (u1 v 1200 0 0) 1219 0 0) 1203 (g / 4) = cn v 1203 (g / 4) := by rw [cn_n (Or.inl (by decide)), cn_n (Or.inl (by decide))]
  generalize u1 (u1 v 1200 0 0) 1219 0 0 = v2 at hU c2
  obtain ⟨h1, h2, h3, h4, h5⟩ := hU
  have hk : ∀ id k, id ≠ 1213 → (vFil v2 (64 * g + t) w n).1 id k = v2.1 id k := fun id k a1 => vFil_ne a1 k n
  have hkc : ∀ id k, id ≠ 1213 → cn (vFil v2 (64 * g + t) w n) id k = cn v2 id k := fun id k a1 => congrArg Int32.toNatClampNeg (hk id k a1)
  refine ⟨fun t9 ht9 k hk9 => ?_, fun o q1 q2 => ?_, ⟨fun f2 hf2 ht2 => ?_, fun g2 hg2 ht2 => ?_⟩, fun y hy ht2 => ?_, fun j hj => ?_⟩
  · unfold ok1
    rw [hkc _ _ ((zB_2 t9 ht9).2.2.2.2.2.2.2.2.2.2.2.1), hk _ _ ((zB_2 t9 ht9).2.2.2.2.2.2.2.2.2.2.2.1)]
    exact h1 t9 ht9 k hk9
  · rw [hkc _ _ (by decide)] at q1
    rw [hkc _ _ (by decide), hkc _ _ (by decide), hkc _ _ (by decide)]
    exact h2 o q1 q2
  · rw [hkc _ _ (by decide)] at ht2
    rw [hk _ _ (by decide)]
    exact ⟨(h3.1 f2 hf2 ht2).1, fun k9 hk9 => by rw [hk _ _ (by decide), hk _ _ (by decide)]; exact (h3.1 f2 hf2 ht2).2 k9 hk9⟩
  · rw [hkc _ _ (by decide)] at ht2
    have hne : g2 ≠ g := fun e9 => by rw [e9, c2] at ht2; exact ht2 ht
    intro k9 hk9
    rw [vFil_at hn, if_neg (by omega)]
    exact h3.2 g2 hg2 ht2 k9 hk9
  · rw [hkc _ _ (by decide)] at ht2
    rw [hk _ _ (by decide), hk _ _ (by decide), hkc _ _ (by decide), hkc _ _ (by decide), hkc _ _ (by decide)]
    exact h4 y hy ht2
  · rw [vFil_at hn]
    split
    · exact nar_2 _
    · exact h5 j hj
end ZVI
theorem pIn_n {x M : Int32} {n : Nat} (hM : M = nI n) (hn : n < 2 ^ 31) (h : pIn x 0 M) : ∃ j, j ≤ n ∧ x = nI j := (pIn_iff (n := n) (by rw [hM]; exact nI_toInt hn)).mp h
theorem vI.sy {v : zV} (hI : vI v) {i n : Nat} {nm k b d f : Int32} (hg : gSy v (nI i) nm k b d f) (hi : i < cn v 1201 0) (hn : v.1 1204 i = nI n) (hn16 : n < 16) : vI (vSym v i nm k b d f) := by
  have e : v.1 1204 i + 1 = nI (n + 1) := by rw [hn]; exact nI_add n 1
  have hn1 : cn v 1204 i = n := by show (v.1 1204 i).toNatClampNeg = n; rw [hn, nI_clamp (by omega)]
  have hU := hI.un
  have hi6 := (rg_1201 hI.1 (k := 0) (by omega)).2
  obtain ⟨g1, g2, g3, g4, g5, g6, g7, g8, g9⟩ := hg
  obtain ⟨nm', n1, n2⟩ := pIn_n (n := 30) rfl (by decide) g2
  obtain ⟨k', k1, k2⟩ := pIn_n (n := 1) rfl (by decide) g3
  obtain ⟨b', b1, b2⟩ := pIn_n (n := 2) rfl (by decide) g4
  have hkz : k = 0 ↔ k' = 0 := by rw [k2, nl0, nI_eq (by omega) (by omega)]
  have hd : (k = 0 → d = -1 ∨ ∃ d', d = nI d' ∧ d' < cn v 1202 i) ∧ (¬ k = 0 → d = -1 ∨ ∃ d', d = nI d' ∧ d' < cn v 1203 i) := by
    refine ⟨fun h9 => ?_, fun h9 => ?_⟩
    · by_cases h8 : d = -1
      · exact Or.inl h8
      · obtain ⟨i2, j2, q1, q2, q3, q4⟩ := (g5 h8).1 h9
        have e2 := (nI_eq (by omega) (by omega)).mp q2
        subst e2
        exact Or.inr ⟨j2, q4, q3⟩
    · by_cases h8 : d = -1
      · exact Or.inl h8
      · obtain ⟨i2, j2, q1, q2, q3, q4⟩ := (g5 h8).2 h9
        have e2 := (nI_eq (by omega) (by omega)).mp q2
        subst e2
        exact Or.inr ⟨j2, q4, q3⟩
  have hf : ∃ f', f = nI f' ∧ f' ≤ 64 ∧ (k = 0 → f' ≤ 9) := by
    by_cases h9 : k = 0
    · by_cases h8 : d = -1
      · obtain ⟨j, q1, q2⟩ := pIn_n (n := 9) rfl (by decide) (g6 h9 h8)
        exact ⟨j, q2, by omega, fun _ => q1⟩
      · obtain ⟨j, q1, q2⟩ := pIn_n (n := 0) rfl (by decide) (g7 h9 h8)
        exact ⟨j, q2, by omega, fun _ => by omega⟩
    · by_cases h8 : d = -1
      · obtain ⟨j, q1, q2⟩ := pIn_n (n := 0) rfl (by decide) (g8 h9 h8)
        exact ⟨j, q2, by omega, fun h7 => absurd h7 h9⟩
      · obtain ⟨d', e1, e2⟩ := (hd.2 h9).resolve_left h8
        have r3 := (rg_1203 hI.1 (k := i) (by omega)).2
        have r11 := rg_1211 hI.1 (k := 4 * i + d') (by omega)
        have r112 := r11.2
        obtain ⟨j, q1, q2⟩ := pIn_n (n := cn v 1211 (4 * i + d')) r11.1 (by omega) (g9 h9 h8 i d' (by omega) (by omega) rfl e1)
        exact ⟨j, q2, by omega, fun h7 => absurd h7 h9⟩
  obtain ⟨f', f1, f2, f3⟩ := hf
  show vI (u1 (u1 (u1 (u1 (u1 (u1 (u1 (u1 v 1200 0 0) 1219 0 0) 1214 (16 * i + cn v 1204 i) nm) 1215 (16 * i + cn v 1204 i) k) 1216 (16 * i + cn v 1204 i) b) 1217 (16 * i + cn v 1204 i) d) 1218 (16 * i + cn v 1204 i) f) 1204 i (v.1 1204 i + 1))
  rw [e, hn1]
  have c1 : cn (u1 (u1 v 1200 0 0) 1219 0 0) 1201 0 = cn v 1201 0 := by rw [cn_n (Or.inl (by decide)), cn_n (Or.inl (by decide))]
  have c2 : cn (u1 (u1 v 1200 0 0) 1219 0 0) 1202 i = cn v 1202 i := by rw [cn_n (Or.inl (by decide)), cn_n (Or.inl (by decide))]
  have c3 : cn (u1 (u1 v 1200 0 0) 1219 0 0) 1203 i = cn v 1203 i := by rw [cn_n (Or.inl (by decide)), cn_n (Or.inl (by decide))]
  have c4 : cn (u1 (u1 v 1200 0 0) 1219 0 0) 1204 i = n := by rw [cn_n (Or.inl (by decide)), cn_n (Or.inl (by decide))]; exact hn1
  rw [← c2, ← c3] at hd
  rw [← c1] at hi
  generalize u1 (u1 v 1200 0 0) 1219 0 0 = v2 at hU c4 hd hi
  obtain ⟨h1, h2, h3, h4, h5⟩ := hU
  have r1 : vRg (u1 v2 1214 (16 * i + n) nm) := h1.up n2 (fun t ht e9 => by have := (zB_2 t ht).2.2.2.2.2.2.2.2.2.2.2.2.1 e9; omega)
  have r2 : vRg (u1 (u1 v2 1214 (16 * i + n) nm) 1215 (16 * i + n) k) := r1.up k2 (fun t ht e9 => by have := (zB_2 t ht).2.2.2.2.2.2.2.2.2.2.2.2.2.1 e9; omega)
  have r3 : vRg (u1 (u1 (u1 v2 1214 (16 * i + n) nm) 1215 (16 * i + n) k) 1216 (16 * i + n) b) := r2.up b2 (fun t ht e9 => by have := (zB_2 t ht).2.2.2.2.2.2.2.2.2.2.2.2.2.2.1 e9; omega)
  have r4 : vRg (u1 (u1 (u1 (u1 v2 1214 (16 * i + n) nm) 1215 (16 * i + n) k) 1216 (16 * i + n) b) 1217 (16 * i + n) d) := r3.u9 (fun t ht => (zB_2 t ht).2.2.2.2.2.2.2.2.2.2.2.2.2.2.2.1)
  have r5 : vRg (u1 (u1 (u1 (u1 (u1 v2 1214 (16 * i + n) nm) 1215 (16 * i + n) k) 1216 (16 * i + n) b) 1217 (16 * i + n) d) 1218 (16 * i + n) f) := r4.up f1 (fun t ht e9 => by have := (zB_2 t ht).2.2.2.2.2.2.2.2.2.2.2.2.2.2.2.2 e9; omega)
  have r6 := r5.up (i := 1204) (k := i) (x := nI (n + 1)) rfl (fun t ht e9 => by have := (zB_2 t ht).2.2.1 e9; omega)
  have hk : ∀ id j, (id = 1204 → j ≠ i) → ((1214 ≤ id ∧ id ≤ 1218) → j ≠ 16 * i + n) → (u1 (u1 (u1 (u1 (u1 (u1 v2 1214 (16 * i + n) nm) 1215 (16 * i + n) k) 1216 (16 * i + n) b) 1217 (16 * i + n) d) 1218 (16 * i + n) f) 1204 i (nI (n + 1))).1 id j = v2.1 id j := fun id j a1 a2 => by
    have hh : ∀ m, 1214 ≤ m → m ≤ 1218 → id ≠ m ∨ j ≠ 16 * i + n := fun m q1 q2 => by
      by_cases e9 : id = m
      · exact Or.inr (a2 (by omega))
      · exact Or.inl e9
    rw [u1_n (by by_cases e9 : id = 1204; exact Or.inr (a1 e9); exact Or.inl e9), u1_n (hh 1218 (by decide) (by decide)), u1_n (hh 1217 (by decide) (by decide)), u1_n (hh 1216 (by decide) (by decide)), u1_n (hh 1215 (by decide) (by decide)), u1_n (hh 1214 (by decide) (by decide))]
  have s15 : (u1 (u1 (u1 (u1 (u1 (u1 v2 1214 (16 * i + n) nm) 1215 (16 * i + n) k) 1216 (16 * i + n) b) 1217 (16 * i + n) d) 1218 (16 * i + n) f) 1204 i (nI (n + 1))).1 1215 (16 * i + n) = k := by
    rw [u1_n (Or.inl (by decide)), u1_n (Or.inl (by decide)), u1_n (Or.inl (by decide)), u1_n (Or.inl (by decide)), u1_s]
  have s17 : (u1 (u1 (u1 (u1 (u1 (u1 v2 1214 (16 * i + n) nm) 1215 (16 * i + n) k) 1216 (16 * i + n) b) 1217 (16 * i + n) d) 1218 (16 * i + n) f) 1204 i (nI (n + 1))).1 1217 (16 * i + n) = d := by
    rw [u1_n (Or.inl (by decide)), u1_n (Or.inl (by decide)), u1_s]
  have s18 : (u1 (u1 (u1 (u1 (u1 (u1 v2 1214 (16 * i + n) nm) 1215 (16 * i + n) k) 1216 (16 * i + n) b) 1217 (16 * i + n) d) 1218 (16 * i + n) f) 1204 i (nI (n + 1))).1 1218 (16 * i + n) = f := by
    rw [u1_n (Or.inl (by decide)), u1_s]
  have s04 : cn (u1 (u1 (u1 (u1 (u1 (u1 v2 1214 (16 * i + n) nm) 1215 (16 * i + n) k) 1216 (16 * i + n) b) 1217 (16 * i + n) d) 1218 (16 * i + n) f) 1204 i (nI (n + 1))) 1204 i = n + 1 := cn_s rfl (by omega)
  generalize u1 (u1 (u1 (u1 (u1 (u1 v2 1214 (16 * i + n) nm) 1215 (16 * i + n) k) 1216 (16 * i + n) b) 1217 (16 * i + n) d) 1218 (16 * i + n) f) 1204 i (nI (n + 1)) = V at r6 hk s15 s17 s18 s04
  have hkc : ∀ id j, (id = 1204 → j ≠ i) → ((1214 ≤ id ∧ id ≤ 1218) → j ≠ 16 * i + n) → cn V id j = cn v2 id j := fun id j a1 a2 => congrArg Int32.toNatClampNeg (hk id j a1 a2)
  refine ⟨r6, fun o q1 q2 => ?_, ⟨fun f2 hf2 ht2 => ?_, fun g hg ht2 => ?_⟩, fun y hy ht2 => ?_, fun j hj => ?_⟩
  · rw [hkc _ _ (by omega) (by omega)] at q1
    rw [hkc _ _ (by omega) (by omega), hkc _ _ (by omega) (by omega), hkc _ _ (by omega) (by omega)]
    exact h2 o q1 q2
  · rw [hkc _ _ (by omega) (by omega)] at ht2
    rw [hk _ _ (by omega) (by omega)]
    exact ⟨(h3.1 f2 hf2 ht2).1, fun k9 hk9 => by rw [hk _ _ (by omega) (by omega), hk _ _ (by omega) (by omega)]; exact (h3.1 f2 hf2 ht2).2 k9 hk9⟩
  · rw [hkc _ _ (by omega) (by omega)] at ht2
    exact fun k9 hk9 => (hk _ _ (by omega) (by omega)).trans (h3.2 g hg ht2 k9 hk9)
  · rw [hkc 1202 _ (by omega) (by omega), hkc 1203 _ (by omega) (by omega)]
    by_cases ey : y = 16 * i + n
    · subst ey
      rw [show (16 * i + n) / 16 = i by omega, s15, s17]
      refine ⟨fun h9 => ?_, ?_⟩
      · show (V.1 1218 (16 * i + n)).toNatClampNeg ≤ 9
        rw [s18, f1, nI_clamp (by omega)]
        exact f3 h9
      · by_cases h9 : k = 0
        · exact (hd.1 h9).imp id (fun ⟨d', z1, z2⟩ => ⟨d', z1, fun _ => z2, fun h8 => absurd h9 h8⟩)
        · exact (hd.2 h9).imp id (fun ⟨d', z1, z2⟩ => ⟨d', z1, fun h8 => absurd h8 h9, fun _ => z2⟩)
    · have ht3 : y % 16 < cn v2 1204 (y / 16) := by
        by_cases ei : y / 16 = i
        · rw [ei, s04] at ht2
          rw [ei, c4]
          omega
        · rw [hkc _ _ (by omega) (by omega)] at ht2
          exact ht2
      rw [hk 1215 _ (by omega) (by omega), hk 1217 _ (by omega) (by omega), hkc 1218 _ (by omega) (by omega)]
      exact h4 y hy ht3
  · rw [hk _ _ (by omega) (by omega)]
    exact h5 j hj
