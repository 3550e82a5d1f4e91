section ZVK
variable {v v1 : zV}
theorem vL.ewC (h : vL v v1) (f w : Nat) (a : Int32) : wC v1 f w a = wC v f w a := by
  unfold wC
  simp only [h.efO, h.esh, h.esg, h.c (id := 1204) (by omega)]
theorem vL.ebw (h : vL v v1) (f : Nat) (q : ckS) (b : Nat) : bw v1 f q b = bw v f q b := by
  unfold bw
  rw [h.c (by omega)]
theorem vL.epp (h : vL v v1) (o w : Nat) (a : Int32) : pp v1 o w a = pp v o w a := by
  unfold pp
  rw [h.esg]
theorem vL.epu (h : vL v v1) (o w : Nat) (a : Int32) : pu v1 o w a = pu v o w a := by
  unfold pu
  rw [h.esg]
theorem vL.ekSt (h : vL v v1) (f k : Nat) (q : ckS) : kSt v1 f k q = kSt v f k q := by
  have e1 : ∀ q2 a, ktk v1 f q2 a = ktk v f q2 a := fun q2 a => by
    unfold ktk
    rw [h.ebw]
  have e2 : ∀ w a q2, kS2 v1 f k w a q2 = kS2 v f k w a q2 := fun w a q2 => by
    unfold kS2
    simp only [h.ebw, e1, h.c (id := 1206) (k := f) (by omega)]
  unfold kSt
  simp only [e2, h.epp, h.epu, h.c (id := 1209) (by omega), h 1210 _ (by omega)]
theorem vL.ekRun (h : vL v v1) (f : Nat) : ∀ k, kRun v1 f k = kRun v f k
  | 0 => by
    show some (kBeg v1 f) = some (kBeg v f)
    unfold kBeg
    rw [h.c (by omega)]
  | k + 1 => by
    show (kRun v1 f k).bind (kSt v1 f k) = (kRun v f k).bind (kSt v f k)
    rw [h.ekRun f k, show kSt v1 f k = kSt v f k from funext (h.ekSt f k)]
theorem vL.ewpl (h : vL v v1) (f : Nat) : wpl v1 f = wpl v f := by
  unfold wpl
  simp only [h.ekRun, h.c (id := 1208) (by omega)]
theorem vL.ebW (h : vL v v1) (w f k : Nat) : bW v1 w f k ↔ bW v w f k := by
  unfold bW
  rw [h.ewpl, h.egW, h.ewC, h.c (id := 1202) (by omega), h.c (id := 1208) (by omega), h.c (id := 1209) (by omega), h 1210 _ (by omega)]
theorem vL.ebY (h : vL v v1) (w y : Nat) : bY v1 w y ↔ bY v w y := by
  have e1 : ∀ nm, ySt v1 nm = ySt v nm := fun nm => by
    funext z
    unfold ySt
    rw [h.c (by omega), h 1216 z (by omega), h 1214 z (by omega), h 1217 z (by omega)]
  have e3 : ∀ nm, yFi v1 nm = yFi v nm := fun nm => by
    funext z
    unfold yFi
    rw [h.c (by omega), h 1216 z (by omega), h 1214 z (by omega)]
  have e4 : ∀ z, v1.1 1215 z = v.1 1215 z := fun z => h 1215 z (by omega)
  unfold bY sD mS oK
  rw [h.emng, h 1216 y (by omega), h 1214 y (by omega), h 1217 y (by omega), e1, e3]
  simp only [e4]
theorem vL.etyF (h : vL v v1) : ∀ f, tyF v1 f = tyF v f
  | 0 => rfl
  | f + 1 => by
    show (if f % 8 < cn v1 1202 (f / 8) then addT (tyF v1 f) (sh v1 f) else tyF v1 f) = (if f % 8 < cn v 1202 (f / 8) then addT (tyF v f) (sh v f) else tyF v f)
    rw [h.etyF f, h.esh, h.c (by omega)]
theorem vL.ewdS (h : vL v v1) (f k : Nat) (p : List Nat × List Nat) : wdS v1 f k p = wdS v f k p := by
  unfold wdS
  rw [h.c (id := 1209) (by omega), h.c (id := 1210) (by omega), h.efO]
theorem vL.ewdK (h : vL v v1) (f : Nat) (p : List Nat × List Nat) : ∀ k, wdK v1 f p k = wdK v f p k
  | 0 => rfl
  | k + 1 => by
    show wdS v1 f k (wdK v1 f p k) = wdS v f k (wdK v f p k)
    rw [h.ewdK f p k, h.ewdS]
theorem vL.ewdF (h : vL v v1) : ∀ f, wdF v1 f = wdF v f
  | 0 => by
    show (tyF v1 48, []) = (tyF v 48, [])
    rw [h.etyF]
  | f + 1 => by
    show (if f % 8 < cn v1 1202 (f / 8) then wdK v1 f (wdF v1 f) (cn v1 1208 f) else wdF v1 f) = (if f % 8 < cn v 1202 (f / 8) then wdK v f (wdF v f) (cn v 1208 f) else wdF v f)
    rw [h.ewdF f, h.ewdK, h.c (by omega), h.c (by omega)]
theorem vX.L (h : vX v v1) : vL v v1 := fun id k hk => h.1 id k (by omega)
end ZVK
/-- no word is wrong so; the first that is, its place; symbols likewise -/
def nW (v : zV) (w : Nat) : Prop := ∀ f k, f < 48 → ¬ bW v w f k
def aW (v : zV) (w pl : Nat) : Prop := ∃ f k, f < 48 ∧ bW v w f k ∧ (∀ f' k', f' < f → ¬ bW v w f' k') ∧ (∀ k', k' < k → ¬ bW v w f k') ∧ pl = plW f k
def nY (v : zV) (w : Nat) : Prop := ∀ z, z < 96 → ¬ (z % 16 < cn v 1204 (z / 16) ∧ bY v w z)
def aY (v : zV) (w pl : Nat) : Prop := ∃ y, y < 96 ∧ (y % 16 < cn v 1204 (y / 16) ∧ bY v w y) ∧ (∀ z, z < y → ¬ (z % 16 < cn v 1204 (z / 16) ∧ bY v w z)) ∧ pl = plY y
/-- no fault before fault w -/
def nB (v : zV) (w : Nat) : Prop := (1 < w → nW v 1) ∧ (2 < w → nW v 2) ∧ (3 < w → nY v 3) ∧ (4 < w → nY v 4) ∧ (5 < w → nY v 5) ∧ (6 < w → nW v 6) ∧ (7 < w → aS v 24 ≤ 1024)
def aL (v : zV) (w pl : Nat) : Prop := ((w = 1 ∨ w = 2 ∨ w = 6) ∧ aW v w pl) ∨ ((w = 3 ∨ w = 4 ∨ w = 5) ∧ aY v w pl) ∨ (w = 7 ∧ 1024 < aS v 24 ∧ pl = 0)
/-- linking fails with w at pl -/
def lk (v : zV) (w pl : Nat) : Prop := nB v w ∧ aL v w pl
theorem aW.no {v : zV} {w pl : Nat} (h : aW v w pl) : ¬ nW v w := fun h9 => by
  obtain ⟨f, k, hf, hb, -⟩ := h
  exact h9 f k hf hb
theorem aY.no {v : zV} {w pl : Nat} (h : aY v w pl) : ¬ nY v w := fun h9 => by
  obtain ⟨y, hy, hb, -⟩ := h
  exact h9 y hy hb
theorem aW.un {v : zV} {w p q : Nat} (h : aW v w p) (h2 : aW v w q) : p = q := by
  obtain ⟨f, k, hf, hb, h3, h4, e⟩ := h
  obtain ⟨f', k', hf', hb', h3', h4', e'⟩ := h2
  have ef : f = f' := by
    rcases Nat.lt_trichotomy f f' with h9 | h9 | h9
    · exact absurd hb (h3' f k h9)
    · exact h9
    · exact absurd hb' (h3 f' k' h9)
  subst ef
  have ek : k = k' := by
    rcases Nat.lt_trichotomy k k' with h9 | h9 | h9
    · exact absurd hb (h4' k h9)
    · exact h9
    · exact absurd hb' (h4 k' h9)
  rw [e, e', ek]
theorem aY.un {v : zV} {w p q : Nat} (h : aY v w p) (h2 : aY v w q) : p = q := by
  obtain ⟨y, hy, hb, h3, e⟩ := h
  obtain ⟨y', hy', hb', h3', e'⟩ := h2
  rcases Nat.lt_trichotomy y y' with h9 | h9 | h9
  · exact absurd hb (h3' y h9)
  · rw [e, e', h9]
  · exact absurd hb' (h3 y' h9)
theorem lk.no {v : zV} {w pl n : Nat} (h : lk v w pl) (hn : w < n) : ¬ nB v n := fun h9 => by
  rcases h.2 with ⟨e, h2⟩ | ⟨e, h2⟩ | ⟨e, h2, -⟩
  · rcases e with e | e | e <;> subst e
    · exact h2.no (h9.1 hn)
    · exact h2.no (h9.2.1 hn)
    · exact h2.no (h9.2.2.2.2.2.1 hn)
  · rcases e with e | e | e <;> subst e
    · exact h2.no (h9.2.2.1 hn)
    · exact h2.no (h9.2.2.2.1 hn)
    · exact h2.no (h9.2.2.2.2.1 hn)
  · subst e
    have := h9.2.2.2.2.2.2 hn
    omega
theorem lk.un {v : zV} {w pl w' pl' : Nat} (h : lk v w pl) (h2 : lk v w' pl') : w = w' ∧ pl = pl' := by
  have ew : w = w' := by
    rcases Nat.lt_trichotomy w w' with h9 | h9 | h9
    · exact absurd h2.1 (h.no h9)
    · exact h9
    · exact absurd h.1 (h2.no h9)
  subst ew
  refine ⟨rfl, ?_⟩
  rcases h.2 with ⟨e, q⟩ | ⟨e, q⟩ | ⟨e, q, q2⟩ <;> rcases h2.2 with ⟨e', q'⟩ | ⟨e', q'⟩ | ⟨e', q', q2'⟩
  · exact q.un q'
  · omega
  · omega
  · omega
  · exact q.un q'
  · omega
  · omega
  · omega
  · omega
theorem lk.b {v : zV} {w pl : Nat} (h : lk v w pl) : 1 ≤ w ∧ w ≤ 7 := by
  rcases h.2 with ⟨e, -⟩ | ⟨e, -⟩ | ⟨e, -, -⟩ <;> omega
section ZVQ
variable {v v1 : zV}
theorem vL.enW (h : vL v v1) {w : Nat} (hn : nW v1 w) : nW v w := fun f k hf h9 => hn f k hf ((h.ebW w f k).mpr h9)
theorem vL.eaW (h : vL v v1) {w pl : Nat} (hn : aW v1 w pl) : aW v w pl := by
  obtain ⟨f, k, hf, hb, h3, h4, e⟩ := hn
  exact ⟨f, k, hf, (h.ebW w f k).mp hb, fun f' k' h9 h8 => h3 f' k' h9 ((h.ebW w f' k').mpr h8), fun k' h9 h8 => h4 k' h9 ((h.ebW w f k').mpr h8), e⟩
theorem vL.enY (h : vL v v1) {w : Nat} (hn : nY v1 w) : nY v w := fun z hz h9 => hn z hz ⟨by rw [h.c (by omega)]; exact h9.1, (h.ebY w z).mpr h9.2⟩
theorem vL.eaY (h : vL v v1) {w pl : Nat} (hn : aY v1 w pl) : aY v w pl := by
  obtain ⟨y, hy, hb, h3, e⟩ := hn
  exact ⟨y, hy, ⟨by have h9 := hb.1; rw [h.c (by omega)] at h9; exact h9, (h.ebY w y).mp hb.2⟩, fun z h9 h8 => h3 z h9 ⟨by rw [h.c (by omega)]; exact h8.1, (h.ebY w z).mpr h8.2⟩, e⟩
theorem vL.allG (h : vL v v1) (hg : nW v 1) : allG v1 := fun f k hf h9 => hg f k hf ((h.ebW 1 f k).mp h9)
end ZVQ
/-- tables that linking leaves -/
def vY (v v1 : zV) : Prop := (∀ id k, ¬ (1219 ≤ id ∧ id ≤ 1227) → ¬ (1232 ≤ id ∧ id ≤ 1238) → v1.1 id k = v.1 id k) ∧ v1.2 = v.2
theorem vY.rf {v : zV} : vY v v := ⟨fun _ _ _ _ => rfl, rfl⟩
theorem vY.u {v v1 : zV} (h : vY v v1) {id k : Nat} {x : Int32} (hid : 1219 ≤ id ∧ id ≤ 1227) : vY v (u1 v1 id k x) := ⟨fun j m hj hj2 => (u1_n (Or.inl (fun e => hj (by rw [e]; exact hid)))).trans (h.1 j m hj hj2), h.2⟩
theorem vY.x {v v1 v2 : zV} (h : vY v v1) (hx : vX v1 v2) : vY v v2 := ⟨fun j m hj hj2 => (hx.1 j m hj2).trans (h.1 j m hj hj2), hx.2.trans h.2⟩
theorem vY.f {v v1 v2 : zV} (h : vY v v1) (hx : vF v1 v2) : vY v v2 := ⟨fun j m hj hj2 => (hx.1 j m (by omega)).trans (h.1 j m hj hj2), hx.2.trans h.2⟩
theorem vY.m {v v1 v2 : zV} (h : vY v v1) (hx : vM v1 v2) : vY v v2 := ⟨fun j m hj hj2 => (hx.1 j m (by omega) (by omega)).trans (h.1 j m hj hj2), hx.2.trans h.2⟩
theorem vY.L {v v1 : zV} (h : vY v v1) : vL v v1 := fun id k hk => h.1 id k (by omega) (by omega)
/-- what a look for a fault answers -/
def fA (S0 : zS) (g : Nat) (qa : Nat → Nat) (v0 : zV) (w : Nat) (no : Prop) (bad : Nat → Prop) (r : Int32) (S : zS) : Prop := (r = 0 ∧ no ∧ ∃ v1, zmR S0 g qa v1 S ∧ vX v0 v1) ∨ (r = 1 ∧ ∃ pl v1, bad pl ∧ vX v0 v1 ∧ zmR S0 g qa (u1 (u1 v1 1221 0 (nI w)) 1220 0 (nI pl)) S)
theorem fA.f {S0 : zS} {g : Nat} {qa : Nat → Nat} {v0 : zV} {w : Nat} {no : Prop} {bad : Nat → Prop} {r : Int32} {S : zS} (h : fA S0 g qa v0 w no bad r S) (hr : r = 0) : no ∧ ∃ v1, zmR S0 g qa v1 S ∧ vX v0 v1 := by
  rcases h with h | h
  · exact h.2
  · rw [hr] at h
    exact absurd h.1 (by decide)
theorem fA.t {S0 : zS} {g : Nat} {qa : Nat → Nat} {v0 : zV} {w : Nat} {no : Prop} {bad : Nat → Prop} {r : Int32} {S : zS} (h : fA S0 g qa v0 w no bad r S) (hr : ¬ r = 0) : ∃ pl v1, bad pl ∧ vX v0 v1 ∧ zmR S0 g qa (u1 (u1 v1 1221 0 (nI w)) 1220 0 (nI pl)) S := by
  rcases h with h | h
  · exact absurd h.1 hr
  · exact h.2
theorem fA.W {S0 : zS} {g : Nat} {qa : Nat → Nat} {v v0 : zV} {w : Nat} {r : Int32} {S : zS} (hL : vL v v0) (h : (r = 0 ∧ (∀ f k, f < 48 → ¬ bW v0 w f k) ∧ ∃ v1, zmR S0 g qa v1 S ∧ vX v0 v1) ∨ (r = 1 ∧ ∃ f k v1, f < 48 ∧ bW v0 w f k ∧ (∀ f' k', f' < f → ¬ bW v0 w f' k') ∧ (∀ k', k' < k → ¬ bW v0 w f k') ∧ vX v0 v1 ∧ zmR S0 g qa (u1 (u1 v1 1221 0 (nI w)) 1220 0 (nI (plW f k))) S)) : fA S0 g qa v0 w (nW v w) (aW v w) r S := by
  rcases h with ⟨e, h1, h2⟩ | ⟨e, f, k, v1, h1, h2, h3, h4, h5, h6⟩
  · exact Or.inl ⟨e, hL.enW h1, h2⟩
  · exact Or.inr ⟨e, plW f k, v1, hL.eaW ⟨f, k, h1, h2, h3, h4, rfl⟩, h5, h6⟩
theorem fA.Y {S0 : zS} {g : Nat} {qa : Nat → Nat} {v v0 : zV} {w : Nat} {r : Int32} {S S1 : zS} (hL : vL v v0) (hS : zmR S0 g qa v0 S1) (h : (r = 0 ∧ (∀ z, z < 96 → ¬ (z % 16 < cn v0 1204 (z / 16) ∧ bY v0 w z)) ∧ S = S1) ∨ (r = 1 ∧ ∃ y, y < 96 ∧ (y % 16 < cn v0 1204 (y / 16) ∧ bY v0 w y) ∧ (∀ z, z < y → ¬ (z % 16 < cn v0 1204 (z / 16) ∧ bY v0 w z)) ∧ zmR S0 g qa (u1 (u1 v0 1221 0 (nI w)) 1220 0 (nI (plY y))) S)) : fA S0 g qa v0 w (nY v w) (aY v w) r S := by
  rcases h with ⟨e, h1, h2⟩ | ⟨e, y, h1, h2, h3, h4⟩
  · exact Or.inl ⟨e, hL.enY h1, v0, by rw [h2]; exact hS, vX.rf⟩
  · exact Or.inr ⟨e, plY y, v0, hL.eaY ⟨y, h1, h2, h3, rfl⟩, vX.rf, h4⟩
/-- what link leaves: a fault; a module -/
def lkF (v v1 : zV) (w pl : Nat) : Prop := vY v v1 ∧ v1.1 1219 0 = 0 ∧ v1.1 1220 0 = nI pl ∧ v1.1 1221 0 = nI w
def lkM (v v1 : zV) : Prop := vY v v1 ∧ v1.1 1219 0 = 1 ∧ v1.1 1220 0 = -1 ∧ tQ v1 1226 1227 (wdF v 48).1 ∧ tQ v1 1224 1225 (wdF v 48).2 ∧ ∃ T, mB v1 T (mdB v (wdF v 48).1 (wdF v 48).2)
theorem lkF.of {v v0 v1 : zV} {w pl : Nat} (hY : vY v v0) (hX : vX v0 v1) : lkF v (u1 (u1 (u1 v1 1221 0 (nI w)) 1220 0 (nI pl)) 1219 0 0) w pl := ⟨(((hY.x hX).u (by omega)).u (by omega)).u (by omega), u1_s, (u1_n (Or.inl (by decide))).trans u1_s, (u1_n (Or.inl (by decide))).trans ((u1_n (Or.inl (by decide))).trans u1_s)⟩
set_option maxRecDepth 100000 in
set_option maxHeartbeats 4000000 in
theorem mm_link {l : Launch} {N0 t0 : Nat} {D : va_G} {cy : Nat → ClassId} {S : zS} {S0 : zS} {g : Nat} {qa : Nat → Nat} {v : zV} (hS : zmR S0 g qa v S) {vz : zV} (ez : vz = u1 v 1200 0 0) (hv : vRg vz) (hA : vA vz) (hD : vD vz) : zMi l yX12_link (zws yX12_link cX12_link 2 (some .int)) { frames := 6, cells := 0, slots := 0, locals := 137 } N0 t0 D cy S [.ref g] (fun r S' => (cn vz 1201 0 = 0 ∧ r = 0 ∧ zmR S0 g qa (u1 v 1200 0 1) S') ∨ (¬ cn vz 1201 0 = 0 ∧ ((∃ w pl v1, lk vz w pl ∧ r = nI w ∧ lkF vz v1 w pl ∧ zmR S0 g qa v1 S') ∨ (nB vz 8 ∧ r = 0 ∧ ∃ v1, lkM vz v1 ∧ zmR S0 g qa v1 S')))) 0 0 := by
  refine zMi.of (cc := cX12_link) (maxL := 2) (ret := (some .int)) (by decide) rfl (Nat.le_of_ble_eq_true rfl) ?_
  intro p e s m args below meth c F G hr hlk hnm
  have hz0 : vz.1 1200 0 = 0 := by rw [ez]; exact u1_s
  have hz1 : v.1 1201 0 = vz.1 1201 0 := by rw [ez]; exact (u1_n (Or.inl (by decide))).symm
  have ho := rg_1201 hv (k := 0) (by omega)
  have ho2 := ho.2
  refine r_aload_n F dX12_link_0 rfl ?_
  refine r_aload_n F dX12_link_1 rfl ?_
  refine gi_objects F G hS dX12_link_2 ?_
  rw [hz1, ho.1]
  refine r_if_ne (tgt := 12) F dX12_link_5 (by decide) (fun c5 => ?_) (fun c5 => ?_)
  · refine r_iconst (v := 0) F dX12_link_12 (by decide) ?_
    refine pi_code F G hS dX12_link_13 (fun S hS => ?_)
    refine r_aload_n F dX12_link_16 rfl ?_
    rw [← ez] at hS
    have hob : ¬ cn vz 1201 0 = 0 := fun h9 => c5 (by rw [h9]; rfl)
    refine gi_code F G hS dX12_link_17 ?_
    refine r_if_le (tgt := 25) F dX12_link_20 (by decide) (fun _ => ?_) (fun h9 => absurd (show vz.1 1200 0 ≤ 0 by rw [hz0]; decide) h9)
    refine r_aload_n F dX12_link_25 rfl ?_
    refine r_iconst (v := 0) F dX12_link_26 (by decide) ?_
    refine pi_fault F G hS dX12_link_27 (fun S hS => ?_)
    refine r_aload_n F dX12_link_30 rfl ?_
    refine r_iconst (v := -1) F dX12_link_31 (by decide) ?_
    refine pi_place F G hS dX12_link_32 (fun S hS => ?_)
    have hYb : vY vz (u1 (u1 vz 1221 0 0) 1220 0 (-1)) := (vY.rf.u (by omega)).u (by omega)
    have hLb := hYb.L
    refine r_aload_n F dX12_link_35 rfl ?_
    refine r_iconst (v := 1) F dX12_link_36 (by decide) ?_
    refine c_Vi (ci := 12) F G (mm_fW1 hS (hLb.rg hv)) (cwV 1 F.2.2.2.2 (zgV km_X12_219 ki_X12_failsInWords ke_X12_X12_failsInWords kn_X12 ko_X12_failsInWords) rfl rfl rfl ⟨rfl, hd_yX12_failsInWords⟩ ⟨Nat.le_of_ble_eq_true rfl, Nat.le_of_ble_eq_true rfl⟩) rfl (by decide) hS.al rfl rfl (Nat.le_of_ble_eq_true rfl) dX12_link_37 ⟨Nat.le_of_ble_eq_true rfl, Nat.le_of_ble_eq_true rfl⟩ (fun r37 S37 h37 => ?_)
    have h37 := fA.W hLb h37
    refine r_if_ne (tgt := 51) F dX12_link_40 (by decide) (fun c40 => ?_) (fun c40 => ?_)
    · obtain ⟨pl, v9, hbad, hX9, hS⟩ := h37.t c40
      refine r_iconst (v := 1) F dX12_link_51 (by decide) ?_
      refine r_goto (tgt := 56) F dX12_link_52 (by decide) ?_
      refine r_istore_n F dX12_link_56 (by decide) ?_
      refine r_iload_n F dX12_link_57 rfl ?_
      refine r_if_ne (tgt := 85) F dX12_link_58 (by decide) (fun _ => ?_) (fun h9 => absurd h9 (show ¬ (1 : Int32) = 0 by decide))
      refine r_iconst (v := 1) F dX12_link_85 (by decide) ?_
      refine r_goto (tgt := 90) F dX12_link_86 (by decide) ?_
      refine r_istore_n F dX12_link_90 (by decide) ?_
      refine r_iload_n F dX12_link_91 rfl ?_
      refine r_if_ne (tgt := 104) F dX12_link_92 (by decide) (fun _ => ?_) (fun h9 => absurd h9 (show ¬ (1 : Int32) = 0 by decide))
      refine r_iconst (v := 1) F dX12_link_104 (by decide) ?_
      refine r_goto (tgt := 109) F dX12_link_105 (by decide) ?_
      refine r_istore_n F dX12_link_109 (by decide) ?_
      refine r_iload_n F dX12_link_110 rfl ?_
      refine r_if_ne (tgt := 132) F dX12_link_111 (by decide) (fun _ => ?_) (fun h9 => absurd h9 (show ¬ (1 : Int32) = 0 by decide))
      refine r_aload_n F dX12_link_132 rfl ?_
      refine r_iload_n F dX12_link_133 rfl ?_
      refine r_if_ne (tgt := 141) F dX12_link_134 (by decide) (fun _ => ?_) (fun h9 => absurd h9 (show ¬ (1 : Int32) = 0 by decide))
      refine r_iconst (v := 0) F dX12_link_141 (by decide) ?_
      refine pi_linked F G hS (by decide) dX12_link_142 (fun S hS => ?_)
      refine r_aload_n F dX12_link_145 rfl ?_
      refine gi_linked F G hS dX12_link_146 ?_
      refine r_if_eq (tgt := 156) F dX12_link_149 (by decide) (fun _ => ?_) (fun h9 => absurd ((u1_s).trans rfl) h9)
      refine r_aload_n F dX12_link_156 rfl ?_
      refine gi_fault F G hS dX12_link_157 ?_
      exact e_iret F hr hlk (Or.inr ⟨hob, Or.inl ⟨1, pl, _, ⟨⟨fun h9 => absurd h9 (by decide), fun h9 => absurd h9 (by decide), fun h9 => absurd h9 (by decide), fun h9 => absurd h9 (by decide), fun h9 => absurd h9 (by decide), fun h9 => absurd h9 (by decide), fun h9 => absurd h9 (by decide)⟩, Or.inl ⟨by decide, hbad⟩⟩, (lkF.of (w := 1) (pl := pl) hYb hX9).2.2.2, lkF.of hYb hX9, hS⟩⟩) (by decide) (by decide) dX12_link_160
    · obtain ⟨n1, v1, hS, hX1⟩ := h37.f c40
      have hY1 := hYb.x hX1
      have hL1 := hY1.L
      refine r_aload_n F dX12_link_43 rfl ?_
      refine r_iconst (v := 2) F dX12_link_44 (by decide) ?_
      refine c_Vi (ci := 12) F G (mm_fW2 hS (hL1.rg hv) (hL1.A hA) (hL1.D hD) (hL1.allG n1)) (cwV 1 F.2.2.2.2 (zgV km_X12_219 ki_X12_failsInWords ke_X12_X12_failsInWords kn_X12 ko_X12_failsInWords) rfl rfl rfl ⟨rfl, hd_yX12_failsInWords⟩ ⟨Nat.le_of_ble_eq_true rfl, Nat.le_of_ble_eq_true rfl⟩) rfl (by decide) hS.al rfl rfl (Nat.le_of_ble_eq_true rfl) dX12_link_45 ⟨Nat.le_of_ble_eq_true rfl, Nat.le_of_ble_eq_true rfl⟩ (fun r45 S45 h45 => ?_)
      have h45 := fA.W hL1 h45
      refine r_if_eq (tgt := 55) F dX12_link_48 (by decide) (fun c48 => ?_) (fun c48 => ?_)
      · obtain ⟨n2, v2, hS, hX2⟩ := h45.f c48
        have hY2 := hY1.x hX2
        have hL2 := hY2.L
        refine r_iconst (v := 0) F dX12_link_55 (by decide) ?_
        refine r_istore_n F dX12_link_56 (by decide) ?_
        refine r_iload_n F dX12_link_57 rfl ?_
        refine r_if_ne (tgt := 85) F dX12_link_58 (by decide) (fun h9 => absurd (show (0 : Int32) = 0 from rfl) h9) (fun _ => ?_)
        refine r_aload_n F dX12_link_61 rfl ?_
        refine r_iconst (v := 3) F dX12_link_62 (by decide) ?_
        refine c_Vi (ci := 12) F G (mm_failsInSymbols hS (w := 3) (hL2.rg hv) (hL2.A hA) (hL2.D hD) (by decide)) (cwV 1 F.2.2.2.2 (zgV km_X12_222 ki_X12_failsInSymbols ke_X12_X12_failsInSymbols kn_X12 ko_X12_failsInSymbols) rfl rfl rfl ⟨rfl, hd_yX12_failsInSymbols⟩ ⟨Nat.le_of_ble_eq_true rfl, Nat.le_of_ble_eq_true rfl⟩) rfl (by decide) hS.al rfl rfl (Nat.le_of_ble_eq_true rfl) dX12_link_63 ⟨Nat.le_of_ble_eq_true rfl, Nat.le_of_ble_eq_true rfl⟩ (fun r63 S63 h63 => ?_)
        have h63 := fA.Y hL2 hS h63
        refine r_if_ne (tgt := 85) F dX12_link_66 (by decide) (fun c66 => ?_) (fun c66 => ?_)
        · obtain ⟨pl, v9, hbad, hX9, hS⟩ := h63.t c66
          refine r_iconst (v := 1) F dX12_link_85 (by decide) ?_
          refine r_goto (tgt := 90) F dX12_link_86 (by decide) ?_
          refine r_istore_n F dX12_link_90 (by decide) ?_
          refine r_iload_n F dX12_link_91 rfl ?_
          refine r_if_ne (tgt := 104) F dX12_link_92 (by decide) (fun _ => ?_) (fun h9 => absurd h9 (show ¬ (1 : Int32) = 0 by decide))
          refine r_iconst (v := 1) F dX12_link_104 (by decide) ?_
          refine r_goto (tgt := 109) F dX12_link_105 (by decide) ?_
          refine r_istore_n F dX12_link_109 (by decide) ?_
          refine r_iload_n F dX12_link_110 rfl ?_
          refine r_if_ne (tgt := 132) F dX12_link_111 (by decide) (fun _ => ?_) (fun h9 => absurd h9 (show ¬ (1 : Int32) = 0 by decide))
          refine r_aload_n F dX12_link_132 rfl ?_
          refine r_iload_n F dX12_link_133 rfl ?_
          refine r_if_ne (tgt := 141) F dX12_link_134 (by decide) (fun _ => ?_) (fun h9 => absurd h9 (show ¬ (1 : Int32) = 0 by decide))
          refine r_iconst (v := 0) F dX12_link_141 (by decide) ?_
          refine pi_linked F G hS (by decide) dX12_link_142 (fun S hS => ?_)
          refine r_aload_n F dX12_link_145 rfl ?_
          refine gi_linked F G hS dX12_link_146 ?_
          refine r_if_eq (tgt := 156) F dX12_link_149 (by decide) (fun _ => ?_) (fun h9 => absurd ((u1_s).trans rfl) h9)
          refine r_aload_n F dX12_link_156 rfl ?_
          refine gi_fault F G hS dX12_link_157 ?_
          exact e_iret F hr hlk (Or.inr ⟨hob, Or.inl ⟨3, pl, _, ⟨⟨fun _ => n1, fun _ => n2, fun h9 => absurd h9 (by decide), fun h9 => absurd h9 (by decide), fun h9 => absurd h9 (by decide), fun h9 => absurd h9 (by decide), fun h9 => absurd h9 (by decide)⟩, Or.inr (Or.inl ⟨by decide, hbad⟩)⟩, (lkF.of (w := 3) (pl := pl) hY2 hX9).2.2.2, lkF.of hY2 hX9, hS⟩⟩) (by decide) (by decide) dX12_link_160
        · obtain ⟨n3, v3, hS, hX3⟩ := h63.f c66
          have hY3 := hY2.x hX3
          have hL3 := hY3.L
          refine r_aload_n F dX12_link_69 rfl ?_
          refine r_iconst (v := 4) F dX12_link_70 (by decide) ?_
          refine c_Vi (ci := 12) F G (mm_failsInSymbols hS (w := 4) (hL3.rg hv) (hL3.A hA) (hL3.D hD) (by decide)) (cwV 1 F.2.2.2.2 (zgV km_X12_222 ki_X12_failsInSymbols ke_X12_X12_failsInSymbols kn_X12 ko_X12_failsInSymbols) rfl rfl rfl ⟨rfl, hd_yX12_failsInSymbols⟩ ⟨Nat.le_of_ble_eq_true rfl, Nat.le_of_ble_eq_true rfl⟩) rfl (by decide) hS.al rfl rfl (Nat.le_of_ble_eq_true rfl) dX12_link_71 ⟨Nat.le_of_ble_eq_true rfl, Nat.le_of_ble_eq_true rfl⟩ (fun r71 S71 h71 => ?_)
          have h71 := fA.Y hL3 hS h71
          refine r_if_ne (tgt := 85) F dX12_link_74 (by decide) (fun c74 => ?_) (fun c74 => ?_)
          · obtain ⟨pl, v9, hbad, hX9, hS⟩ := h71.t c74
            refine r_iconst (v := 1) F dX12_link_85 (by decide) ?_
            refine r_goto (tgt := 90) F dX12_link_86 (by decide) ?_
            refine r_istore_n F dX12_link_90 (by decide) ?_
            refine r_iload_n F dX12_link_91 rfl ?_
            refine r_if_ne (tgt := 104) F dX12_link_92 (by decide) (fun _ => ?_) (fun h9 => absurd h9 (show ¬ (1 : Int32) = 0 by decide))
            refine r_iconst (v := 1) F dX12_link_104 (by decide) ?_
            refine r_goto (tgt := 109) F dX12_link_105 (by decide) ?_
            refine r_istore_n F dX12_link_109 (by decide) ?_
            refine r_iload_n F dX12_link_110 rfl ?_
            refine r_if_ne (tgt := 132) F dX12_link_111 (by decide) (fun _ => ?_) (fun h9 => absurd h9 (show ¬ (1 : Int32) = 0 by decide))
            refine r_aload_n F dX12_link_132 rfl ?_
            refine r_iload_n F dX12_link_133 rfl ?_
            refine r_if_ne (tgt := 141) F dX12_link_134 (by decide) (fun _ => ?_) (fun h9 => absurd h9 (show ¬ (1 : Int32) = 0 by decide))
            refine r_iconst (v := 0) F dX12_link_141 (by decide) ?_
            refine pi_linked F G hS (by decide) dX12_link_142 (fun S hS => ?_)
            refine r_aload_n F dX12_link_145 rfl ?_
            refine gi_linked F G hS dX12_link_146 ?_
            refine r_if_eq (tgt := 156) F dX12_link_149 (by decide) (fun _ => ?_) (fun h9 => absurd ((u1_s).trans rfl) h9)
            refine r_aload_n F dX12_link_156 rfl ?_
            refine gi_fault F G hS dX12_link_157 ?_
            exact e_iret F hr hlk (Or.inr ⟨hob, Or.inl ⟨4, pl, _, ⟨⟨fun _ => n1, fun _ => n2, fun _ => n3, fun h9 => absurd h9 (by decide), fun h9 => absurd h9 (by decide), fun h9 => absurd h9 (by decide), fun h9 => absurd h9 (by decide)⟩, Or.inr (Or.inl ⟨by decide, hbad⟩)⟩, (lkF.of (w := 4) (pl := pl) hY3 hX9).2.2.2, lkF.of hY3 hX9, hS⟩⟩) (by decide) (by decide) dX12_link_160
          · obtain ⟨n4, v4, hS, hX4⟩ := h71.f c74
            have hY4 := hY3.x hX4
            have hL4 := hY4.L
            refine r_aload_n F dX12_link_77 rfl ?_
            refine r_iconst (v := 5) F dX12_link_78 (by decide) ?_
            refine c_Vi (ci := 12) F G (mm_failsInSymbols hS (w := 5) (hL4.rg hv) (hL4.A hA) (hL4.D hD) (by decide)) (cwV 1 F.2.2.2.2 (zgV km_X12_222 ki_X12_failsInSymbols ke_X12_X12_failsInSymbols kn_X12 ko_X12_failsInSymbols) rfl rfl rfl ⟨rfl, hd_yX12_failsInSymbols⟩ ⟨Nat.le_of_ble_eq_true rfl, Nat.le_of_ble_eq_true rfl⟩) rfl (by decide) hS.al rfl rfl (Nat.le_of_ble_eq_true rfl) dX12_link_79 ⟨Nat.le_of_ble_eq_true rfl, Nat.le_of_ble_eq_true rfl⟩ (fun r79 S79 h79 => ?_)
            have h79 := fA.Y hL4 hS h79
            refine r_if_eq (tgt := 89) F dX12_link_82 (by decide) (fun c82 => ?_) (fun c82 => ?_)
            · obtain ⟨n5, v5, hS, hX5⟩ := h79.f c82
              have hY5 := hY4.x hX5
              have hL5 := hY5.L
              refine r_iconst (v := 0) F dX12_link_89 (by decide) ?_
              refine r_istore_n F dX12_link_90 (by decide) ?_
              refine r_iload_n F dX12_link_91 rfl ?_
              refine r_if_ne (tgt := 104) F dX12_link_92 (by decide) (fun h9 => absurd (show (0 : Int32) = 0 from rfl) h9) (fun _ => ?_)
              refine r_aload_n F dX12_link_95 rfl ?_
              refine r_bipush (v := 6) F dX12_link_96 (by decide) ?_
              refine c_Vi (ci := 12) F G (mm_fW6 hS (hL5.rg hv) (hL5.A hA) (hL5.D hD) (hL5.allG n1)) (cwV 1 F.2.2.2.2 (zgV km_X12_219 ki_X12_failsInWords ke_X12_X12_failsInWords kn_X12 ko_X12_failsInWords) rfl rfl rfl ⟨rfl, hd_yX12_failsInWords⟩ ⟨Nat.le_of_ble_eq_true rfl, Nat.le_of_ble_eq_true rfl⟩) rfl (by decide) hS.al rfl rfl (Nat.le_of_ble_eq_true rfl) dX12_link_98 ⟨Nat.le_of_ble_eq_true rfl, Nat.le_of_ble_eq_true rfl⟩ (fun r98 S98 h98 => ?_)
              have h98 := fA.W hL5 h98
              refine r_if_eq (tgt := 108) F dX12_link_101 (by decide) (fun c101 => ?_) (fun c101 => ?_)
              · obtain ⟨n6, v6, hS, hX6⟩ := h98.f c101
                have hY6 := hY5.x hX6
                have hL6 := hY6.L
                refine r_iconst (v := 0) F dX12_link_108 (by decide) ?_
                refine r_istore_n F dX12_link_109 (by decide) ?_
                refine r_iload_n F dX12_link_110 rfl ?_
                refine r_if_ne (tgt := 132) F dX12_link_111 (by decide) (fun h9 => absurd (show (0 : Int32) = 0 from rfl) h9) (fun _ => ?_)
                refine r_aload_n F dX12_link_114 rfl ?_
                refine c_Vi (ci := 12) F G (mm_end hS (hL6.rg hv)) (cwV 0 F.2.2.2.2 (zgV km_X12_225 ki_X12_end ke_X12_X12_end kn_X12 ko_X12_end) rfl rfl rfl ⟨rfl, hd_yX12_end⟩ ⟨Nat.le_of_ble_eq_true rfl, Nat.le_of_ble_eq_true rfl⟩) rfl (by decide) hS.al rfl rfl (Nat.le_of_ble_eq_true rfl) dX12_link_115 ⟨Nat.le_of_ble_eq_true rfl, Nat.le_of_ble_eq_true rfl⟩ (fun r115 S115 h115 => ?_)
                obtain ⟨a115, e115⟩ := h115
                have hs115 := e115.symm
                subst hs115
                rw [hL6.eaS] at a115
                subst a115
                have ha24 := aS_le hv 24 (Nat.le_refl _)
                refine r_sipush (v := 1024) F dX12_link_118 (by decide) ?_
                rw [show (1024 : Int32) = nI 1024 from rfl]
                refine r_icmp_le (tgt := 132) F dX12_link_121 (by decide) (fun c121 => ?_) (fun c121 => ?_)
                · have n7 : aS vz 24 ≤ 1024 := by have c9 := c121; rw [nI_leI (by omega) (by omega)] at c9; exact c9
                  refine r_aload_n F dX12_link_132 rfl ?_
                  refine r_iload_n F dX12_link_133 rfl ?_
                  refine r_if_ne (tgt := 141) F dX12_link_134 (by decide) (fun h9 => absurd (show (0 : Int32) = 0 from rfl) h9) (fun _ => ?_)
                  refine r_iconst (v := 1) F dX12_link_137 (by decide) ?_
                  refine r_goto (tgt := 142) F dX12_link_138 (by decide) ?_
                  refine pi_linked F G hS (by decide) dX12_link_142 (fun S hS => ?_)
                  refine r_aload_n F dX12_link_145 rfl ?_
                  refine gi_linked F G hS dX12_link_146 ?_
                  refine r_if_eq (tgt := 156) F dX12_link_149 (by decide) (fun h9 => absurd h9 (show ¬ (u1 v6 1219 0 1).1 1219 0 = 0 by rw [u1_s]; decide)) (fun _ => ?_)
                  have hLw : vL vz (u1 v6 1219 0 1) := (hY6.u (id := 1219) (by omega)).L
                  refine r_aload_n F dX12_link_152 rfl ?_
                  refine c_Vv (ci := 12) F G (mm_write hS (hLw.rg hv) (hLw.A hA) (hLw.D hD) (hLw.allG n1) (hLw.ekEq (kEq.of (fun z hz h9 => n5 z hz ⟨h9.1, h9.2⟩)))) (cwV 0 F.2.2.2.2 (zgV km_X12_229 ki_X12_write ke_X12_X12_write kn_X12 ko_X12_write) rfl rfl rfl ⟨rfl, hd_yX12_write⟩ ⟨Nat.le_of_ble_eq_true rfl, Nat.le_of_ble_eq_true rfl⟩) rfl (by decide) hS.al rfl rfl (Nat.le_of_ble_eq_true rfl) dX12_link_153 ⟨Nat.le_of_ble_eq_true rfl, Nat.le_of_ble_eq_true rfl⟩ (fun S153 h153 => ?_)
                  obtain ⟨v8, hF8, hT8, hU8, T, v9, hS, hM9, hB9⟩ := h153
                  refine r_aload_n F dX12_link_156 rfl ?_
                  refine gi_fault F G hS dX12_link_157 ?_
                  have e9 : v9.1 1221 0 = 0 := (hM9.1 1221 0 (by decide) (by decide)).trans ((hF8.1 1221 0 (by omega)).trans ((u1_n (Or.inl (by decide))).trans (((hX6.1 1221 0 (by omega)).trans ((hX5.1 1221 0 (by omega)).trans ((hX4.1 1221 0 (by omega)).trans ((hX3.1 1221 0 (by omega)).trans ((hX2.1 1221 0 (by omega)).trans ((hX1.1 1221 0 (by omega)).trans ((u1_n (Or.inl (by decide))).trans u1_s))))))))))
                  have e10 : v9.1 1220 0 = -1 := (hM9.1 1220 0 (by decide) (by decide)).trans ((hF8.1 1220 0 (by omega)).trans ((u1_n (Or.inl (by decide))).trans (((hX6.1 1220 0 (by omega)).trans ((hX5.1 1220 0 (by omega)).trans ((hX4.1 1220 0 (by omega)).trans ((hX3.1 1220 0 (by omega)).trans ((hX2.1 1220 0 (by omega)).trans ((hX1.1 1220 0 (by omega)).trans u1_s)))))))))
                  have e11 : v9.1 1219 0 = 1 := (hM9.1 1219 0 (by decide) (by decide)).trans ((hF8.1 1219 0 (by omega)).trans u1_s)
                  rw [hLw.ewdF, hLw.emdB] at hB9
                  rw [hLw.ewdF] at hT8 hU8
                  exact e_iret F hr hlk (Or.inr ⟨hob, Or.inr ⟨⟨fun _ => n1, fun _ => n2, fun _ => n3, fun _ => n4, fun _ => n5, fun _ => n6, fun _ => n7⟩, e9, v9, ⟨((hY6.u (id := 1219) (by omega)).f hF8).m hM9, e11, e10, hM9.Q (by decide) (by decide) hT8, hM9.Q (by decide) (by decide) hU8, T, hB9⟩, hS⟩⟩) (by decide) (by decide) dX12_link_160
                · have hbad : 1024 < aS vz 24 := by rw [nI_leI (by omega) (by omega)] at c121; omega
                  refine r_aload_n F dX12_link_124 rfl ?_
                  refine r_bipush (v := 7) F dX12_link_125 (by decide) ?_
                  refine r_iconst (v := 0) F dX12_link_127 (by decide) ?_
                  refine c_Vi (ci := 12) F G (mm_fails hS) (cwV 2 F.2.2.2.2 (zgV km_X12_201 ki_X12_fails ke_X12_X12_fails kn_X12 ko_X12_fails) rfl rfl rfl ⟨rfl, hd_yX12_fails⟩ ⟨Nat.le_of_ble_eq_true rfl, Nat.le_of_ble_eq_true rfl⟩) rfl (by decide) hS.al rfl rfl (Nat.le_of_ble_eq_true rfl) dX12_link_128 ⟨Nat.le_of_ble_eq_true rfl, Nat.le_of_ble_eq_true rfl⟩ (fun r128 S128 h128 => ?_)
                  obtain ⟨e128, hS⟩ := h128
                  subst e128
                  have hX9 : vX v6 v6 := vX.rf
                  refine r_istore_n F dX12_link_131 (by decide) ?_
                  refine r_aload_n F dX12_link_132 rfl ?_
                  refine r_iload_n F dX12_link_133 rfl ?_
                  refine r_if_ne (tgt := 141) F dX12_link_134 (by decide) (fun _ => ?_) (fun h9 => absurd h9 (show ¬ (1 : Int32) = 0 by decide))
                  refine r_iconst (v := 0) F dX12_link_141 (by decide) ?_
                  refine pi_linked F G hS (by decide) dX12_link_142 (fun S hS => ?_)
                  refine r_aload_n F dX12_link_145 rfl ?_
                  refine gi_linked F G hS dX12_link_146 ?_
                  refine r_if_eq (tgt := 156) F dX12_link_149 (by decide) (fun _ => ?_) (fun h9 => absurd ((u1_s).trans rfl) h9)
                  refine r_aload_n F dX12_link_156 rfl ?_
                  refine gi_fault F G hS dX12_link_157 ?_
                  exact e_iret F hr hlk (Or.inr ⟨hob, Or.inl ⟨7, 0, _, ⟨⟨fun _ => n1, fun _ => n2, fun _ => n3, fun _ => n4, fun _ => n5, fun _ => n6, fun h9 => absurd h9 (by decide)⟩, Or.inr (Or.inr ⟨rfl, hbad, rfl⟩)⟩, (lkF.of (w := 7) (pl := 0) hY6 hX9).2.2.2, lkF.of hY6 hX9, hS⟩⟩) (by decide) (by decide) dX12_link_160
              · obtain ⟨pl, v9, hbad, hX9, hS⟩ := h98.t c101
                refine r_iconst (v := 1) F dX12_link_104 (by decide) ?_
                refine r_goto (tgt := 109) F dX12_link_105 (by decide) ?_
                refine r_istore_n F dX12_link_109 (by decide) ?_
                refine r_iload_n F dX12_link_110 rfl ?_
                refine r_if_ne (tgt := 132) F dX12_link_111 (by decide) (fun _ => ?_) (fun h9 => absurd h9 (show ¬ (1 : Int32) = 0 by decide))
                refine r_aload_n F dX12_link_132 rfl ?_
                refine r_iload_n F dX12_link_133 rfl ?_
                refine r_if_ne (tgt := 141) F dX12_link_134 (by decide) (fun _ => ?_) (fun h9 => absurd h9 (show ¬ (1 : Int32) = 0 by decide))
                refine r_iconst (v := 0) F dX12_link_141 (by decide) ?_
                refine pi_linked F G hS (by decide) dX12_link_142 (fun S hS => ?_)
                refine r_aload_n F dX12_link_145 rfl ?_
                refine gi_linked F G hS dX12_link_146 ?_
                refine r_if_eq (tgt := 156) F dX12_link_149 (by decide) (fun _ => ?_) (fun h9 => absurd ((u1_s).trans rfl) h9)
                refine r_aload_n F dX12_link_156 rfl ?_
                refine gi_fault F G hS dX12_link_157 ?_
                exact e_iret F hr hlk (Or.inr ⟨hob, Or.inl ⟨6, pl, _, ⟨⟨fun _ => n1, fun _ => n2, fun _ => n3, fun _ => n4, fun _ => n5, fun h9 => absurd h9 (by decide), fun h9 => absurd h9 (by decide)⟩, Or.inl ⟨by decide, hbad⟩⟩, (lkF.of (w := 6) (pl := pl) hY5 hX9).2.2.2, lkF.of hY5 hX9, hS⟩⟩) (by decide) (by decide) dX12_link_160
            · obtain ⟨pl, v9, hbad, hX9, hS⟩ := h79.t c82
              refine r_iconst (v := 1) F dX12_link_85 (by decide) ?_
              refine r_goto (tgt := 90) F dX12_link_86 (by decide) ?_
              refine r_istore_n F dX12_link_90 (by decide) ?_
              refine r_iload_n F dX12_link_91 rfl ?_
              refine r_if_ne (tgt := 104) F dX12_link_92 (by decide) (fun _ => ?_) (fun h9 => absurd h9 (show ¬ (1 : Int32) = 0 by decide))
              refine r_iconst (v := 1) F dX12_link_104 (by decide) ?_
              refine r_goto (tgt := 109) F dX12_link_105 (by decide) ?_
              refine r_istore_n F dX12_link_109 (by decide) ?_
              refine r_iload_n F dX12_link_110 rfl ?_
              refine r_if_ne (tgt := 132) F dX12_link_111 (by decide) (fun _ => ?_) (fun h9 => absurd h9 (show ¬ (1 : Int32) = 0 by decide))
              refine r_aload_n F dX12_link_132 rfl ?_
              refine r_iload_n F dX12_link_133 rfl ?_
              refine r_if_ne (tgt := 141) F dX12_link_134 (by decide) (fun _ => ?_) (fun h9 => absurd h9 (show ¬ (1 : Int32) = 0 by decide))
              refine r_iconst (v := 0) F dX12_link_141 (by decide) ?_
              refine pi_linked F G hS (by decide) dX12_link_142 (fun S hS => ?_)
              refine r_aload_n F dX12_link_145 rfl ?_
              refine gi_linked F G hS dX12_link_146 ?_
              refine r_if_eq (tgt := 156) F dX12_link_149 (by decide) (fun _ => ?_) (fun h9 => absurd ((u1_s).trans rfl) h9)
              refine r_aload_n F dX12_link_156 rfl ?_
              refine gi_fault F G hS dX12_link_157 ?_
              exact e_iret F hr hlk (Or.inr ⟨hob, Or.inl ⟨5, pl, _, ⟨⟨fun _ => n1, fun _ => n2, fun _ => n3, fun _ => n4, fun h9 => absurd h9 (by decide), fun h9 => absurd h9 (by decide), fun h9 => absurd h9 (by decide)⟩, Or.inr (Or.inl ⟨by decide, hbad⟩)⟩, (lkF.of (w := 5) (pl := pl) hY4 hX9).2.2.2, lkF.of hY4 hX9, hS⟩⟩) (by decide) (by decide) dX12_link_160
      · obtain ⟨pl, v9, hbad, hX9, hS⟩ := h45.t c48
        refine r_iconst (v := 1) F dX12_link_51 (by decide) ?_
        refine r_goto (tgt := 56) F dX12_link_52 (by decide) ?_
        refine r_istore_n F dX12_link_56 (by decide) ?_
        refine r_iload_n F dX12_link_57 rfl ?_
        refine r_if_ne (tgt := 85) F dX12_link_58 (by decide) (fun _ => ?_) (fun h9 => absurd h9 (show ¬ (1 : Int32) = 0 by decide))
        refine r_iconst (v := 1) F dX12_link_85 (by decide) ?_
        refine r_goto (tgt := 90) F dX12_link_86 (by decide) ?_
        refine r_istore_n F dX12_link_90 (by decide) ?_
        refine r_iload_n F dX12_link_91 rfl ?_
        refine r_if_ne (tgt := 104) F dX12_link_92 (by decide) (fun _ => ?_) (fun h9 => absurd h9 (show ¬ (1 : Int32) = 0 by decide))
        refine r_iconst (v := 1) F dX12_link_104 (by decide) ?_
        refine r_goto (tgt := 109) F dX12_link_105 (by decide) ?_
        refine r_istore_n F dX12_link_109 (by decide) ?_
        refine r_iload_n F dX12_link_110 rfl ?_
        refine r_if_ne (tgt := 132) F dX12_link_111 (by decide) (fun _ => ?_) (fun h9 => absurd h9 (show ¬ (1 : Int32) = 0 by decide))
        refine r_aload_n F dX12_link_132 rfl ?_
        refine r_iload_n F dX12_link_133 rfl ?_
        refine r_if_ne (tgt := 141) F dX12_link_134 (by decide) (fun _ => ?_) (fun h9 => absurd h9 (show ¬ (1 : Int32) = 0 by decide))
        refine r_iconst (v := 0) F dX12_link_141 (by decide) ?_
        refine pi_linked F G hS (by decide) dX12_link_142 (fun S hS => ?_)
        refine r_aload_n F dX12_link_145 rfl ?_
        refine gi_linked F G hS dX12_link_146 ?_
        refine r_if_eq (tgt := 156) F dX12_link_149 (by decide) (fun _ => ?_) (fun h9 => absurd ((u1_s).trans rfl) h9)
        refine r_aload_n F dX12_link_156 rfl ?_
        refine gi_fault F G hS dX12_link_157 ?_
        exact e_iret F hr hlk (Or.inr ⟨hob, Or.inl ⟨2, pl, _, ⟨⟨fun _ => n1, fun h9 => absurd h9 (by decide), fun h9 => absurd h9 (by decide), fun h9 => absurd h9 (by decide), fun h9 => absurd h9 (by decide), fun h9 => absurd h9 (by decide), fun h9 => absurd h9 (by decide)⟩, Or.inl ⟨by decide, hbad⟩⟩, (lkF.of (w := 2) (pl := pl) hY1 hX9).2.2.2, lkF.of hY1 hX9, hS⟩⟩) (by decide) (by decide) dX12_link_160
  · refine r_iconst (v := 1) F dX12_link_8 (by decide) ?_
    refine r_goto (tgt := 13) F dX12_link_9 (by decide) ?_
    refine pi_code F G hS dX12_link_13 (fun S hS => ?_)
    refine r_aload_n F dX12_link_16 rfl ?_
    refine gi_code F G hS dX12_link_17 ?_
    refine r_if_le (tgt := 25) F dX12_link_20 (by decide) (fun h9 => absurd h9 (show ¬ (u1 v 1200 0 1).1 1200 0 ≤ 0 by rw [u1_s]; decide)) (fun _ => ?_)
    refine r_iconst (v := 0) F dX12_link_23 (by decide) ?_
    exact e_iret F hr hlk (Or.inl ⟨by rw [nl0, nI_eq (by omega) (by omega)] at c5; exact c5, rfl, hS⟩) (by decide) (by decide) dX12_link_24
