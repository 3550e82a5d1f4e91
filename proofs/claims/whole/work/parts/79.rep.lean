/-- where the references go that are written once -/
def wd (id c : Nat) : Nat := match id with
  | 1100 => 4 | 1101 => 6 | 1102 => 8 | 1103 => 10 | 1104 => 12 | 1105 => 14
  | 600 => 16 | 601 => 18 | 602 => 20
  | 200 => 22 | 201 => 24 | 202 => 26 | 203 => 28 | 204 => 30
  | 300 => 32 | 301 => 34 | 302 => 36 | 303 => 38 | 304 => 40 | 305 => 42
  | 500 => 44 | 501 => 46 | 502 => 48
  | 400 => 50 | 401 => 52 | 402 => 54 | 403 => 56 | 404 => 58
  | 705 => c + 2 | 706 => c + 4 | 707 => c + 6 | 708 => c + 8 | 709 => c + 10
  | 800 => c + 2
  | 1000 => c + 2 | 1001 => c + 4 | 1002 => c + 6
  | _ => 0
def wn (id : Nat) : Nat := match id with
  | 600 => 31 | 601 => 31 | 602 => 31
  | 200 => 61 | 201 => 61 | 202 => 61 | 203 => 61 | 204 => 61
  | 304 => 10 | 305 => 10
  | 400 => 2720 | 401 => 40 | 402 => 40 | 403 => 40 | 404 => 1024
  | 705 => 60 | 706 => 60 | 707 => 60 | 708 => 60 | 709 => 60
  | _ => 0
def wL : List Nat := [1100, 1101, 1102, 1103, 1104, 1105, 600, 601, 602, 200, 201, 202, 203, 204, 300, 301, 302, 303, 304, 305, 500, 501, 502, 400, 401, 402, 403, 404, 705, 706, 707, 708, 709, 800, 1000, 1001, 1002]
def wk (id : Nat) : Nat := match id with
  | 1100 => 0 | 1101 => 6 | 1102 => 2 | 1103 => 3 | 1104 => 5 | 1105 => 4
  | 600 => 18 | 601 => 18 | 602 => 18
  | 200 => 14 | 201 => 14 | 202 => 14 | 203 => 14 | 204 => 16
  | 300 => 0 | 301 => 0 | 302 => 0 | 303 => 0 | 304 => 14 | 305 => 14
  | 500 => 1 | 501 => 1 | 502 => 1
  | 400 => 15 | 401 => 17 | 402 => 14 | 403 => 14 | 404 => 13
  | 705 => 14 | 706 => 14 | 707 => 14 | 708 => 14 | 709 => 14
  | 800 => 13
  | _ => 0
def wrc (W : zO) (id c : Nat) : Prop := oq W c id = some (wd id c) ∧ oa W (wd id c) ∧ (wn id ≠ 0 → onn W (wd id c) = wn id) ∧ kd (wd id c) = wk id
def wr (W : zO) : Prop := ∀ id ∈ wL, ∀ c, oa W c → kd c = id / 100 → wrc W id c
theorem wL_k : ∀ id ∈ wL, id / 100 ≠ 0 ∧ id / 100 ≠ 19 ∧ wk id ≠ 19 ∧ (wn id ≠ 0 → wk id ≠ 0) := by decide
section ZWR
variable {W W' : zO} {c id : Nat}
theorem oaU {e : zE} {d : Nat} (hc : oa W c) (he : e.1) (hd : oa W d) : oa (va_up W c e) d := (va_up_al hc he d).mpr hd
theorem wr.q (h : wr W) (hc : oa W c) (hi : id ∈ wL) (hk : kd c = id / 100) : oq W c id = some (wd id c) := (h id hi c hc hk).1
theorem wr.a (h : wr W) (hc : oa W c) (hi : id ∈ wL) (hk : kd c = id / 100) : oa W (wd id c) := (h id hi c hc hk).2.1
theorem wr.n (h : wr W) (hc : oa W c) (hi : id ∈ wL) (hk : kd c = id / 100) (hn : wn id ≠ 0) : onn W (wd id c) = wn id := (h id hi c hc hk).2.2.1 hn
theorem wr.k (h : wr W) (hc : oa W c) (hi : id ∈ wL) (hk : kd c = id / 100) : kd (wd id c) = wk id := (h id hi c hc hk).2.2.2
/-- things are added, lists change -/
theorem wr.ext (h : wr W) (hs : ∀ c, oa W c → kd c ≠ 0 → kd c ≠ 19 → W' c = W c) (hal : ∀ c, oa W c → oa W' c) (hnew : ∀ c, oa W' c → ¬ oa W c → ∀ id ∈ wL, kd c = id / 100 → wrc W' id c) : wr W' := by
  intro id hid d hd hk
  have hw := wL_k id hid
  by_cases hd2 : oa W d
  · obtain ⟨h1, h2, h3, h4⟩ := h id hid d hd2 hk
    have e1 := hs d hd2 (by rw [hk]; exact hw.1) (by rw [hk]; exact hw.2.1)
    refine ⟨?_, hal _ h2, fun h9 => ?_, h4⟩
    · show (W' d).2.2.1 id = _
      rw [e1]
      exact h1
    · show (W' (wd id d)).2.2.2.2.1 = _
      rw [hs _ h2 (by rw [h4]; exact hw.2.2.2 h9) (by rw [h4]; exact hw.2.2.1)]
      exact h3 h9
  · exact hnew d hd hd2 id hid hk
theorem wr.up (h : wr W) (hc : oa W c) {e : zE} (he : e.1) (hq : ∀ id ∈ wL, e.2.2.1 id = oq W c id) (hn : e.2.2.2.2.1 = onn W c) : wr (va_up W c e) := by
  intro id hid d hd hk
  have hd2 := (va_up_al hc he d).mp hd
  obtain ⟨h1, h2, h3, h4⟩ := h id hid d hd2 hk
  refine ⟨?_, oaU hc he h2, fun h9 => ?_, h4⟩
  · show (va_up W c e d).2.2.1 id = _
    by_cases e1 : d = c
    · subst e1
      rw [va_up_self, hq id hid]
      exact h1
    · rw [va_up_ne _ _ e1]
      exact h1
  · show (va_up W c e (wd id d)).2.2.2.2.1 = _
    by_cases e1 : wd id d = c
    · rw [e1, va_up_self, hn, ← e1]
      exact h3 h9
    · rw [va_up_ne _ _ e1]
      exact h3 h9
theorem wr.I (h : wr W) (hc : oa W c) {x : Int32} : wr (oI W c id x) := h.up hc hc (fun _ _ => rfl) rfl
theorem wr.L (h : wr W) (hc : oa W c) {x : Int64} : wr (oL W c id x) := h.up hc hc (fun _ _ => rfl) rfl
theorem wr.Ri (h : wr W) (hc : oa W c) {f : Nat → Int32} : wr (oRi W c f) := h.up hc hc (fun _ _ => rfl) rfl
theorem wr.Rj (h : wr W) (hc : oa W c) {f : Nat → Int64} : wr (oRj W c f) := h.up hc hc (fun _ _ => rfl) rfl
theorem wr.Rq (h : wr W) (hc : oa W c) {f : Nat → Option Nat} : wr (oRq W c f) := h.up hc hc (fun _ _ => rfl) rfl
theorem wr.Q (h : wr W) (hc : oa W c) {x : Option Nat} (hid : id ∉ wL) : wr (oQ W c id x) := h.up hc hc (fun j hj => va_up_ne _ _ (fun e => hid (e ▸ hj))) rfl
/-- the list c and its row change -/
theorem wr.two (h : wr W) (hk : kd c = 0) (hk1 : kd (c + 1) = 19) (hc : oa W' c) (hs : ∀ d, d ≠ c → d ≠ c + 1 → W' d = W d) : wr W' := by
  have hal : ∀ d, d ≠ c → d ≠ c + 1 → oa W d → oa W' d := fun d h1 h2 hd => by
    show (W' d).1
    rw [hs d h1 h2]
    exact hd
  intro id hid d hd hkd
  have hw := wL_k id hid
  have hdc : d ≠ c := fun e => hw.1 (by rw [← hkd, e, hk])
  have hdc1 : d ≠ c + 1 := fun e => hw.2.1 (by rw [← hkd, e, hk1])
  have e1 := hs d hdc hdc1
  have hd2 : oa W d := by
    show (W d).1
    rw [← e1]
    exact hd
  obtain ⟨g1, g2, g3, g4⟩ := h id hid d hd2 hkd
  have t1 : wd id d ≠ c + 1 := fun e => hw.2.2.1 (by rw [← g4, e, hk1])
  refine ⟨?_, ?_, fun h9 => ?_, g4⟩
  · show (W' d).2.2.1 id = _
    rw [e1]
    exact g1
  · by_cases q1 : wd id d = c
    · rw [q1]
      exact hc
    · exact hal _ q1 t1 g2
  · have q1 : wd id d ≠ c := fun e => hw.2.2.2 h9 (by rw [← g4, e, hk])
    show (W' (wd id d)).2.2.2.2.1 = _
    rw [hs _ q1 t1]
    exact g3 h9
end ZWR
theorem kd_u : ∀ o, o < 6 → kd (100 + 8 * o) = 10 ∧ kd (100 + 8 * o + 2) = 0 ∧ kd (100 + 8 * o + 2 + 1) = 19 ∧ kd (100 + 8 * o + 4) = 0 ∧ kd (100 + 8 * o + 4 + 1) = 19 ∧ kd (100 + 8 * o + 6) = 0 ∧ kd (100 + 8 * o + 6 + 1) = 19 := by decide +kernel
theorem kd_r : ∀ f, f < 48 → kd (200 + 12 * f) = 7 ∧ kd (200 + 12 * f + 2) = 14 ∧ kd (200 + 12 * f + 4) = 14 ∧ kd (200 + 12 * f + 6) = 14 ∧ kd (200 + 12 * f + 8) = 14 ∧ kd (200 + 12 * f + 10) = 14 := by decide +kernel
theorem kd_g : ∀ g, g < 24 → kd (800 + 4 * g) = 8 ∧ kd (800 + 4 * g + 2) = 13 := by decide +kernel
theorem kd_y : ∀ y, y < 96 → kd (900 + 2 * y) = 9 := by decide +kernel
/-- the linker's world says what the tables say: units, routines, segments, symbols -/
def rpU (v : zV) (W : zO) (o : Nat) : Prop := oa W (100 + 8 * o) ∧ vl W (100 + 8 * o + 2) (cn v 1202 o) (fun j => 200 + 12 * (8 * o + j)) ∧ vl W (100 + 8 * o + 4) (cn v 1203 o) (fun j => 800 + 4 * (4 * o + j)) ∧ vl W (100 + 8 * o + 6) (cn v 1204 o) (fun j => 900 + 2 * (16 * o + j))
def rpR (v : zV) (W : zO) (f : Nat) : Prop := oa W (200 + 12 * f) ∧ oq W (200 + 12 * f) 700 = some (100 + 8 * (f / 8)) ∧ oi W (200 + 12 * f) 701 = nI (1000 * (f / 8) + 100 * (f % 8)) ∧ oi W (200 + 12 * f) 702 = v.1 1205 f ∧ oi W (200 + 12 * f) 703 = v.1 1206 f ∧ oi W (200 + 12 * f) 704 = v.1 1207 f ∧ oi W (200 + 12 * f) 710 = v.1 1208 f ∧ (∀ k, k < 60 → ori W (200 + 12 * f + 2) k = v.1 1209 (60 * f + k)) ∧ ∀ k, k < 60 → ori W (200 + 12 * f + 4) k = v.1 1210 (60 * f + k)
def rpG (v : zV) (W : zO) (g : Nat) : Prop := oa W (800 + 4 * g) ∧ oi W (800 + 4 * g) 801 = 1 <<< (v.1 1212 g &&& 31) ∧ onn W (800 + 4 * g + 2) = cn v 1211 g ∧ ∀ k, k < cn v 1211 g → ori W (800 + 4 * g + 2) k = v.1 1213 (64 * g + k)
def rpY (v : zV) (W : zO) (y : Nat) : Prop := oa W (900 + 2 * y) ∧ oi W (900 + 2 * y) 900 = nI (100 * (y / 16) + y % 16) ∧ oi W (900 + 2 * y) 901 = v.1 1214 y ∧ oi W (900 + 2 * y) 902 = v.1 1215 y ∧ oi W (900 + 2 * y) 903 = v.1 1216 y ∧ oi W (900 + 2 * y) 906 = v.1 1218 y ∧ oq W (900 + 2 * y) 904 = (if v.1 1215 y = 0 ∧ ¬ v.1 1217 y = -1 then some (200 + 12 * (8 * (y / 16) + cn v 1217 y)) else none) ∧ oq W (900 + 2 * y) 905 = (if ¬ v.1 1215 y = 0 ∧ ¬ v.1 1217 y = -1 then some (800 + 4 * (4 * (y / 16) + cn v 1217 y)) else none)
/-- what may be there at all -/
def rpN (v : zV) (c : Nat) : Prop := c < 60 ∨ (100 ≤ c ∧ c < 148 ∧ (c - 100) / 8 < cn v 1201 0) ∨ (200 ≤ c ∧ c < 776 ∧ (c - 200) / 12 % 8 < cn v 1202 ((c - 200) / 12 / 8)) ∨ (800 ≤ c ∧ c < 896 ∧ (c - 800) / 4 % 4 < cn v 1203 ((c - 800) / 4 / 4)) ∨ (900 ≤ c ∧ c < 1092 ∧ (c - 900) / 2 % 16 < cn v 1204 ((c - 900) / 2 / 16))
/-- bytes that grow -/
def vb (W : zO) (c : Nat) : Prop := oa W c ∧ oq W c 100 = some (c + 1) ∧ (∀ j, j ≠ 100 → oq W c j = none) ∧ oa W (c + 1) ∧ ∃ s e, oi W c 101 = nI s ∧ s ≤ onn W (c + 1) ∧ onn W (c + 1) = 128 * 2 ^ e ∧ e ≤ 9
/-- the lists and the bytes of linking, whatever they hold -/
def rpX (W : zO) : Prop := (∃ n f, n ≤ 48 ∧ vl W 32 n f ∧ ∀ i, i < n → kd (f i) = 7) ∧ (∃ n f, n ≤ 24 ∧ vl W 34 n f ∧ ∀ i, i < n → kd (f i) = 8) ∧ (∃ n f, n ≤ 96 ∧ vl W 36 n f ∧ ∀ i, i < n → kd (f i) = 9) ∧ (∃ n f, n ≤ 48 ∧ vl W 38 n f ∧ ∀ i, i < n → kd (f i) = 7) ∧ vb W 44 ∧ vb W 46 ∧ vb W 48
theorem vb.same {W W' : zO} {c : Nat} (h : vb W c) (h1 : W' c = W c) (h2 : W' (c + 1) = W (c + 1)) : vb W' c := by
  unfold vb oa oi oq onn
  rw [h1, h2]
  exact h
theorem rpX.same {W W' : zO} (h : rpX W) (hs : ∀ d, 32 ≤ d → d < 50 → W' d = W d) : rpX W' := by
  obtain ⟨⟨n1, f1, a1, b1, c1⟩, ⟨n2, f2, a2, b2, c2⟩, ⟨n3, f3, a3, b3, c3⟩, ⟨n4, f4, a4, b4, c4⟩, h5, h6, h7⟩ := h
  exact ⟨⟨n1, f1, a1, b1.same (hs _ (by decide) (by decide)) (hs _ (by decide) (by decide)), c1⟩, ⟨n2, f2, a2, b2.same (hs _ (by decide) (by decide)) (hs _ (by decide) (by decide)), c2⟩, ⟨n3, f3, a3, b3.same (hs _ (by decide) (by decide)) (hs _ (by decide) (by decide)), c3⟩, ⟨n4, f4, a4, b4.same (hs _ (by decide) (by decide)) (hs _ (by decide) (by decide)), c4⟩, h5.same (hs _ (by decide) (by decide)) (hs _ (by decide) (by decide)), h6.same (hs _ (by decide) (by decide)) (hs _ (by decide) (by decide)), h7.same (hs _ (by decide) (by decide)) (hs _ (by decide) (by decide))⟩
def Rep (v : zV) (W : zO) : Prop := wr W ∧ oa W 2 ∧ vl W 4 (cn v 1201 0) (fun o => 100 + 8 * o) ∧ (∀ o, o < cn v 1201 0 → rpU v W o) ∧ (∀ f, f < 48 → f % 8 < cn v 1202 (f / 8) → rpR v W f) ∧ (∀ g, g < 24 → g % 4 < cn v 1203 (g / 4) → rpG v W g) ∧ (∀ y, y < 96 → y % 16 < cn v 1204 (y / 16) → rpY v W y) ∧ (∀ c, oa W c → rpN v c) ∧ oi W 2 1106 = v.1 1219 0 ∧ oi W 2 1107 = v.1 1220 0 ∧ ol W 14 409 = v.2 1229 0 ∧ oi W 14 410 = v.1 1230 0 ∧ oi W 14 411 = v.1 1231 0 ∧ (∀ k, k < 1024 → ori W 58 k = v.1 1228 k) ∧ rpX W
/-- tables of what isn't there yet -/
def vZ (v : zV) : Prop := (∀ f, f < 48 → ¬ f % 8 < cn v 1202 (f / 8) → v.1 1208 f = 0 ∧ ∀ k, k < 60 → v.1 1209 (60 * f + k) = 0 ∧ v.1 1210 (60 * f + k) = 0) ∧ ∀ g, g < 24 → ¬ g % 4 < cn v 1203 (g / 4) → ∀ k, k < 64 → v.1 1213 (64 * g + k) = 0
