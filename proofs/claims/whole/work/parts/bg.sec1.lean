section ZLJ
variable {t0 : Nat} {S S1 S2 : zS} {x g o : Nat} {v : zV} {W : zO} {ad qa : Nat → Nat} {post : Int32 → zS → Prop} {xp : String → zS → Prop} {P : Int32 → zO → Prop} {P1 P2 : Prop} {Q : Int32 → zV → Prop} {Z : zV → zO → Prop} {k r : Int32}
theorem up_0 {f : Nat → Int64} {y : Int64} : vp_updL f (0 : Int32).toNatClampNeg y 0 = y := if_pos rfl
/-- the class has answered or thrown -/
theorem lw_w (hI : lwI t0 S x g o v W ad qa) (hp : ∀ r S', post r S' → ∃ ad2 W2, zH t0 (X9 g o qa) S ad2 W2 S' ∧ ad2 2 = x ∧ P r W2) (h1 : ∀ S', xp zIAE S' → S' = S ∧ P1) (h2 : ∀ S', xp zISE S' → S' = S ∧ P2) (h : zwr o (fun r S1 => ∃ v : Int32, r = v.toInt64 ∧ post v S1) xp k S1) : ∃ W1 ad1, lwI t0 S1 x g o v W1 ad1 qa ∧ ((k = 0 ∧ ∃ r, zrj S1 o 0 = r.toInt64 ∧ P r W1) ∨ (k = 1 ∧ P1 ∧ W1 = W) ∨ (k = 2 ∧ P2 ∧ W1 = W)) := by
  rcases h with ⟨e1, r, S3, ⟨v9, e2, h9⟩, e3⟩ | ⟨e1, h9⟩ | ⟨e1, h9⟩
  · obtain ⟨ad2, W2, q1, q2, q3⟩ := hp v9 S3 h9
    obtain ⟨q4, q5⟩ := (hI.c q1 q2).mo (f := vp_updL (zrj S3 o) (0 : Int32).toNatClampNeg r)
    subst e3
    exact ⟨W2, ad2, q4, Or.inl ⟨e1, v9, by rw [q5, up_0]; exact e2, q3⟩⟩
  · obtain ⟨q1, q2⟩ := h1 S1 h9
    subst q1
    exact ⟨W, ad, hI, Or.inr (Or.inl ⟨e1, q2, rfl⟩)⟩
  · obtain ⟨q1, q2⟩ := h2 S1 h9
    subst q1
    exact ⟨W, ad, hI, Or.inr (Or.inr ⟨e1, q2, rfl⟩)⟩
theorem lw_w1 {E : String} (hI : lwI t0 S x g o v W ad qa) (hp : ∀ r S', post r S' → ∃ ad2 W2, zH t0 (X9 g o qa) S ad2 W2 S' ∧ ad2 2 = x ∧ P r W2) (h1 : ∀ S', xp E S' → S' = S ∧ P1) (h : zwr1 o (fun r S1 => ∃ v : Int32, r = v.toInt64 ∧ post v S1) E xp k S1) : ∃ W1 ad1, lwI t0 S1 x g o v W1 ad1 qa ∧ ((k = 0 ∧ ∃ r, zrj S1 o 0 = r.toInt64 ∧ P r W1) ∨ (k = 1 ∧ P1 ∧ W1 = W) ∨ (k = 2 ∧ False ∧ W1 = W)) := by
  rcases h with ⟨e1, r, S3, ⟨v9, e2, h9⟩, e3⟩ | ⟨e1, h9⟩
  · obtain ⟨ad2, W2, q1, q2, q3⟩ := hp v9 S3 h9
    obtain ⟨q4, q5⟩ := (hI.c q1 q2).mo (f := vp_updL (zrj S3 o) (0 : Int32).toNatClampNeg r)
    subst e3
    exact ⟨W2, ad2, q4, Or.inl ⟨e1, v9, by rw [q5, up_0]; exact e2, q3⟩⟩
  · obtain ⟨q1, q2⟩ := h1 S1 h9
    subst q1
    exact ⟨W, ad, hI, Or.inr (Or.inl ⟨e1, q2, rfl⟩)⟩
/-- both have answered -/
theorem lw_j (hI : ∃ W1 ad1, lwI t0 S1 x g o v W1 ad1 qa ∧ ((k = 0 ∧ ∃ r, zrj S1 o 0 = r.toInt64 ∧ P r W1) ∨ (k = 1 ∧ P1 ∧ W1 = W) ∨ (k = 2 ∧ P2 ∧ W1 = W))) (hQ : ∃ v2, zmR S1 g qa v2 S2 ∧ Q r v2) (ha : ∀ v2, Q r v2 → (∀ r1 W2, P r1 W2 → v2.1 1200 0 = 0 ∧ r1 = r ∧ Z v2 W2) ∧ (P1 → v2.1 1200 0 = 1 ∧ Z v2 W) ∧ (P2 → v2.1 1200 0 = 2 ∧ Z v2 W)) : zA S2 g 12 ∧ zi S2 1200 g = k ∧ (k = 0 → zA S2 o 15 ∧ zn S2 o = 1 ∧ zrj S2 o 0 = r.toInt64) ∧ ∃ v2 W2 ad2, lwI t0 S2 x g o v2 W2 ad2 qa ∧ Z v2 W2 := by
  obtain ⟨W1, ad1, q1, q2⟩ := hI
  obtain ⟨v2, z1, z2⟩ := hQ
  obtain ⟨q3, q4, q5⟩ := q1.m z1
  obtain ⟨a1, a2, a3⟩ := ha v2 z2
  rcases q2 with ⟨e1, r1, e2, e3⟩ | ⟨e1, e2, e3⟩ | ⟨e1, e2, e3⟩
  · obtain ⟨b1, b2, b3⟩ := a1 r1 W1 e3
    exact ⟨q3.mg, q5.trans (b1.trans e1.symm), fun _ => ⟨q3.2.2.2.1.1, q3.2.2.2.1.2, by rw [q4, e2, b2]⟩, v2, W1, ad1, q3, b3⟩
  · obtain ⟨b1, b2⟩ := a2 e2
    subst e3
    exact ⟨q3.mg, q5.trans (b1.trans e1.symm), fun h9 => absurd (e1.symm.trans h9) (by decide), v2, W1, ad1, q3, b2⟩
  · obtain ⟨b1, b2⟩ := a3 e2
    subst e3
    exact ⟨q3.mg, q5.trans (b1.trans e1.symm), fun h9 => absurd (e1.symm.trans h9) (by decide), v2, W1, ad1, q3, b2⟩
theorem lw_o (hI : lwI t0 S x g o v W ad qa) (hp : ∀ r S', post r S' → ∃ ad2 W2, zH t0 (X9 g o qa) S ad2 W2 S' ∧ ad2 2 = x ∧ P r W2) : ∀ r S', post r S' → zA S' o 15 ∧ zn S' o = 1 := fun r S' h => by
  obtain ⟨ad2, W2, q1, q2, q3⟩ := hp r S' h
  exact (hI.c q1 q2).2.2.2.1
end ZLJ
section ZLS9
variable {p : Program} {l : Launch} {e : Env} {R : Room} {s : State} {m : MethodId} {args : Array Value} {below : List Frame} {meth : Method} {c : Code} {Q : State → Prop} {N0 t0 : Nat} {D : va_G} {cy : Nat → ClassId} {cells slots : Nat} {z : Cond} {S : zS}
set_option maxRecDepth 100000 in
set_option maxHeartbeats 4000000 in
theorem lx_function (F : CallFix p m c cL_law 8 s args (z :: lw_good) RL) (G : zG N0 t0 D cy s s.heap) (hl : l.stackTraces = false) {b L : Nat} {xs : Nat → Int32} (hX : va_X b L xs s s.heap) (hbl : b < s.heap.size) (hbN : b < N0) {i : Nat} (hi : i + 8 ≤ L) (hL : L < 2 ^ 31) {x g o : Nat} {v : zV} {W : zO} {ad qa : Nat → Nat} {km ks kb : Nat} (hI : lwI t0 S x g o v W ad qa) (hV : lwV v W km ks kb) (hR : 14 ≤ R.frames ∧ 500 ≤ R.locals ∧ cells + 100 ≤ R.cells ∧ slots + 2000 ≤ R.slots) (K : ∀ (S2 : zS) (v2 : zV) (W2 : zO) (ad2 : Nat → Nat) (c2 s2 : Nat), lwI t0 S2 x g o v2 W2 ad2 qa → lwV v2 W2 km ks kb → c2 ≤ cells + 100 → s2 ≤ slots + 2000 → zW p l e R s m args below meth c Q N0 D cy 8 c2 s2 S2 [(4, .int (nI i)), (3, .ref o), (2, .ref g), (1, .ref x), (0, .ref b)] 1174 []) : zW p l e R s m args below meth c Q N0 D cy 8 cells slots S [(4, .int (nI i)), (3, .ref o), (2, .ref g), (1, .ref x), (0, .ref b)] 156 [] := by
  obtain ⟨hR1, hR2, hR3, hR4⟩ := hR
  have hvI := hV.1
  have hRep := hV.2.1
  have hv := hvI.1
  have h01 := hV.2.2.1
  have hH := hI.2.1
  have hx : zA S x 11 := hI.mx hRep.2.1
  have hk2 : ∀ {ad2 : Nat → Nat}, keepA W ad ad2 → ad2 2 = x := fun hk => (hk 2 hRep.2.1 rfl).trans hI.2.2.1
  have hO6 := (rg_1201 hv (k := 0) (by omega)).2
  have hp : ∀ r S', _ → ∃ ad2 W2, zH t0 (X9 g o qa) S ad2 W2 S' ∧ ad2 2 = x ∧ (fun r W2 => (gO v (xs (i + 1)) ∧ pIn (xs (i + 2)) 0 4 ∧ pIn (xs (i + 3)) 0 1 ∧ pIn (xs (i + 4)) 0 4) ∧ ∃ i9, i9 < cn v 1201 0 ∧ (xs (i + 1)) = nI i9 ∧ ¬ v.1 1202 i9 = 8 ∧ r = v.1 1202 i9 ∧ Rep (vFun v i9 (xs (i + 2)) (xs (i + 3)) (xs (i + 4))) W2 ∧ ∀ d, 44 ≤ d → d < 50 → W2 d = W d) r W2 := fun r S' (h9 : (gO v (xs (i + 1)) ∧ pIn (xs (i + 2)) 0 4 ∧ pIn (xs (i + 3)) 0 1 ∧ pIn (xs (i + 4)) 0 4) ∧ ∃ i9, i9 < cn v 1201 0 ∧ (xs (i + 1)) = nI i9 ∧ ¬ v.1 1202 i9 = 8 ∧ r = v.1 1202 i9 ∧ ∃ (ad' : Nat → Nat) (W' : zO), zH t0 (X9 g o qa) S ad' W' S' ∧ keepA W ad ad' ∧ Rep (vFun v i9 (xs (i + 2)) (xs (i + 3)) (xs (i + 4))) W' ∧ ∀ d, 44 ≤ d → d < 50 → W' d = W d) => by
    obtain ⟨hg, i9, z1, z2, q5, q6, ad2, W2, q1, q2, q3, q4⟩ := h9
    exact ⟨ad2, W2, q1, hk2 q2, hg, i9, z1, z2, q5, q6, q3, q4⟩
  have hQ0 : ∀ {S1 S2 : zS} {r : Int32}, ((¬ (gO v (xs (i + 1)) ∧ pIn (xs (i + 2)) 0 4 ∧ pIn (xs (i + 3)) 0 1 ∧ pIn (xs (i + 4)) 0 4) ∧ r = 0 ∧ zmR S1 g qa (u1 v 1200 0 1) S2) ∨ ((gO v (xs (i + 1)) ∧ pIn (xs (i + 2)) 0 4 ∧ pIn (xs (i + 3)) 0 1 ∧ pIn (xs (i + 4)) 0 4) ∧ ∃ i9, i9 < cn v 1201 0 ∧ (xs (i + 1)) = nI i9 ∧ ((v.1 1202 i9 = 8 ∧ r = 0 ∧ zmR S1 g qa (u1 v 1200 0 2) S2) ∨ (¬ v.1 1202 i9 = 8 ∧ r = v.1 1202 i9 ∧ zmR S1 g qa (vFun v i9 (xs (i + 2)) (xs (i + 3)) (xs (i + 4))) S2)))) → ∃ v2, zmR S1 g qa v2 S2 ∧ (fun r v2 => (¬ (gO v (xs (i + 1)) ∧ pIn (xs (i + 2)) 0 4 ∧ pIn (xs (i + 3)) 0 1 ∧ pIn (xs (i + 4)) 0 4) ∧ v2 = u1 v 1200 0 1) ∨ ((gO v (xs (i + 1)) ∧ pIn (xs (i + 2)) 0 4 ∧ pIn (xs (i + 3)) 0 1 ∧ pIn (xs (i + 4)) 0 4) ∧ ∃ i9, i9 < cn v 1201 0 ∧ (xs (i + 1)) = nI i9 ∧ ((v.1 1202 i9 = 8 ∧ v2 = u1 v 1200 0 2) ∨ (¬ v.1 1202 i9 = 8 ∧ r = v.1 1202 i9 ∧ v2 = vFun v i9 (xs (i + 2)) (xs (i + 3)) (xs (i + 4)))))) r v2 := fun h9 => by
    rcases h9 with ⟨y1, y2, y3⟩ | ⟨y1, i8, b1, b2, y9⟩
    · exact ⟨_, y3, Or.inl ⟨y1, rfl⟩⟩
    · rcases y9 with ⟨w1, w2, w3⟩ | ⟨w1, w2, w3⟩
      · exact ⟨_, w3, Or.inr ⟨y1, i8, b1, b2, Or.inl ⟨w1, rfl⟩⟩⟩
      · exact ⟨_, w3, Or.inr ⟨y1, i8, b1, b2, Or.inr ⟨w1, w2, rfl⟩⟩⟩
  have hag : ∀ (r : Int32) (v2 : zV), (fun r v2 => (¬ (gO v (xs (i + 1)) ∧ pIn (xs (i + 2)) 0 4 ∧ pIn (xs (i + 3)) 0 1 ∧ pIn (xs (i + 4)) 0 4) ∧ v2 = u1 v 1200 0 1) ∨ ((gO v (xs (i + 1)) ∧ pIn (xs (i + 2)) 0 4 ∧ pIn (xs (i + 3)) 0 1 ∧ pIn (xs (i + 4)) 0 4) ∧ ∃ i9, i9 < cn v 1201 0 ∧ (xs (i + 1)) = nI i9 ∧ ((v.1 1202 i9 = 8 ∧ v2 = u1 v 1200 0 2) ∨ (¬ v.1 1202 i9 = 8 ∧ r = v.1 1202 i9 ∧ v2 = vFun v i9 (xs (i + 2)) (xs (i + 3)) (xs (i + 4)))))) r v2 → (∀ r1 W2, (fun r W2 => (gO v (xs (i + 1)) ∧ pIn (xs (i + 2)) 0 4 ∧ pIn (xs (i + 3)) 0 1 ∧ pIn (xs (i + 4)) 0 4) ∧ ∃ i9, i9 < cn v 1201 0 ∧ (xs (i + 1)) = nI i9 ∧ ¬ v.1 1202 i9 = 8 ∧ r = v.1 1202 i9 ∧ Rep (vFun v i9 (xs (i + 2)) (xs (i + 3)) (xs (i + 4))) W2 ∧ ∀ d, 44 ≤ d → d < 50 → W2 d = W d) r1 W2 → v2.1 1200 0 = 0 ∧ r1 = r ∧ lwV v2 W2 km ks kb) ∧ (¬ (gO v (xs (i + 1)) ∧ pIn (xs (i + 2)) 0 4 ∧ pIn (xs (i + 3)) 0 1 ∧ pIn (xs (i + 4)) 0 4) → v2.1 1200 0 = 1 ∧ lwV v2 W km ks kb) ∧ (((gO v (xs (i + 1)) ∧ pIn (xs (i + 2)) 0 4 ∧ pIn (xs (i + 3)) 0 1 ∧ pIn (xs (i + 4)) 0 4) ∧ ∃ i9, i9 < cn v 1201 0 ∧ (xs (i + 1)) = nI i9 ∧ v.1 1202 i9 = 8) → v2.1 1200 0 = 2 ∧ lwV v2 W km ks kb) := fun r v2 h9 => by
    rcases h9 with ⟨y1, y2⟩ | ⟨y1, i8, b1, b2, y9⟩
    · subst y2
      exact ⟨fun r1 W2 h8 => absurd h8.1 y1, fun _ => ⟨u1_s, hV.k⟩, fun h8 => absurd h8.1 y1⟩
    · refine ⟨fun r1 W2 h8 => ?_, fun h8 => absurd y1 h8, fun h8 => ?_⟩
      · obtain ⟨hg, i9, z1, z2, q5, q6, q3, q4⟩ := h8
        have ei : i8 = i9 := (nI_eq (by omega) (by omega)).mp (b2.symm.trans z2)
        subst ei
        rcases y9 with ⟨w1, w2⟩ | ⟨w1, w2, w3⟩
        · exact absurd w1 q5
        · subst w3
          refine ⟨rfl, q6.trans w2.symm, hV.b ?_ q3 rfl q4⟩
          have r9 := rg_1202 hv (k := i8) (by omega)
          have r92 := r9.2
          have hn9 : cn v 1202 i8 < 8 := by
            rcases Nat.lt_or_ge (cn v 1202 i8) 8 with h7 | h7
            · exact h7
            · exact absurd (r9.1.trans (by rw [show cn v 1202 i8 = 8 by omega]; rfl)) w1
          obtain ⟨a2, b2, c2⟩ := pIn_n (n := 4) rfl (by decide) hg.2.1
          obtain ⟨a3, b3, c3⟩ := pIn_n (n := 1) rfl (by decide) hg.2.2.1
          obtain ⟨a4, b4, c4⟩ := pIn_n (n := 4) rfl (by decide) hg.2.2.2
          rw [c2, c3, c4]
          exact hvI.fn z1 r9.1 hn9 b2 b3 b4
      · obtain ⟨hg, i9, z1, z2, q5⟩ := h8
        have ei : i8 = i9 := (nI_eq (by omega) (by omega)).mp (b2.symm.trans z2)
        subst ei
        rcases y9 with ⟨w1, w2⟩ | ⟨w1, w2, w3⟩
        · subst w2
          exact ⟨u1_s, hV.k⟩
        · exact absurd q5 w1
  refine lc_function (f2 := 3) (lo2 := 80) (mc2 := 0) (ms2 := 0) (J := fun S2 => ∃ v2 W2 ad2, lwI t0 S2 x g o v2 W2 ad2 qa ∧ lwV v2 W2 km ks kb) (post2 := fun _ S1 r S2 => (¬ (gO v (xs (i + 1)) ∧ pIn (xs (i + 2)) 0 4 ∧ pIn (xs (i + 3)) 0 1 ∧ pIn (xs (i + 4)) 0 4) ∧ r = 0 ∧ zmR S1 g qa (u1 v 1200 0 1) S2) ∨ ((gO v (xs (i + 1)) ∧ pIn (xs (i + 2)) 0 4 ∧ pIn (xs (i + 3)) 0 1 ∧ pIn (xs (i + 4)) 0 4) ∧ ∃ i9, i9 < cn v 1201 0 ∧ (xs (i + 1)) = nI i9 ∧ ((v.1 1202 i9 = 8 ∧ r = 0 ∧ zmR S1 g qa (u1 v 1200 0 2) S2) ∨ (¬ v.1 1202 i9 = 8 ∧ r = v.1 1202 i9 ∧ zmR S1 g qa (vFun v i9 (xs (i + 2)) (xs (i + 3)) (xs (i + 4))) S2)))) F G hX hbl hbN hi hL hx (c_function hl hH hRep hv hvI.2.2.1 hI.2.2.1) (fun E S' h => h.2.elim (fun h9 => Or.inl h9.2) (fun h9 => Or.inr h9.2.2)) (lw_o hI hp) (fun k S1 h => ?_) (fun k S1 r S2 h h2 => ?_) ⟨by omega, by omega, by omega, by omega, by omega, by omega⟩ (by omega) (by omega) (fun S2 hJ => by obtain ⟨v2, W2, ad2, q1, q2⟩ := hJ; exact K S2 v2 W2 ad2 _ _ q1 q2 (by omega) (by omega))
  · obtain ⟨W1, ad1, q1, -⟩ := lw_w (P := (fun r W2 => (gO v (xs (i + 1)) ∧ pIn (xs (i + 2)) 0 4 ∧ pIn (xs (i + 3)) 0 1 ∧ pIn (xs (i + 4)) 0 4) ∧ ∃ i9, i9 < cn v 1201 0 ∧ (xs (i + 1)) = nI i9 ∧ ¬ v.1 1202 i9 = 8 ∧ r = v.1 1202 i9 ∧ Rep (vFun v i9 (xs (i + 2)) (xs (i + 3)) (xs (i + 4))) W2 ∧ ∀ d, 44 ≤ d → d < 50 → W2 d = W d)) (P1 := ¬ (gO v (xs (i + 1)) ∧ pIn (xs (i + 2)) 0 4 ∧ pIn (xs (i + 3)) 0 1 ∧ pIn (xs (i + 4)) 0 4)) (P2 := ((gO v (xs (i + 1)) ∧ pIn (xs (i + 2)) 0 4 ∧ pIn (xs (i + 3)) 0 1 ∧ pIn (xs (i + 4)) 0 4) ∧ ∃ i9, i9 < cn v 1201 0 ∧ (xs (i + 1)) = nI i9 ∧ v.1 1202 i9 = 8)) hI hp (fun S' h9 => ⟨h9.1, h9.2.elim (fun h8 => h8.1) (fun h8 => absurd h8.2.2 (by decide))⟩) (fun S' h9 => ⟨h9.1, h9.2.elim (fun h8 => absurd h8.2 (by decide)) (fun h8 => ⟨h8.1, h8.2.1⟩)⟩) h
    exact ⟨q1.mg, mm_function (zmR.rf q1.1) hv⟩
  · exact lw_j (Q := (fun r v2 => (¬ (gO v (xs (i + 1)) ∧ pIn (xs (i + 2)) 0 4 ∧ pIn (xs (i + 3)) 0 1 ∧ pIn (xs (i + 4)) 0 4) ∧ v2 = u1 v 1200 0 1) ∨ ((gO v (xs (i + 1)) ∧ pIn (xs (i + 2)) 0 4 ∧ pIn (xs (i + 3)) 0 1 ∧ pIn (xs (i + 4)) 0 4) ∧ ∃ i9, i9 < cn v 1201 0 ∧ (xs (i + 1)) = nI i9 ∧ ((v.1 1202 i9 = 8 ∧ v2 = u1 v 1200 0 2) ∨ (¬ v.1 1202 i9 = 8 ∧ r = v.1 1202 i9 ∧ v2 = vFun v i9 (xs (i + 2)) (xs (i + 3)) (xs (i + 4))))))) (Z := fun v9 W9 => lwV v9 W9 km ks kb) (lw_w (P := (fun r W2 => (gO v (xs (i + 1)) ∧ pIn (xs (i + 2)) 0 4 ∧ pIn (xs (i + 3)) 0 1 ∧ pIn (xs (i + 4)) 0 4) ∧ ∃ i9, i9 < cn v 1201 0 ∧ (xs (i + 1)) = nI i9 ∧ ¬ v.1 1202 i9 = 8 ∧ r = v.1 1202 i9 ∧ Rep (vFun v i9 (xs (i + 2)) (xs (i + 3)) (xs (i + 4))) W2 ∧ ∀ d, 44 ≤ d → d < 50 → W2 d = W d)) (P1 := ¬ (gO v (xs (i + 1)) ∧ pIn (xs (i + 2)) 0 4 ∧ pIn (xs (i + 3)) 0 1 ∧ pIn (xs (i + 4)) 0 4)) (P2 := ((gO v (xs (i + 1)) ∧ pIn (xs (i + 2)) 0 4 ∧ pIn (xs (i + 3)) 0 1 ∧ pIn (xs (i + 4)) 0 4) ∧ ∃ i9, i9 < cn v 1201 0 ∧ (xs (i + 1)) = nI i9 ∧ v.1 1202 i9 = 8)) hI hp (fun S' h9 => ⟨h9.1, h9.2.elim (fun h8 => h8.1) (fun h8 => absurd h8.2.2 (by decide))⟩) (fun S' h9 => ⟨h9.1, h9.2.elim (fun h8 => absurd h8.2 (by decide)) (fun h8 => ⟨h8.1, h8.2.1⟩)⟩) h) (hQ0 h2) (fun v2 h9 => hag r v2 h9)
set_option maxRecDepth 100000 in
set_option maxHeartbeats 4000000 in
theorem lx_segment (F : CallFix p m c cL_law 8 s args (z :: lw_good) RL) (G : zG N0 t0 D cy s s.heap) (hl : l.stackTraces = false) {b L : Nat} {xs : Nat → Int32} (hX : va_X b L xs s s.heap) (hbl : b < s.heap.size) (hbN : b < N0) {i : Nat} (hi : i + 8 ≤ L) (hL : L < 2 ^ 31) {x g o : Nat} {v : zV} {W : zO} {ad qa : Nat → Nat} {km ks kb : Nat} (hI : lwI t0 S x g o v W ad qa) (hV : lwV v W km ks kb) (hR : 14 ≤ R.frames ∧ 500 ≤ R.locals ∧ cells + 100 ≤ R.cells ∧ slots + 2000 ≤ R.slots) (K : ∀ (S2 : zS) (v2 : zV) (W2 : zO) (ad2 : Nat → Nat) (c2 s2 : Nat), lwI t0 S2 x g o v2 W2 ad2 qa → lwV v2 W2 km ks kb → c2 ≤ cells + 100 → s2 ≤ slots + 2000 → zW p l e R s m args below meth c Q N0 D cy 8 c2 s2 S2 [(4, .int (nI i)), (3, .ref o), (2, .ref g), (1, .ref x), (0, .ref b)] 1174 []) : zW p l e R s m args below meth c Q N0 D cy 8 cells slots S [(4, .int (nI i)), (3, .ref o), (2, .ref g), (1, .ref x), (0, .ref b)] 340 [] := by
  obtain ⟨hR1, hR2, hR3, hR4⟩ := hR
  have hvI := hV.1
  have hRep := hV.2.1
  have hv := hvI.1
  have h01 := hV.2.2.1
  have hH := hI.2.1
  have hx : zA S x 11 := hI.mx hRep.2.1
  have hk2 : ∀ {ad2 : Nat → Nat}, keepA W ad ad2 → ad2 2 = x := fun hk => (hk 2 hRep.2.1 rfl).trans hI.2.2.1
  have hO6 := (rg_1201 hv (k := 0) (by omega)).2
  have hp : ∀ r S', _ → ∃ ad2 W2, zH t0 (X9 g o qa) S ad2 W2 S' ∧ ad2 2 = x ∧ (fun r W2 => (gO v (xs (i + 1)) ∧ pIn (xs (i + 2)) 1 64 ∧ pIn (xs (i + 3)) 0 4) ∧ ∃ i9, i9 < cn v 1201 0 ∧ (xs (i + 1)) = nI i9 ∧ ¬ v.1 1203 i9 = 4 ∧ r = v.1 1203 i9 ∧ Rep (vSeg v i9 (xs (i + 2)) (xs (i + 3))) W2 ∧ ∀ d, 44 ≤ d → d < 50 → W2 d = W d) r W2 := fun r S' (h9 : (gO v (xs (i + 1)) ∧ pIn (xs (i + 2)) 1 64 ∧ pIn (xs (i + 3)) 0 4) ∧ ∃ i9, i9 < cn v 1201 0 ∧ (xs (i + 1)) = nI i9 ∧ ¬ v.1 1203 i9 = 4 ∧ r = v.1 1203 i9 ∧ ∃ (ad' : Nat → Nat) (W' : zO), zH t0 (X9 g o qa) S ad' W' S' ∧ keepA W ad ad' ∧ Rep (vSeg v i9 (xs (i + 2)) (xs (i + 3))) W' ∧ ∀ d, 44 ≤ d → d < 50 → W' d = W d) => by
    obtain ⟨hg, i9, z1, z2, q5, q6, ad2, W2, q1, q2, q3, q4⟩ := h9
    exact ⟨ad2, W2, q1, hk2 q2, hg, i9, z1, z2, q5, q6, q3, q4⟩
  have hQ0 : ∀ {S1 S2 : zS} {r : Int32}, ((¬ (gO v (xs (i + 1)) ∧ pIn (xs (i + 2)) 1 64 ∧ pIn (xs (i + 3)) 0 4) ∧ r = 0 ∧ zmR S1 g qa (u1 v 1200 0 1) S2) ∨ ((gO v (xs (i + 1)) ∧ pIn (xs (i + 2)) 1 64 ∧ pIn (xs (i + 3)) 0 4) ∧ ∃ i9, i9 < cn v 1201 0 ∧ (xs (i + 1)) = nI i9 ∧ ((v.1 1203 i9 = 4 ∧ r = 0 ∧ zmR S1 g qa (u1 v 1200 0 2) S2) ∨ (¬ v.1 1203 i9 = 4 ∧ r = v.1 1203 i9 ∧ zmR S1 g qa (vSeg v i9 (xs (i + 2)) (xs (i + 3))) S2)))) → ∃ v2, zmR S1 g qa v2 S2 ∧ (fun r v2 => (¬ (gO v (xs (i + 1)) ∧ pIn (xs (i + 2)) 1 64 ∧ pIn (xs (i + 3)) 0 4) ∧ v2 = u1 v 1200 0 1) ∨ ((gO v (xs (i + 1)) ∧ pIn (xs (i + 2)) 1 64 ∧ pIn (xs (i + 3)) 0 4) ∧ ∃ i9, i9 < cn v 1201 0 ∧ (xs (i + 1)) = nI i9 ∧ ((v.1 1203 i9 = 4 ∧ v2 = u1 v 1200 0 2) ∨ (¬ v.1 1203 i9 = 4 ∧ r = v.1 1203 i9 ∧ v2 = vSeg v i9 (xs (i + 2)) (xs (i + 3)))))) r v2 := fun h9 => by
    rcases h9 with ⟨y1, y2, y3⟩ | ⟨y1, i8, b1, b2, y9⟩
    · exact ⟨_, y3, Or.inl ⟨y1, rfl⟩⟩
    · rcases y9 with ⟨w1, w2, w3⟩ | ⟨w1, w2, w3⟩
      · exact ⟨_, w3, Or.inr ⟨y1, i8, b1, b2, Or.inl ⟨w1, rfl⟩⟩⟩
      · exact ⟨_, w3, Or.inr ⟨y1, i8, b1, b2, Or.inr ⟨w1, w2, rfl⟩⟩⟩
  have hag : ∀ (r : Int32) (v2 : zV), (fun r v2 => (¬ (gO v (xs (i + 1)) ∧ pIn (xs (i + 2)) 1 64 ∧ pIn (xs (i + 3)) 0 4) ∧ v2 = u1 v 1200 0 1) ∨ ((gO v (xs (i + 1)) ∧ pIn (xs (i + 2)) 1 64 ∧ pIn (xs (i + 3)) 0 4) ∧ ∃ i9, i9 < cn v 1201 0 ∧ (xs (i + 1)) = nI i9 ∧ ((v.1 1203 i9 = 4 ∧ v2 = u1 v 1200 0 2) ∨ (¬ v.1 1203 i9 = 4 ∧ r = v.1 1203 i9 ∧ v2 = vSeg v i9 (xs (i + 2)) (xs (i + 3)))))) r v2 → (∀ r1 W2, (fun r W2 => (gO v (xs (i + 1)) ∧ pIn (xs (i + 2)) 1 64 ∧ pIn (xs (i + 3)) 0 4) ∧ ∃ i9, i9 < cn v 1201 0 ∧ (xs (i + 1)) = nI i9 ∧ ¬ v.1 1203 i9 = 4 ∧ r = v.1 1203 i9 ∧ Rep (vSeg v i9 (xs (i + 2)) (xs (i + 3))) W2 ∧ ∀ d, 44 ≤ d → d < 50 → W2 d = W d) r1 W2 → v2.1 1200 0 = 0 ∧ r1 = r ∧ lwV v2 W2 km ks kb) ∧ (¬ (gO v (xs (i + 1)) ∧ pIn (xs (i + 2)) 1 64 ∧ pIn (xs (i + 3)) 0 4) → v2.1 1200 0 = 1 ∧ lwV v2 W km ks kb) ∧ (((gO v (xs (i + 1)) ∧ pIn (xs (i + 2)) 1 64 ∧ pIn (xs (i + 3)) 0 4) ∧ ∃ i9, i9 < cn v 1201 0 ∧ (xs (i + 1)) = nI i9 ∧ v.1 1203 i9 = 4) → v2.1 1200 0 = 2 ∧ lwV v2 W km ks kb) := fun r v2 h9 => by
    rcases h9 with ⟨y1, y2⟩ | ⟨y1, i8, b1, b2, y9⟩
    · subst y2
      exact ⟨fun r1 W2 h8 => absurd h8.1 y1, fun _ => ⟨u1_s, hV.k⟩, fun h8 => absurd h8.1 y1⟩
    · refine ⟨fun r1 W2 h8 => ?_, fun h8 => absurd y1 h8, fun h8 => ?_⟩
      · obtain ⟨hg, i9, z1, z2, q5, q6, q3, q4⟩ := h8
        have ei : i8 = i9 := (nI_eq (by omega) (by omega)).mp (b2.symm.trans z2)
        subst ei
        rcases y9 with ⟨w1, w2⟩ | ⟨w1, w2, w3⟩
        · exact absurd w1 q5
        · subst w3
          refine ⟨rfl, q6.trans w2.symm, hV.b ?_ q3 rfl q4⟩
          have r9 := rg_1203 hv (k := i8) (by omega)
          have r92 := r9.2
          have hn9 : cn v 1203 i8 < 4 := by
            rcases Nat.lt_or_ge (cn v 1203 i8) 4 with h7 | h7
            · exact h7
            · exact absurd (r9.1.trans (by rw [show cn v 1203 i8 = 4 by omega]; rfl)) w1
          obtain ⟨a2, b2, c2⟩ := pIn_n (n := 64) rfl (by decide) (show pIn (xs (i + 2)) 0 64 from ⟨fun h7 => hg.2.1.1 (Int32.lt_iff_toInt_lt.mpr (by rw [Int32.lt_iff_toInt_lt] at h7; have h6 : (xs (i + 2)).toInt < 0 := h7; show (xs (i + 2)).toInt < 1; omega)), hg.2.1.2⟩)
          obtain ⟨a3, b3, c3⟩ := pIn_n (n := 4) rfl (by decide) hg.2.2
          rw [c2, c3]
          exact hvI.sg z1 r9.1 hn9 b2 b3
      · obtain ⟨hg, i9, z1, z2, q5⟩ := h8
        have ei : i8 = i9 := (nI_eq (by omega) (by omega)).mp (b2.symm.trans z2)
        subst ei
        rcases y9 with ⟨w1, w2⟩ | ⟨w1, w2, w3⟩
        · subst w2
          exact ⟨u1_s, hV.k⟩
        · exact absurd q5 w1
  refine lc_segment (f2 := 3) (lo2 := 80) (mc2 := 0) (ms2 := 0) (J := fun S2 => ∃ v2 W2 ad2, lwI t0 S2 x g o v2 W2 ad2 qa ∧ lwV v2 W2 km ks kb) (post2 := fun _ S1 r S2 => (¬ (gO v (xs (i + 1)) ∧ pIn (xs (i + 2)) 1 64 ∧ pIn (xs (i + 3)) 0 4) ∧ r = 0 ∧ zmR S1 g qa (u1 v 1200 0 1) S2) ∨ ((gO v (xs (i + 1)) ∧ pIn (xs (i + 2)) 1 64 ∧ pIn (xs (i + 3)) 0 4) ∧ ∃ i9, i9 < cn v 1201 0 ∧ (xs (i + 1)) = nI i9 ∧ ((v.1 1203 i9 = 4 ∧ r = 0 ∧ zmR S1 g qa (u1 v 1200 0 2) S2) ∨ (¬ v.1 1203 i9 = 4 ∧ r = v.1 1203 i9 ∧ zmR S1 g qa (vSeg v i9 (xs (i + 2)) (xs (i + 3))) S2)))) F G hX hbl hbN hi hL hx (c_segment hl hH hRep hv hvI.2.2.1 hI.2.2.1) (fun E S' h => h.2.elim (fun h9 => Or.inl h9.2) (fun h9 => Or.inr h9.2.2)) (lw_o hI hp) (fun k S1 h => ?_) (fun k S1 r S2 h h2 => ?_) ⟨by omega, by omega, by omega, by omega, by omega, by omega⟩ (by omega) (by omega) (fun S2 hJ => by obtain ⟨v2, W2, ad2, q1, q2⟩ := hJ; exact K S2 v2 W2 ad2 _ _ q1 q2 (by omega) (by omega))
  · obtain ⟨W1, ad1, q1, -⟩ := lw_w (P := (fun r W2 => (gO v (xs (i + 1)) ∧ pIn (xs (i + 2)) 1 64 ∧ pIn (xs (i + 3)) 0 4) ∧ ∃ i9, i9 < cn v 1201 0 ∧ (xs (i + 1)) = nI i9 ∧ ¬ v.1 1203 i9 = 4 ∧ r = v.1 1203 i9 ∧ Rep (vSeg v i9 (xs (i + 2)) (xs (i + 3))) W2 ∧ ∀ d, 44 ≤ d → d < 50 → W2 d = W d)) (P1 := ¬ (gO v (xs (i + 1)) ∧ pIn (xs (i + 2)) 1 64 ∧ pIn (xs (i + 3)) 0 4)) (P2 := ((gO v (xs (i + 1)) ∧ pIn (xs (i + 2)) 1 64 ∧ pIn (xs (i + 3)) 0 4) ∧ ∃ i9, i9 < cn v 1201 0 ∧ (xs (i + 1)) = nI i9 ∧ v.1 1203 i9 = 4)) hI hp (fun S' h9 => ⟨h9.1, h9.2.elim (fun h8 => h8.1) (fun h8 => absurd h8.2.2 (by decide))⟩) (fun S' h9 => ⟨h9.1, h9.2.elim (fun h8 => absurd h8.2 (by decide)) (fun h8 => ⟨h8.1, h8.2.1⟩)⟩) h
    exact ⟨q1.mg, mm_segment (zmR.rf q1.1) hv⟩
  · exact lw_j (Q := (fun r v2 => (¬ (gO v (xs (i + 1)) ∧ pIn (xs (i + 2)) 1 64 ∧ pIn (xs (i + 3)) 0 4) ∧ v2 = u1 v 1200 0 1) ∨ ((gO v (xs (i + 1)) ∧ pIn (xs (i + 2)) 1 64 ∧ pIn (xs (i + 3)) 0 4) ∧ ∃ i9, i9 < cn v 1201 0 ∧ (xs (i + 1)) = nI i9 ∧ ((v.1 1203 i9 = 4 ∧ v2 = u1 v 1200 0 2) ∨ (¬ v.1 1203 i9 = 4 ∧ r = v.1 1203 i9 ∧ v2 = vSeg v i9 (xs (i + 2)) (xs (i + 3))))))) (Z := fun v9 W9 => lwV v9 W9 km ks kb) (lw_w (P := (fun r W2 => (gO v (xs (i + 1)) ∧ pIn (xs (i + 2)) 1 64 ∧ pIn (xs (i + 3)) 0 4) ∧ ∃ i9, i9 < cn v 1201 0 ∧ (xs (i + 1)) = nI i9 ∧ ¬ v.1 1203 i9 = 4 ∧ r = v.1 1203 i9 ∧ Rep (vSeg v i9 (xs (i + 2)) (xs (i + 3))) W2 ∧ ∀ d, 44 ≤ d → d < 50 → W2 d = W d)) (P1 := ¬ (gO v (xs (i + 1)) ∧ pIn (xs (i + 2)) 1 64 ∧ pIn (xs (i + 3)) 0 4)) (P2 := ((gO v (xs (i + 1)) ∧ pIn (xs (i + 2)) 1 64 ∧ pIn (xs (i + 3)) 0 4) ∧ ∃ i9, i9 < cn v 1201 0 ∧ (xs (i + 1)) = nI i9 ∧ v.1 1203 i9 = 4)) hI hp (fun S' h9 => ⟨h9.1, h9.2.elim (fun h8 => h8.1) (fun h8 => absurd h8.2.2 (by decide))⟩) (fun S' h9 => ⟨h9.1, h9.2.elim (fun h8 => absurd h8.2 (by decide)) (fun h8 => ⟨h8.1, h8.2.1⟩)⟩) h) (hQ0 h2) (fun v2 h9 => hag r v2 h9)
set_option maxRecDepth 100000 in
set_option maxHeartbeats 4000000 in
theorem lx_symbol (F : CallFix p m c cL_law 8 s args (z :: lw_good) RL) (G : zG N0 t0 D cy s s.heap) (hl : l.stackTraces = false) {b L : Nat} {xs : Nat → Int32} (hX : va_X b L xs s s.heap) (hbl : b < s.heap.size) (hbN : b < N0) {i : Nat} (hi : i + 8 ≤ L) (hL : L < 2 ^ 31) {x g o : Nat} {v : zV} {W : zO} {ad qa : Nat → Nat} {km ks kb : Nat} (hI : lwI t0 S x g o v W ad qa) (hV : lwV v W km ks kb) (hR : 14 ≤ R.frames ∧ 500 ≤ R.locals ∧ cells + 100 ≤ R.cells ∧ slots + 2000 ≤ R.slots) (K : ∀ (S2 : zS) (v2 : zV) (W2 : zO) (ad2 : Nat → Nat) (c2 s2 : Nat), lwI t0 S2 x g o v2 W2 ad2 qa → lwV v2 W2 km ks kb → c2 ≤ cells + 100 → s2 ≤ slots + 2000 → zW p l e R s m args below meth c Q N0 D cy 8 c2 s2 S2 [(4, .int (nI i)), (3, .ref o), (2, .ref g), (1, .ref x), (0, .ref b)] 1174 []) : zW p l e R s m args below meth c Q N0 D cy 8 cells slots S [(4, .int (nI i)), (3, .ref o), (2, .ref g), (1, .ref x), (0, .ref b)] 524 [] := by
  obtain ⟨hR1, hR2, hR3, hR4⟩ := hR
  have hvI := hV.1
  have hRep := hV.2.1
  have hv := hvI.1
  have h01 := hV.2.2.1
  have hH := hI.2.1
  have hx : zA S x 11 := hI.mx hRep.2.1
  have hk2 : ∀ {ad2 : Nat → Nat}, keepA W ad ad2 → ad2 2 = x := fun hk => (hk 2 hRep.2.1 rfl).trans hI.2.2.1
  have hO6 := (rg_1201 hv (k := 0) (by omega)).2
  have hp : ∀ r S', _ → ∃ ad2 W2, zH t0 (X9 g o qa) S ad2 W2 S' ∧ ad2 2 = x ∧ (fun r W2 => (gSy v (xs (i + 1)) (xs (i + 2)) (xs (i + 3)) (xs (i + 4)) (xs (i + 5)) (xs (i + 6))) ∧ ∃ i9, i9 < cn v 1201 0 ∧ (xs (i + 1)) = nI i9 ∧ ¬ v.1 1204 i9 = 16 ∧ r = v.1 1204 i9 ∧ Rep (vSym v i9 (xs (i + 2)) (xs (i + 3)) (xs (i + 4)) (xs (i + 5)) (xs (i + 6))) W2 ∧ ∀ d, 44 ≤ d → d < 50 → W2 d = W d) r W2 := fun r S' (h9 : (gSy v (xs (i + 1)) (xs (i + 2)) (xs (i + 3)) (xs (i + 4)) (xs (i + 5)) (xs (i + 6))) ∧ ∃ i9, i9 < cn v 1201 0 ∧ (xs (i + 1)) = nI i9 ∧ ¬ v.1 1204 i9 = 16 ∧ r = v.1 1204 i9 ∧ ∃ (ad' : Nat → Nat) (W' : zO), zH t0 (X9 g o qa) S ad' W' S' ∧ keepA W ad ad' ∧ Rep (vSym v i9 (xs (i + 2)) (xs (i + 3)) (xs (i + 4)) (xs (i + 5)) (xs (i + 6))) W' ∧ ∀ d, 44 ≤ d → d < 50 → W' d = W d) => by
    obtain ⟨hg, i9, z1, z2, q5, q6, ad2, W2, q1, q2, q3, q4⟩ := h9
    exact ⟨ad2, W2, q1, hk2 q2, hg, i9, z1, z2, q5, q6, q3, q4⟩
  have hQ0 : ∀ {S1 S2 : zS} {r : Int32}, ((¬ (gSy v (xs (i + 1)) (xs (i + 2)) (xs (i + 3)) (xs (i + 4)) (xs (i + 5)) (xs (i + 6))) ∧ r = 0 ∧ zmR S1 g qa (u1 v 1200 0 1) S2) ∨ ((gSy v (xs (i + 1)) (xs (i + 2)) (xs (i + 3)) (xs (i + 4)) (xs (i + 5)) (xs (i + 6))) ∧ ∃ i9, i9 < cn v 1201 0 ∧ (xs (i + 1)) = nI i9 ∧ ((v.1 1204 i9 = 16 ∧ r = 0 ∧ zmR S1 g qa (u1 v 1200 0 2) S2) ∨ (¬ v.1 1204 i9 = 16 ∧ r = v.1 1204 i9 ∧ zmR S1 g qa (vSym v i9 (xs (i + 2)) (xs (i + 3)) (xs (i + 4)) (xs (i + 5)) (xs (i + 6))) S2)))) → ∃ v2, zmR S1 g qa v2 S2 ∧ (fun r v2 => (¬ (gSy v (xs (i + 1)) (xs (i + 2)) (xs (i + 3)) (xs (i + 4)) (xs (i + 5)) (xs (i + 6))) ∧ v2 = u1 v 1200 0 1) ∨ ((gSy v (xs (i + 1)) (xs (i + 2)) (xs (i + 3)) (xs (i + 4)) (xs (i + 5)) (xs (i + 6))) ∧ ∃ i9, i9 < cn v 1201 0 ∧ (xs (i + 1)) = nI i9 ∧ ((v.1 1204 i9 = 16 ∧ v2 = u1 v 1200 0 2) ∨ (¬ v.1 1204 i9 = 16 ∧ r = v.1 1204 i9 ∧ v2 = vSym v i9 (xs (i + 2)) (xs (i + 3)) (xs (i + 4)) (xs (i + 5)) (xs (i + 6)))))) r v2 := fun h9 => by
    rcases h9 with ⟨y1, y2, y3⟩ | ⟨y1, i8, b1, b2, y9⟩
    · exact ⟨_, y3, Or.inl ⟨y1, rfl⟩⟩
    · rcases y9 with ⟨w1, w2, w3⟩ | ⟨w1, w2, w3⟩
      · exact ⟨_, w3, Or.inr ⟨y1, i8, b1, b2, Or.inl ⟨w1, rfl⟩⟩⟩
      · exact ⟨_, w3, Or.inr ⟨y1, i8, b1, b2, Or.inr ⟨w1, w2, rfl⟩⟩⟩
  have hag : ∀ (r : Int32) (v2 : zV), (fun r v2 => (¬ (gSy v (xs (i + 1)) (xs (i + 2)) (xs (i + 3)) (xs (i + 4)) (xs (i + 5)) (xs (i + 6))) ∧ v2 = u1 v 1200 0 1) ∨ ((gSy v (xs (i + 1)) (xs (i + 2)) (xs (i + 3)) (xs (i + 4)) (xs (i + 5)) (xs (i + 6))) ∧ ∃ i9, i9 < cn v 1201 0 ∧ (xs (i + 1)) = nI i9 ∧ ((v.1 1204 i9 = 16 ∧ v2 = u1 v 1200 0 2) ∨ (¬ v.1 1204 i9 = 16 ∧ r = v.1 1204 i9 ∧ v2 = vSym v i9 (xs (i + 2)) (xs (i + 3)) (xs (i + 4)) (xs (i + 5)) (xs (i + 6)))))) r v2 → (∀ r1 W2, (fun r W2 => (gSy v (xs (i + 1)) (xs (i + 2)) (xs (i + 3)) (xs (i + 4)) (xs (i + 5)) (xs (i + 6))) ∧ ∃ i9, i9 < cn v 1201 0 ∧ (xs (i + 1)) = nI i9 ∧ ¬ v.1 1204 i9 = 16 ∧ r = v.1 1204 i9 ∧ Rep (vSym v i9 (xs (i + 2)) (xs (i + 3)) (xs (i + 4)) (xs (i + 5)) (xs (i + 6))) W2 ∧ ∀ d, 44 ≤ d → d < 50 → W2 d = W d) r1 W2 → v2.1 1200 0 = 0 ∧ r1 = r ∧ lwV v2 W2 km ks kb) ∧ (¬ (gSy v (xs (i + 1)) (xs (i + 2)) (xs (i + 3)) (xs (i + 4)) (xs (i + 5)) (xs (i + 6))) → v2.1 1200 0 = 1 ∧ lwV v2 W km ks kb) ∧ (((gSy v (xs (i + 1)) (xs (i + 2)) (xs (i + 3)) (xs (i + 4)) (xs (i + 5)) (xs (i + 6))) ∧ ∃ i9, i9 < cn v 1201 0 ∧ (xs (i + 1)) = nI i9 ∧ v.1 1204 i9 = 16) → v2.1 1200 0 = 2 ∧ lwV v2 W km ks kb) := fun r v2 h9 => by
    rcases h9 with ⟨y1, y2⟩ | ⟨y1, i8, b1, b2, y9⟩
    · subst y2
      exact ⟨fun r1 W2 h8 => absurd h8.1 y1, fun _ => ⟨u1_s, hV.k⟩, fun h8 => absurd h8.1 y1⟩
    · refine ⟨fun r1 W2 h8 => ?_, fun h8 => absurd y1 h8, fun h8 => ?_⟩
      · obtain ⟨hg, i9, z1, z2, q5, q6, q3, q4⟩ := h8
        have ei : i8 = i9 := (nI_eq (by omega) (by omega)).mp (b2.symm.trans z2)
        subst ei
        rcases y9 with ⟨w1, w2⟩ | ⟨w1, w2, w3⟩
        · exact absurd w1 q5
        · subst w3
          refine ⟨rfl, q6.trans w2.symm, hV.b ?_ q3 rfl q4⟩
          have r9 := rg_1204 hv (k := i8) (by omega)
          have r92 := r9.2
          have hn9 : cn v 1204 i8 < 16 := by
            rcases Nat.lt_or_ge (cn v 1204 i8) 16 with h7 | h7
            · exact h7
            · exact absurd (r9.1.trans (by rw [show cn v 1204 i8 = 16 by omega]; rfl)) w1
          rw [z2] at hg
          exact hvI.sy hg z1 r9.1 hn9
      · obtain ⟨hg, i9, z1, z2, q5⟩ := h8
        have ei : i8 = i9 := (nI_eq (by omega) (by omega)).mp (b2.symm.trans z2)
        subst ei
        rcases y9 with ⟨w1, w2⟩ | ⟨w1, w2, w3⟩
        · subst w2
          exact ⟨u1_s, hV.k⟩
        · exact absurd q5 w1
  refine lc_symbol (f2 := 3) (lo2 := 80) (mc2 := 0) (ms2 := 0) (J := fun S2 => ∃ v2 W2 ad2, lwI t0 S2 x g o v2 W2 ad2 qa ∧ lwV v2 W2 km ks kb) (post2 := fun _ S1 r S2 => (¬ (gSy v (xs (i + 1)) (xs (i + 2)) (xs (i + 3)) (xs (i + 4)) (xs (i + 5)) (xs (i + 6))) ∧ r = 0 ∧ zmR S1 g qa (u1 v 1200 0 1) S2) ∨ ((gSy v (xs (i + 1)) (xs (i + 2)) (xs (i + 3)) (xs (i + 4)) (xs (i + 5)) (xs (i + 6))) ∧ ∃ i9, i9 < cn v 1201 0 ∧ (xs (i + 1)) = nI i9 ∧ ((v.1 1204 i9 = 16 ∧ r = 0 ∧ zmR S1 g qa (u1 v 1200 0 2) S2) ∨ (¬ v.1 1204 i9 = 16 ∧ r = v.1 1204 i9 ∧ zmR S1 g qa (vSym v i9 (xs (i + 2)) (xs (i + 3)) (xs (i + 4)) (xs (i + 5)) (xs (i + 6))) S2)))) F G hX hbl hbN hi hL hx (c_symbol hl hH hRep hv hvI.2.2.1 hI.2.2.1) (fun E S' h => h.2.elim (fun h9 => Or.inl h9.2) (fun h9 => Or.inr h9.2.2)) (lw_o hI hp) (fun k S1 h => ?_) (fun k S1 r S2 h h2 => ?_) ⟨by omega, by omega, by omega, by omega, by omega, by omega⟩ (by omega) (by omega) (fun S2 hJ => by obtain ⟨v2, W2, ad2, q1, q2⟩ := hJ; exact K S2 v2 W2 ad2 _ _ q1 q2 (by omega) (by omega))
  · obtain ⟨W1, ad1, q1, -⟩ := lw_w (P := (fun r W2 => (gSy v (xs (i + 1)) (xs (i + 2)) (xs (i + 3)) (xs (i + 4)) (xs (i + 5)) (xs (i + 6))) ∧ ∃ i9, i9 < cn v 1201 0 ∧ (xs (i + 1)) = nI i9 ∧ ¬ v.1 1204 i9 = 16 ∧ r = v.1 1204 i9 ∧ Rep (vSym v i9 (xs (i + 2)) (xs (i + 3)) (xs (i + 4)) (xs (i + 5)) (xs (i + 6))) W2 ∧ ∀ d, 44 ≤ d → d < 50 → W2 d = W d)) (P1 := ¬ (gSy v (xs (i + 1)) (xs (i + 2)) (xs (i + 3)) (xs (i + 4)) (xs (i + 5)) (xs (i + 6)))) (P2 := ((gSy v (xs (i + 1)) (xs (i + 2)) (xs (i + 3)) (xs (i + 4)) (xs (i + 5)) (xs (i + 6))) ∧ ∃ i9, i9 < cn v 1201 0 ∧ (xs (i + 1)) = nI i9 ∧ v.1 1204 i9 = 16)) hI hp (fun S' h9 => ⟨h9.1, h9.2.elim (fun h8 => h8.1) (fun h8 => absurd h8.2.2 (by decide))⟩) (fun S' h9 => ⟨h9.1, h9.2.elim (fun h8 => absurd h8.2 (by decide)) (fun h8 => ⟨h8.1, h8.2.1⟩)⟩) h
    exact ⟨q1.mg, mm_symbol (zmR.rf q1.1) hv⟩
  · exact lw_j (Q := (fun r v2 => (¬ (gSy v (xs (i + 1)) (xs (i + 2)) (xs (i + 3)) (xs (i + 4)) (xs (i + 5)) (xs (i + 6))) ∧ v2 = u1 v 1200 0 1) ∨ ((gSy v (xs (i + 1)) (xs (i + 2)) (xs (i + 3)) (xs (i + 4)) (xs (i + 5)) (xs (i + 6))) ∧ ∃ i9, i9 < cn v 1201 0 ∧ (xs (i + 1)) = nI i9 ∧ ((v.1 1204 i9 = 16 ∧ v2 = u1 v 1200 0 2) ∨ (¬ v.1 1204 i9 = 16 ∧ r = v.1 1204 i9 ∧ v2 = vSym v i9 (xs (i + 2)) (xs (i + 3)) (xs (i + 4)) (xs (i + 5)) (xs (i + 6))))))) (Z := fun v9 W9 => lwV v9 W9 km ks kb) (lw_w (P := (fun r W2 => (gSy v (xs (i + 1)) (xs (i + 2)) (xs (i + 3)) (xs (i + 4)) (xs (i + 5)) (xs (i + 6))) ∧ ∃ i9, i9 < cn v 1201 0 ∧ (xs (i + 1)) = nI i9 ∧ ¬ v.1 1204 i9 = 16 ∧ r = v.1 1204 i9 ∧ Rep (vSym v i9 (xs (i + 2)) (xs (i + 3)) (xs (i + 4)) (xs (i + 5)) (xs (i + 6))) W2 ∧ ∀ d, 44 ≤ d → d < 50 → W2 d = W d)) (P1 := ¬ (gSy v (xs (i + 1)) (xs (i + 2)) (xs (i + 3)) (xs (i + 4)) (xs (i + 5)) (xs (i + 6)))) (P2 := ((gSy v (xs (i + 1)) (xs (i + 2)) (xs (i + 3)) (xs (i + 4)) (xs (i + 5)) (xs (i + 6))) ∧ ∃ i9, i9 < cn v 1201 0 ∧ (xs (i + 1)) = nI i9 ∧ v.1 1204 i9 = 16)) hI hp (fun S' h9 => ⟨h9.1, h9.2.elim (fun h8 => h8.1) (fun h8 => absurd h8.2.2 (by decide))⟩) (fun S' h9 => ⟨h9.1, h9.2.elim (fun h8 => absurd h8.2 (by decide)) (fun h8 => ⟨h8.1, h8.2.1⟩)⟩) h) (hQ0 h2) (fun v2 h9 => hag r v2 h9)
set_option maxRecDepth 100000 in
set_option maxHeartbeats 4000000 in
theorem lx_code (F : CallFix p m c cL_law 8 s args (z :: lw_good) RL) (G : zG N0 t0 D cy s s.heap) (hl : l.stackTraces = false) {b L : Nat} {xs : Nat → Int32} (hX : va_X b L xs s s.heap) (hbl : b < s.heap.size) (hbN : b < N0) {i : Nat} (hi : i + 8 ≤ L) (hL : L < 2 ^ 31) {x g o : Nat} {v : zV} {W : zO} {ad qa : Nat → Nat} {km ks kb : Nat} (hI : lwI t0 S x g o v W ad qa) (hV : lwV v W km ks kb) (hR : 14 ≤ R.frames ∧ 500 ≤ R.locals ∧ cells + 100 ≤ R.cells ∧ slots + 2000 ≤ R.slots) (K : ∀ (S2 : zS) (v2 : zV) (W2 : zO) (ad2 : Nat → Nat) (c2 s2 : Nat), lwI t0 S2 x g o v2 W2 ad2 qa → lwV v2 W2 km ks kb → c2 ≤ cells + 100 → s2 ≤ slots + 2000 → zW p l e R s m args below meth c Q N0 D cy 8 c2 s2 S2 [(4, .int (nI i)), (3, .ref o), (2, .ref g), (1, .ref x), (0, .ref b)] 1174 []) : zW p l e R s m args below meth c Q N0 D cy 8 cells slots S [(4, .int (nI i)), (3, .ref o), (2, .ref g), (1, .ref x), (0, .ref b)] 248 [] := by
  obtain ⟨hR1, hR2, hR3, hR4⟩ := hR
  have hvI := hV.1
  have hRep := hV.2.1
  have hv := hvI.1
  have h01 := hV.2.2.1
  have hH := hI.2.1
  have hx : zA S x 11 := hI.mx hRep.2.1
  have hk2 : ∀ {ad2 : Nat → Nat}, keepA W ad ad2 → ad2 2 = x := fun hk => (hk 2 hRep.2.1 rfl).trans hI.2.2.1
  have hO6 := (rg_1201 hv (k := 0) (by omega)).2
  have hp : ∀ r S', _ → ∃ ad2 W2, zH t0 (X9 g o qa) S ad2 W2 S' ∧ ad2 2 = x ∧ (fun r W2 => (gT v 1202 (xs (i + 1)) (xs (i + 2)) ∧ pIn (xs (i + 3)) 0 35) ∧ ∃ i9 j9, i9 < cn v 1201 0 ∧ (xs (i + 1)) = nI i9 ∧ j9 < cn v 1202 i9 ∧ (xs (i + 2)) = nI j9 ∧ ¬ v.1 1208 (8 * i9 + j9) = 60 ∧ r = v.1 1208 (8 * i9 + j9) ∧ Rep (vCod v (8 * i9 + j9) (xs (i + 3)) (xs (i + 4))) W2 ∧ ∀ d, 44 ≤ d → d < 50 → W2 d = W d) r W2 := fun r S' (h9 : (gT v 1202 (xs (i + 1)) (xs (i + 2)) ∧ pIn (xs (i + 3)) 0 35) ∧ ∃ i9 j9, i9 < cn v 1201 0 ∧ (xs (i + 1)) = nI i9 ∧ j9 < cn v 1202 i9 ∧ (xs (i + 2)) = nI j9 ∧ ¬ v.1 1208 (8 * i9 + j9) = 60 ∧ r = v.1 1208 (8 * i9 + j9) ∧ ∃ W', zH t0 (X9 g o qa) S ad W' S' ∧ Rep (vCod v (8 * i9 + j9) (xs (i + 3)) (xs (i + 4))) W' ∧ ∀ d, 44 ≤ d → d < 50 → W' d = W d) => by
    obtain ⟨hg, i9, j9, z1, z2, z3, z4, q5, q6, W2, q1, q3, q4⟩ := h9
    exact ⟨ad, W2, q1, hI.2.2.1, hg, i9, j9, z1, z2, z3, z4, q5, q6, q3, q4⟩
  have hQ0 : ∀ {S1 S2 : zS} {r : Int32}, ((¬ (gT v 1202 (xs (i + 1)) (xs (i + 2)) ∧ pIn (xs (i + 3)) 0 35) ∧ r = 0 ∧ zmR S1 g qa (u1 v 1200 0 1) S2) ∨ ((gT v 1202 (xs (i + 1)) (xs (i + 2)) ∧ pIn (xs (i + 3)) 0 35) ∧ ∃ i9 j9, i9 < cn v 1201 0 ∧ (xs (i + 1)) = nI i9 ∧ j9 < cn v 1202 i9 ∧ (xs (i + 2)) = nI j9 ∧ ((v.1 1208 (8 * i9 + j9) = 60 ∧ r = 0 ∧ zmR S1 g qa (u1 v 1200 0 2) S2) ∨ (¬ v.1 1208 (8 * i9 + j9) = 60 ∧ r = v.1 1208 (8 * i9 + j9) ∧ zmR S1 g qa (vCod v (8 * i9 + j9) (xs (i + 3)) (xs (i + 4))) S2)))) → ∃ v2, zmR S1 g qa v2 S2 ∧ (fun r v2 => (¬ (gT v 1202 (xs (i + 1)) (xs (i + 2)) ∧ pIn (xs (i + 3)) 0 35) ∧ v2 = u1 v 1200 0 1) ∨ ((gT v 1202 (xs (i + 1)) (xs (i + 2)) ∧ pIn (xs (i + 3)) 0 35) ∧ ∃ i9 j9, i9 < cn v 1201 0 ∧ (xs (i + 1)) = nI i9 ∧ j9 < cn v 1202 i9 ∧ (xs (i + 2)) = nI j9 ∧ ((v.1 1208 (8 * i9 + j9) = 60 ∧ v2 = u1 v 1200 0 2) ∨ (¬ v.1 1208 (8 * i9 + j9) = 60 ∧ r = v.1 1208 (8 * i9 + j9) ∧ v2 = vCod v (8 * i9 + j9) (xs (i + 3)) (xs (i + 4)))))) r v2 := fun h9 => by
    rcases h9 with ⟨y1, y2, y3⟩ | ⟨y1, i8, j8, b1, b2, b3, b4, y9⟩
    · exact ⟨_, y3, Or.inl ⟨y1, rfl⟩⟩
    · rcases y9 with ⟨w1, w2, w3⟩ | ⟨w1, w2, w3⟩
      · exact ⟨_, w3, Or.inr ⟨y1, i8, j8, b1, b2, b3, b4, Or.inl ⟨w1, rfl⟩⟩⟩
      · exact ⟨_, w3, Or.inr ⟨y1, i8, j8, b1, b2, b3, b4, Or.inr ⟨w1, w2, rfl⟩⟩⟩
  have hag : ∀ (r : Int32) (v2 : zV), (fun r v2 => (¬ (gT v 1202 (xs (i + 1)) (xs (i + 2)) ∧ pIn (xs (i + 3)) 0 35) ∧ v2 = u1 v 1200 0 1) ∨ ((gT v 1202 (xs (i + 1)) (xs (i + 2)) ∧ pIn (xs (i + 3)) 0 35) ∧ ∃ i9 j9, i9 < cn v 1201 0 ∧ (xs (i + 1)) = nI i9 ∧ j9 < cn v 1202 i9 ∧ (xs (i + 2)) = nI j9 ∧ ((v.1 1208 (8 * i9 + j9) = 60 ∧ v2 = u1 v 1200 0 2) ∨ (¬ v.1 1208 (8 * i9 + j9) = 60 ∧ r = v.1 1208 (8 * i9 + j9) ∧ v2 = vCod v (8 * i9 + j9) (xs (i + 3)) (xs (i + 4)))))) r v2 → (∀ r1 W2, (fun r W2 => (gT v 1202 (xs (i + 1)) (xs (i + 2)) ∧ pIn (xs (i + 3)) 0 35) ∧ ∃ i9 j9, i9 < cn v 1201 0 ∧ (xs (i + 1)) = nI i9 ∧ j9 < cn v 1202 i9 ∧ (xs (i + 2)) = nI j9 ∧ ¬ v.1 1208 (8 * i9 + j9) = 60 ∧ r = v.1 1208 (8 * i9 + j9) ∧ Rep (vCod v (8 * i9 + j9) (xs (i + 3)) (xs (i + 4))) W2 ∧ ∀ d, 44 ≤ d → d < 50 → W2 d = W d) r1 W2 → v2.1 1200 0 = 0 ∧ r1 = r ∧ lwV v2 W2 km ks kb) ∧ (¬ (gT v 1202 (xs (i + 1)) (xs (i + 2)) ∧ pIn (xs (i + 3)) 0 35) → v2.1 1200 0 = 1 ∧ lwV v2 W km ks kb) ∧ (((gT v 1202 (xs (i + 1)) (xs (i + 2)) ∧ pIn (xs (i + 3)) 0 35) ∧ ∃ i9 j9, i9 < cn v 1201 0 ∧ (xs (i + 1)) = nI i9 ∧ j9 < cn v 1202 i9 ∧ (xs (i + 2)) = nI j9 ∧ v.1 1208 (8 * i9 + j9) = 60) → v2.1 1200 0 = 2 ∧ lwV v2 W km ks kb) := fun r v2 h9 => by
    rcases h9 with ⟨y1, y2⟩ | ⟨y1, i8, j8, b1, b2, b3, b4, y9⟩
    · subst y2
      exact ⟨fun r1 W2 h8 => absurd h8.1 y1, fun _ => ⟨u1_s, hV.k⟩, fun h8 => absurd h8.1 y1⟩
    · refine ⟨fun r1 W2 h8 => ?_, fun h8 => absurd y1 h8, fun h8 => ?_⟩
      · obtain ⟨hg, i9, j9, z1, z2, z3, z4, q5, q6, q3, q4⟩ := h8
        have r8 := (rg_1202 hv (k := i9) (by omega)).2
        have ei : i8 = i9 := (nI_eq (by omega) (by omega)).mp (b2.symm.trans z2)
        subst ei
        have ej : j8 = j9 := (nI_eq (by omega) (by omega)).mp (b4.symm.trans z4)
        subst ej
        rcases y9 with ⟨w1, w2⟩ | ⟨w1, w2, w3⟩
        · exact absurd w1 q5
        · subst w3
          refine ⟨rfl, q6.trans w2.symm, hV.b ?_ q3 rfl q4⟩
          have r9 := rg_1208 hv (k := 8 * i8 + j8) (by omega)
          have r92 := r9.2
          have hn9 : cn v 1208 (8 * i8 + j8) < 60 := by
            rcases Nat.lt_or_ge (cn v 1208 (8 * i8 + j8)) 60 with h7 | h7
            · exact h7
            · exact absurd (r9.1.trans (by rw [show cn v 1208 (8 * i8 + j8) = 60 by omega]; rfl)) w1
          obtain ⟨a3, b3, c3⟩ := pIn_n (n := 35) rfl (by decide) hg.2
          rw [c3]
          exact hvI.cd (by omega) (by rw [show (8 * i8 + j8) / 8 = i8 by omega]; omega) r9.1 hn9 b3
      · obtain ⟨hg, i9, j9, z1, z2, z3, z4, q5⟩ := h8
        have r8 := (rg_1202 hv (k := i9) (by omega)).2
        have ei : i8 = i9 := (nI_eq (by omega) (by omega)).mp (b2.symm.trans z2)
        subst ei
        have ej : j8 = j9 := (nI_eq (by omega) (by omega)).mp (b4.symm.trans z4)
        subst ej
        rcases y9 with ⟨w1, w2⟩ | ⟨w1, w2, w3⟩
        · subst w2
          exact ⟨u1_s, hV.k⟩
        · exact absurd q5 w1
  refine lc_code (f2 := 3) (lo2 := 80) (mc2 := 0) (ms2 := 0) (J := fun S2 => ∃ v2 W2 ad2, lwI t0 S2 x g o v2 W2 ad2 qa ∧ lwV v2 W2 km ks kb) (post2 := fun _ S1 r S2 => (¬ (gT v 1202 (xs (i + 1)) (xs (i + 2)) ∧ pIn (xs (i + 3)) 0 35) ∧ r = 0 ∧ zmR S1 g qa (u1 v 1200 0 1) S2) ∨ ((gT v 1202 (xs (i + 1)) (xs (i + 2)) ∧ pIn (xs (i + 3)) 0 35) ∧ ∃ i9 j9, i9 < cn v 1201 0 ∧ (xs (i + 1)) = nI i9 ∧ j9 < cn v 1202 i9 ∧ (xs (i + 2)) = nI j9 ∧ ((v.1 1208 (8 * i9 + j9) = 60 ∧ r = 0 ∧ zmR S1 g qa (u1 v 1200 0 2) S2) ∨ (¬ v.1 1208 (8 * i9 + j9) = 60 ∧ r = v.1 1208 (8 * i9 + j9) ∧ zmR S1 g qa (vCod v (8 * i9 + j9) (xs (i + 3)) (xs (i + 4))) S2)))) F G hX hbl hbN hi hL hx (c_code hl hH hRep hv hI.2.2.1) (fun E S' h => h.2.elim (fun h9 => Or.inl h9.2) (fun h9 => Or.inr h9.2.2)) (lw_o hI hp) (fun k S1 h => ?_) (fun k S1 r S2 h h2 => ?_) ⟨by omega, by omega, by omega, by omega, by omega, by omega⟩ (by omega) (by omega) (fun S2 hJ => by obtain ⟨v2, W2, ad2, q1, q2⟩ := hJ; exact K S2 v2 W2 ad2 _ _ q1 q2 (by omega) (by omega))
  · obtain ⟨W1, ad1, q1, -⟩ := lw_w (P := (fun r W2 => (gT v 1202 (xs (i + 1)) (xs (i + 2)) ∧ pIn (xs (i + 3)) 0 35) ∧ ∃ i9 j9, i9 < cn v 1201 0 ∧ (xs (i + 1)) = nI i9 ∧ j9 < cn v 1202 i9 ∧ (xs (i + 2)) = nI j9 ∧ ¬ v.1 1208 (8 * i9 + j9) = 60 ∧ r = v.1 1208 (8 * i9 + j9) ∧ Rep (vCod v (8 * i9 + j9) (xs (i + 3)) (xs (i + 4))) W2 ∧ ∀ d, 44 ≤ d → d < 50 → W2 d = W d)) (P1 := ¬ (gT v 1202 (xs (i + 1)) (xs (i + 2)) ∧ pIn (xs (i + 3)) 0 35)) (P2 := ((gT v 1202 (xs (i + 1)) (xs (i + 2)) ∧ pIn (xs (i + 3)) 0 35) ∧ ∃ i9 j9, i9 < cn v 1201 0 ∧ (xs (i + 1)) = nI i9 ∧ j9 < cn v 1202 i9 ∧ (xs (i + 2)) = nI j9 ∧ v.1 1208 (8 * i9 + j9) = 60)) hI hp (fun S' h9 => ⟨h9.1, h9.2.elim (fun h8 => h8.1) (fun h8 => absurd h8.2.2 (by decide))⟩) (fun S' h9 => ⟨h9.1, h9.2.elim (fun h8 => absurd h8.2 (by decide)) (fun h8 => ⟨h8.1, h8.2.1⟩)⟩) h
    exact ⟨q1.mg, mm_code (zmR.rf q1.1) hv⟩
  · exact lw_j (Q := (fun r v2 => (¬ (gT v 1202 (xs (i + 1)) (xs (i + 2)) ∧ pIn (xs (i + 3)) 0 35) ∧ v2 = u1 v 1200 0 1) ∨ ((gT v 1202 (xs (i + 1)) (xs (i + 2)) ∧ pIn (xs (i + 3)) 0 35) ∧ ∃ i9 j9, i9 < cn v 1201 0 ∧ (xs (i + 1)) = nI i9 ∧ j9 < cn v 1202 i9 ∧ (xs (i + 2)) = nI j9 ∧ ((v.1 1208 (8 * i9 + j9) = 60 ∧ v2 = u1 v 1200 0 2) ∨ (¬ v.1 1208 (8 * i9 + j9) = 60 ∧ r = v.1 1208 (8 * i9 + j9) ∧ v2 = vCod v (8 * i9 + j9) (xs (i + 3)) (xs (i + 4))))))) (Z := fun v9 W9 => lwV v9 W9 km ks kb) (lw_w (P := (fun r W2 => (gT v 1202 (xs (i + 1)) (xs (i + 2)) ∧ pIn (xs (i + 3)) 0 35) ∧ ∃ i9 j9, i9 < cn v 1201 0 ∧ (xs (i + 1)) = nI i9 ∧ j9 < cn v 1202 i9 ∧ (xs (i + 2)) = nI j9 ∧ ¬ v.1 1208 (8 * i9 + j9) = 60 ∧ r = v.1 1208 (8 * i9 + j9) ∧ Rep (vCod v (8 * i9 + j9) (xs (i + 3)) (xs (i + 4))) W2 ∧ ∀ d, 44 ≤ d → d < 50 → W2 d = W d)) (P1 := ¬ (gT v 1202 (xs (i + 1)) (xs (i + 2)) ∧ pIn (xs (i + 3)) 0 35)) (P2 := ((gT v 1202 (xs (i + 1)) (xs (i + 2)) ∧ pIn (xs (i + 3)) 0 35) ∧ ∃ i9 j9, i9 < cn v 1201 0 ∧ (xs (i + 1)) = nI i9 ∧ j9 < cn v 1202 i9 ∧ (xs (i + 2)) = nI j9 ∧ v.1 1208 (8 * i9 + j9) = 60)) hI hp (fun S' h9 => ⟨h9.1, h9.2.elim (fun h8 => h8.1) (fun h8 => absurd h8.2.2 (by decide))⟩) (fun S' h9 => ⟨h9.1, h9.2.elim (fun h8 => absurd h8.2 (by decide)) (fun h8 => ⟨h8.1, h8.2.1⟩)⟩) h) (hQ0 h2) (fun v2 h9 => hag r v2 h9)
set_option maxRecDepth 100000 in
set_option maxHeartbeats 4000000 in
theorem lx_object (F : CallFix p m c cL_law 8 s args (z :: lw_good) RL) (G : zG N0 t0 D cy s s.heap) (hl : l.stackTraces = false) {b L : Nat} {xs : Nat → Int32} (hX : va_X b L xs s s.heap) (hbl : b < s.heap.size) (hbN : b < N0) {i : Nat} (hi : i + 8 ≤ L) (hL : L < 2 ^ 31) {x g o : Nat} {v : zV} {W : zO} {ad qa : Nat → Nat} {km ks kb : Nat} (hI : lwI t0 S x g o v W ad qa) (hV : lwV v W km ks kb) (hR : 14 ≤ R.frames ∧ 500 ≤ R.locals ∧ cells + 100 ≤ R.cells ∧ slots + 2000 ≤ R.slots) (K : ∀ (S2 : zS) (v2 : zV) (W2 : zO) (ad2 : Nat → Nat) (c2 s2 : Nat), lwI t0 S2 x g o v2 W2 ad2 qa → lwV v2 W2 km ks kb → c2 ≤ cells + 100 → s2 ≤ slots + 2000 → zW p l e R s m args below meth c Q N0 D cy 8 c2 s2 S2 [(4, .int (nI i)), (3, .ref o), (2, .ref g), (1, .ref x), (0, .ref b)] 1174 []) : zW p l e R s m args below meth c Q N0 D cy 8 cells slots S [(4, .int (nI i)), (3, .ref o), (2, .ref g), (1, .ref x), (0, .ref b)] 112 [] := by
  obtain ⟨hR1, hR2, hR3, hR4⟩ := hR
  have hvI := hV.1
  have hRep := hV.2.1
  have hv := hvI.1
  have h01 := hV.2.2.1
  have hH := hI.2.1
  have hx : zA S x 11 := hI.mx hRep.2.1
  have hk2 : ∀ {ad2 : Nat → Nat}, keepA W ad ad2 → ad2 2 = x := fun hk => (hk 2 hRep.2.1 rfl).trans hI.2.2.1
  have hp : ∀ r S', (¬ v.1 1201 0 = 6 ∧ r = v.1 1201 0 ∧ ∃ (ad' : Nat → Nat) (W' : zO), zH t0 (X9 g o qa) S ad' W' S' ∧ keepA W ad ad' ∧ Rep (vObj v) W' ∧ ∀ d, 44 ≤ d → d < 50 → W' d = W d) → ∃ ad2 W2, zH t0 (X9 g o qa) S ad2 W2 S' ∧ ad2 2 = x ∧ (fun r W2 => ¬ v.1 1201 0 = 6 ∧ r = v.1 1201 0 ∧ Rep (vObj v) W2 ∧ ∀ d, 44 ≤ d → d < 50 → W2 d = W d) r W2 := fun r S' h9 => by
    obtain ⟨q5, q6, ad2, W2, q1, q2, q3, q4⟩ := h9
    exact ⟨ad2, W2, q1, hk2 q2, q5, q6, q3, q4⟩
  have hQ0 : ∀ {S1 S2 : zS} {r : Int32}, ((v.1 1201 0 = 6 ∧ r = 0 ∧ zmR S1 g qa (u1 v 1200 0 1) S2) ∨ (¬ v.1 1201 0 = 6 ∧ r = v.1 1201 0 ∧ zmR S1 g qa (vObj v) S2)) → ∃ v2, zmR S1 g qa v2 S2 ∧ (fun r v2 => (v.1 1201 0 = 6 ∧ v2 = u1 v 1200 0 1) ∨ (¬ v.1 1201 0 = 6 ∧ r = v.1 1201 0 ∧ v2 = vObj v)) r v2 := fun h9 => by
    rcases h9 with ⟨y1, y2, y3⟩ | ⟨y1, y2, y3⟩
    · exact ⟨_, y3, Or.inl ⟨y1, rfl⟩⟩
    · exact ⟨_, y3, Or.inr ⟨y1, y2, rfl⟩⟩
  have hag : ∀ (r : Int32) (v2 : zV), (fun r v2 => (v.1 1201 0 = 6 ∧ v2 = u1 v 1200 0 1) ∨ (¬ v.1 1201 0 = 6 ∧ r = v.1 1201 0 ∧ v2 = vObj v)) r v2 → (∀ r1 W2, (fun r W2 => ¬ v.1 1201 0 = 6 ∧ r = v.1 1201 0 ∧ Rep (vObj v) W2 ∧ ∀ d, 44 ≤ d → d < 50 → W2 d = W d) r1 W2 → v2.1 1200 0 = 0 ∧ r1 = r ∧ lwV v2 W2 km ks kb) ∧ (v.1 1201 0 = 6 → v2.1 1200 0 = 1 ∧ lwV v2 W km ks kb) ∧ (False → v2.1 1200 0 = 2 ∧ lwV v2 W km ks kb) := fun r v2 h9 => by
    rcases h9 with ⟨y1, y2⟩ | ⟨y1, y2, y3⟩
    · subst y2
      exact ⟨fun r1 W2 h8 => absurd y1 h8.1, fun _ => ⟨u1_s, hV.k⟩, fun h8 => h8.elim⟩
    · subst y3
      refine ⟨fun r1 W2 h8 => ?_, fun h8 => absurd h8 y1, fun h8 => h8.elim⟩
      obtain ⟨q5, q6, q3, q4⟩ := h8
      have r9 := rg_1201 hv (k := 0) (by omega)
      have r92 := r9.2
      have hn9 : cn v 1201 0 < 6 := by
        rcases Nat.lt_or_ge (cn v 1201 0) 6 with h7 | h7
        · exact h7
        · exact absurd (r9.1.trans (by rw [show cn v 1201 0 = 6 by omega]; rfl)) q5
      exact ⟨rfl, q6.trans y2.symm, hV.b (hvI.obj r9.1 hn9) q3 rfl q4⟩
  refine lc_object (f2 := 0) (lo2 := 0) (mc2 := 0) (ms2 := 0) (J := fun S2 => ∃ v2 W2 ad2, lwI t0 S2 x g o v2 W2 ad2 qa ∧ lwV v2 W2 km ks kb) (post2 := fun _ S1 r S2 => (v.1 1201 0 = 6 ∧ r = 0 ∧ zmR S1 g qa (u1 v 1200 0 1) S2) ∨ (¬ v.1 1201 0 = 6 ∧ r = v.1 1201 0 ∧ zmR S1 g qa (vObj v) S2)) F G hX hbl hbN hi hL hx (c_object hl hH hRep hv hvI.2.1 hI.2.2.1) (fun E S' h => h.2.2) (lw_o hI hp) (fun k S1 h => ?_) (fun k S1 r S2 h h2 => ?_) ⟨by omega, by omega, by omega, by omega, by omega, by omega⟩ (by omega) (by omega) (fun S2 hJ => by obtain ⟨v2, W2, ad2, q1, q2⟩ := hJ; exact K S2 v2 W2 ad2 _ _ q1 q2 (by omega) (by omega))
  · obtain ⟨W1, ad1, q1, -⟩ := lw_w1 (P := (fun r W2 => ¬ v.1 1201 0 = 6 ∧ r = v.1 1201 0 ∧ Rep (vObj v) W2 ∧ ∀ d, 44 ≤ d → d < 50 → W2 d = W d)) (P1 := v.1 1201 0 = 6) hI hp (fun S' h9 => ⟨h9.1, h9.2.1⟩) h
    exact ⟨q1.mg, mm_object (zmR.rf q1.1)⟩
  · exact lw_j (Q := (fun r v2 => (v.1 1201 0 = 6 ∧ v2 = u1 v 1200 0 1) ∨ (¬ v.1 1201 0 = 6 ∧ r = v.1 1201 0 ∧ v2 = vObj v))) (Z := fun v9 W9 => lwV v9 W9 km ks kb) (lw_w1 (P := (fun r W2 => ¬ v.1 1201 0 = 6 ∧ r = v.1 1201 0 ∧ Rep (vObj v) W2 ∧ ∀ d, 44 ≤ d → d < 50 → W2 d = W d)) (P1 := v.1 1201 0 = 6) hI hp (fun S' h9 => ⟨h9.1, h9.2.1⟩) h) (hQ0 h2) (fun v2 h9 => hag r v2 h9)
set_option maxRecDepth 100000 in
set_option maxHeartbeats 4000000 in
theorem lx_fill (F : CallFix p m c cL_law 8 s args (z :: lw_good) RL) (G : zG N0 t0 D cy s s.heap) (hl : l.stackTraces = false) {b L : Nat} {xs : Nat → Int32} (hX : va_X b L xs s s.heap) (hbl : b < s.heap.size) (hbN : b < N0) {i : Nat} (hi : i + 8 ≤ L) (hL : L < 2 ^ 31) {x g o : Nat} {v : zV} {W : zO} {ad qa : Nat → Nat} {km ks kb : Nat} (hI : lwI t0 S x g o v W ad qa) (hV : lwV v W km ks kb) (hR : 14 ≤ R.frames ∧ 500 ≤ R.locals ∧ cells + 100 ≤ R.cells ∧ slots + 2000 ≤ R.slots) (K : ∀ (S2 : zS) (v2 : zV) (W2 : zO) (ad2 : Nat → Nat) (c2 s2 : Nat), lwI t0 S2 x g o v2 W2 ad2 qa → lwV v2 W2 km ks kb → c2 ≤ cells + 100 → s2 ≤ slots + 2000 → zW p l e R s m args below meth c Q N0 D cy 8 c2 s2 S2 [(4, .int (nI i)), (3, .ref o), (2, .ref g), (1, .ref x), (0, .ref b)] 1174 []) : zW p l e R s m args below meth c Q N0 D cy 8 cells slots S [(4, .int (nI i)), (3, .ref o), (2, .ref g), (1, .ref x), (0, .ref b)] 420 [] := by
  obtain ⟨hR1, hR2, hR3, hR4⟩ := hR
  have hvI := hV.1
  have hRep := hV.2.1
  have hv := hvI.1
  have h01 := hV.2.2.1
  have hH := hI.2.1
  have hx : zA S x 11 := hI.mx hRep.2.1
  have hk2 : ∀ {ad2 : Nat → Nat}, keepA W ad ad2 → ad2 2 = x := fun hk => (hk 2 hRep.2.1 rfl).trans hI.2.2.1
  have hO6 := (rg_1201 hv (k := 0) (by omega)).2
  refine lc_fill (f2 := 3) (lo2 := 80) (mc2 := 0) (ms2 := 0) (J := fun S2 => ∃ v2 W2 ad2, lwI t0 S2 x g o v2 W2 ad2 qa ∧ lwV v2 W2 km ks kb) (post2 := fun _ S1 S2 => (¬ (gT v 1203 (xs (i + 1)) (xs (i + 2)) ∧ ¬ (xs (i + 3)) < 0 ∧ ∃ i9 j9, i9 < cn v 1201 0 ∧ (xs (i + 1)) = nI i9 ∧ j9 < cn v 1203 i9 ∧ (xs (i + 2)) = nI j9 ∧ (xs (i + 3)) < v.1 1211 (4 * i9 + j9)) ∧ zmR S1 g qa (u1 v 1200 0 1) S2) ∨ ((gT v 1203 (xs (i + 1)) (xs (i + 2)) ∧ ¬ (xs (i + 3)) < 0 ∧ ∃ i9 j9, i9 < cn v 1201 0 ∧ (xs (i + 1)) = nI i9 ∧ j9 < cn v 1203 i9 ∧ (xs (i + 2)) = nI j9 ∧ (xs (i + 3)) < v.1 1211 (4 * i9 + j9)) ∧ ∃ i9 j9 t9, i9 < cn v 1201 0 ∧ (xs (i + 1)) = nI i9 ∧ j9 < cn v 1203 i9 ∧ (xs (i + 2)) = nI j9 ∧ (xs (i + 3)) = nI t9 ∧ t9 < cn v 1211 (4 * i9 + j9) ∧ zmR S1 g qa (vFil (u1 (u1 v 1200 0 0) 1219 0 0) (64 * (4 * i9 + j9) + t9) (zjn (xs (i + 4)) (xs (i + 5))) (min 8 (cn v 1211 (4 * i9 + j9) - t9))) S2)) F G hX hbl hbN hi hL hx (c_fill hl hH hRep hv hI.2.2.1) (fun E S' h => h.2.2) (fun k S1 h => ?_) (fun k S1 S2 h h2 => ?_) ⟨by omega, by omega, by omega, by omega, by omega, by omega⟩ (by omega) (by omega) (fun S2 hJ => by obtain ⟨v2, W2, ad2, q1, q2⟩ := hJ; exact K S2 v2 W2 ad2 _ _ q1 q2 (by omega) (by omega))
  · rcases h with ⟨e1, h9⟩ | ⟨e1, h9⟩
    · obtain ⟨hg, i9, j9, t9, z1, z2, z3, z4, z5, z6, W2, q1, q3, q4⟩ := h9
      exact ⟨(hI.c q1 hI.2.2.1).mg, mm_fill (zmR.rf (hI.c q1 hI.2.2.1).1) hv⟩
    · have e2 := h9.1
      subst e2
      exact ⟨hI.mg, mm_fill (zmR.rf hI.1) hv⟩
  · rcases h with ⟨e1, h9⟩ | ⟨e1, h9⟩
    · obtain ⟨hg, i9, j9, t9, z1, z2, z3, z4, z5, z6, W2, q1, q3, q4⟩ := h9
      rcases h2 with ⟨y1, y2⟩ | ⟨y1, i8, j8, t8, y2, y3, y4, y5, y6, y7, y8⟩
      · exact absurd hg y1
      · have r4 := (rg_1203 hv (k := i8) (by omega)).2
        have r49 := (rg_1203 hv (k := i9) (by omega)).2
        have r11 := (rg_1211 hv (k := 4 * i9 + j9) (by omega)).2
        have r118 := (rg_1211 hv (k := 4 * i8 + j8) (by omega)).2
        have ei : i8 = i9 := (nI_eq (by omega) (by omega)).mp (y3.symm.trans z2)
        subst ei
        have ej : j8 = j9 := (nI_eq (by omega) (by omega)).mp (y5.symm.trans z4)
        subst ej
        have et : t8 = t9 := (nI_eq (by omega) (by omega)).mp (y6.symm.trans z5)
        subst et
        obtain ⟨k1, k2, k3⟩ := (hI.c q1 hI.2.2.1).m y8
        refine ⟨k1.mg, k3.trans (((vFil_ne (by decide) 0 _).trans ((u1_n (Or.inl (by decide))).trans u1_s)).trans e1.symm), _, W2, ad, k1, hV.b (hvI.fl (by omega) (by rw [show (4 * i8 + j8) / 4 = i8 by omega]; omega) (by omega) (by omega)) q3 ((vFil_ne (by decide) 0 _).trans u1_s) q4⟩
    · obtain ⟨e2, y0, -⟩ := h9
      subst e2
      rcases h2 with ⟨y1, y2⟩ | ⟨y1, y2⟩
      · obtain ⟨k1, k2, k3⟩ := hI.m y2
        exact ⟨k1.mg, k3.trans (u1_s.trans e1.symm), _, W, ad, k1, hV.k⟩
      · exact absurd y1 y0
set_option maxRecDepth 100000 in
set_option maxHeartbeats 4000000 in
theorem lx_place (F : CallFix p m c cL_law 8 s args (z :: lw_good) RL) (G : zG N0 t0 D cy s s.heap) (hl : l.stackTraces = false) {b L : Nat} {xs : Nat → Int32} (hX : va_X b L xs s s.heap) (hbl : b < s.heap.size) (hbN : b < N0) {i : Nat} (hi : i + 8 ≤ L) (hL : L < 2 ^ 31) {x g o : Nat} {v : zV} {W : zO} {ad qa : Nat → Nat} {km ks kb : Nat} (hI : lwI t0 S x g o v W ad qa) (hV : lwV v W km ks kb) (hR : 14 ≤ R.frames ∧ 500 ≤ R.locals ∧ cells + 100 ≤ R.cells ∧ slots + 2000 ≤ R.slots) (K : ∀ (S2 : zS) (v2 : zV) (W2 : zO) (ad2 : Nat → Nat) (c2 s2 : Nat), lwI t0 S2 x g o v2 W2 ad2 qa → lwV v2 W2 km ks kb → c2 ≤ cells + 100 → s2 ≤ slots + 2000 → zW p l e R s m args below meth c Q N0 D cy 8 c2 s2 S2 [(4, .int (nI i)), (3, .ref o), (2, .ref g), (1, .ref x), (0, .ref b)] 1174 []) : zW p l e R s m args below meth c Q N0 D cy 8 cells slots S [(4, .int (nI i)), (3, .ref o), (2, .ref g), (1, .ref x), (0, .ref b)] 686 [] := by
  obtain ⟨hR1, hR2, hR3, hR4⟩ := hR
  have hvI := hV.1
  have hRep := hV.2.1
  have hv := hvI.1
  have h01 := hV.2.2.1
  have hH := hI.2.1
  have hx : zA S x 11 := hI.mx hRep.2.1
  have hk2 : ∀ {ad2 : Nat → Nat}, keepA W ad ad2 → ad2 2 = x := fun hk => (hk 2 hRep.2.1 rfl).trans hI.2.2.1
  refine lc_place (f2 := 0) (lo2 := 0) (mc2 := 0) (ms2 := 0) (J := fun S2 => ∃ v2 W2 ad2, lwI t0 S2 x g o v2 W2 ad2 qa ∧ lwV v2 W2 km ks kb) (post2 := fun _ S1 r S2 => r = zi S1 1220 g ∧ S2 = zPi S1 1200 g 0) F G hX hbl hbN hi hL hx (k_place hx) (fun k S1 h => ?_) (fun k S1 r S2 h h2 => ?_) ⟨by omega, by omega, by omega, by omega⟩ (by omega) (by omega) (fun S2 hJ => by obtain ⟨v2, W2, ad2, q1, q2⟩ := hJ; exact K S2 v2 W2 ad2 _ _ q1 q2 (by omega) (by omega))
  · obtain ⟨e1, e2⟩ := h
    subst e2
    exact ⟨hI.mg, m_place hI.mg⟩
  · obtain ⟨e1, e2⟩ := h
    subst e2
    obtain ⟨e3, e4⟩ := h2
    subst e4
    obtain ⟨k1, k2, k3⟩ := hI.m ((zmR.rf hI.1).pi (i := 1200) (x := 0) (by decide))
    refine ⟨?_, _, W, ad, k1, hV.k⟩
    rw [e1, e3, ← hI.2.2.1, hH.i hRep.2.1 rfl (by decide), (zmR.rf hI.1).i (by decide)]
    exact hRep.2.2.2.2.2.2.2.2.2.1
set_option maxRecDepth 100000 in
set_option maxHeartbeats 4000000 in
theorem lx_told (F : CallFix p m c cL_law 8 s args (z :: lw_good) RL) (G : zG N0 t0 D cy s s.heap) (hl : l.stackTraces = false) {b L : Nat} {xs : Nat → Int32} (hX : va_X b L xs s s.heap) (hbl : b < s.heap.size) (hbN : b < N0) {i : Nat} (hi : i + 8 ≤ L) (hL : L < 2 ^ 31) {x g o : Nat} {v : zV} {W : zO} {ad qa : Nat → Nat} {km ks kb : Nat} (hI : lwI t0 S x g o v W ad qa) (hV : lwV v W km ks kb) (hR : 14 ≤ R.frames ∧ 500 ≤ R.locals ∧ cells + 100 ≤ R.cells ∧ slots + 2000 ≤ R.slots) (K : ∀ (S2 : zS) (v2 : zV) (W2 : zO) (ad2 : Nat → Nat) (c2 s2 : Nat), lwI t0 S2 x g o v2 W2 ad2 qa → lwV v2 W2 km ks kb → c2 ≤ cells + 100 → s2 ≤ slots + 2000 → zW p l e R s m args below meth c Q N0 D cy 8 c2 s2 S2 [(4, .int (nI i)), (3, .ref o), (2, .ref g), (1, .ref x), (0, .ref b)] 1174 []) : zW p l e R s m args below meth c Q N0 D cy 8 cells slots S [(4, .int (nI i)), (3, .ref o), (2, .ref g), (1, .ref x), (0, .ref b)] 1063 [] := by
  obtain ⟨hR1, hR2, hR3, hR4⟩ := hR
  have hvI := hV.1
  have hRep := hV.2.1
  have hv := hvI.1
  have h01 := hV.2.2.1
  have hH := hI.2.1
  have hx : zA S x 11 := hI.mx hRep.2.1
  have hk2 : ∀ {ad2 : Nat → Nat}, keepA W ad ad2 → ad2 2 = x := fun hk => (hk 2 hRep.2.1 rfl).trans hI.2.2.1
  have a14 : oa W 14 := hRep.1.a hRep.2.1 (id := 1105) (by decide) rfl
  have hmq : zq S 1105 x = some (ad 14) := hH.qS hRep.2.1 hI.2.2.1 (by decide) (hRep.1.q hRep.2.1 (by decide) rfl) rfl
  have hmm : zA S (ad 14) 4 := hH.al a14 rfl rfl
  have hP2 : ∀ S1, lwI t0 S1 x g o v W ad qa → zl S1 409 (ad 14) = v.2 1229 0 ∧ zi S1 410 (ad 14) = v.1 1230 0 ∧ zi S1 411 (ad 14) = v.1 1231 0 := fun S1 h1 => ⟨(h1.2.1.l a14 rfl (by decide)).trans hRep.2.2.2.2.2.2.2.2.2.2.1, (h1.2.1.i a14 rfl (by decide)).trans hRep.2.2.2.2.2.2.2.2.2.2.2.1, (h1.2.1.i a14 rfl (by decide)).trans hRep.2.2.2.2.2.2.2.2.2.2.2.2.1⟩
  have hP3 : ∀ S1, lwI t0 S1 x g o v W ad qa → zl S1 1229 g = v.2 1229 0 ∧ zi S1 1230 g = v.1 1230 0 ∧ zi S1 1231 g = v.1 1231 0 := fun S1 h1 => ⟨(zmR.rf h1.1).l, (zmR.rf h1.1).i (by decide), (zmR.rf h1.1).i (by decide)⟩
  have hst : ∀ (k : Int32) (S1 : zS), zwr1 o (fun r S' => (¬ (xs (i + 1)) < 0 ∧ (xs (i + 1)) ≤ 2) ∧ S' = S ∧ r = (if (xs (i + 1)) = 0 then zl S 409 (ad 14) else if (xs (i + 1)) = 1 then (zi S 410 (ad 14)).toInt64 else (zi S 411 (ad 14)).toInt64)) zIAE (fun E S' => ¬ (¬ (xs (i + 1)) < 0 ∧ (xs (i + 1)) ≤ 2) ∧ E = zIAE ∧ S' = S) k S1 → lwI t0 S1 x g o v W ad qa ∧ ((k = 0 ∧ (¬ (xs (i + 1)) < 0 ∧ (xs (i + 1)) ≤ 2) ∧ zrj S1 o 0 = (if (xs (i + 1)) = 0 then v.2 1229 0 else if (xs (i + 1)) = 1 then (v.1 1230 0).toInt64 else (v.1 1231 0).toInt64)) ∨ (k = 1 ∧ ¬ (¬ (xs (i + 1)) < 0 ∧ (xs (i + 1)) ≤ 2))) := fun k S1 h => by
    rcases h with ⟨e1, r, S3, ⟨e2, e3, e4⟩, e5⟩ | ⟨e1, e2, e3, e4⟩
    · subst e3
      obtain ⟨q4, q5⟩ := hI.mo (f := vp_updL (zrj S3 o) (0 : Int32).toNatClampNeg r)
      subst e5
      obtain ⟨p1, p2, p3⟩ := hP2 _ hI
      rw [p1, p2, p3] at e4
      exact ⟨q4, Or.inl ⟨e1, e2, by rw [q5, up_0]; exact e4⟩⟩
    · subst e4
      exact ⟨hI, Or.inr ⟨e1, e2⟩⟩
  refine lc_told (f2 := 1) (lo2 := 22) (mc2 := 0) (ms2 := 0) (J := fun S2 => ∃ v2 W2 ad2, lwI t0 S2 x g o v2 W2 ad2 qa ∧ lwV v2 W2 km ks kb) (post2 := fun k S1 r S2 => (¬ (xs (i + 1)) < 0 ∧ (xs (i + 1)) ≤ 2 → S2 = zPi S1 1200 g 0 ∧ r = (if (xs (i + 1)) = 0 then zl S1 1229 g else if (xs (i + 1)) = 1 then (zi S1 1230 g).toInt64 else (zi S1 1231 g).toInt64)) ∧ (¬ (¬ (xs (i + 1)) < 0 ∧ (xs (i + 1)) ≤ 2) → S2 = zPi S1 1200 g 1)) F G hX hbl hbN hi hL hx (k_told hl hx hmq hmm) (fun E S' h => h.2.1) (fun r S' h => by rw [h.2.1]; exact hI.2.2.2.1) (fun k S1 h => ?_) (fun k S1 r S2 h h2 => ?_) ⟨by omega, by omega, by omega, by omega, by omega, by omega⟩ (by omega) (by omega) (fun S2 hJ => by obtain ⟨v2, W2, ad2, q1, q2⟩ := hJ; exact K S2 v2 W2 ad2 _ _ q1 q2 (by omega) (by omega))
  · obtain ⟨q1, -⟩ := hst k S1 h
    exact ⟨q1.mg, m_told q1.mg⟩
  · obtain ⟨q1, q2⟩ := hst k S1 h
    rcases q2 with ⟨e1, e2, e3⟩ | ⟨e1, e2⟩
    · obtain ⟨b1, b2⟩ := h2.1 e2
      subst b1
      obtain ⟨k1, k2, k3⟩ := q1.m ((zmR.rf q1.1).pi (i := 1200) (x := 0) (by decide))
      obtain ⟨p1, p2, p3⟩ := hP3 _ q1
      rw [p1, p2, p3] at b2
      exact ⟨k1.mg, k3.trans (u1_s.trans e1.symm), fun _ => ⟨k1.2.2.2.1.1, k1.2.2.2.1.2, by rw [k2, e3, b2]⟩, _, W, ad, k1, hV.k⟩
    · have b1 := h2.2 e2
      subst b1
      obtain ⟨k1, k2, k3⟩ := q1.m ((zmR.rf q1.1).pi (i := 1200) (x := 1) (by decide))
      exact ⟨k1.mg, k3.trans (u1_s.trans e1.symm), fun h9 => absurd (e1.symm.trans h9) (by decide), _, W, ad, k1, hV.k⟩
set_option maxRecDepth 100000 in
set_option maxHeartbeats 4000000 in
theorem lx_memory (F : CallFix p m c cL_law 8 s args (z :: lw_good) RL) (G : zG N0 t0 D cy s s.heap) (hl : l.stackTraces = false) {b L : Nat} {xs : Nat → Int32} (hX : va_X b L xs s s.heap) (hbl : b < s.heap.size) (hbN : b < N0) {i : Nat} (hi : i + 8 ≤ L) (hL : L < 2 ^ 31) {x g o : Nat} {v : zV} {W : zO} {ad qa : Nat → Nat} {km ks kb : Nat} (hI : lwI t0 S x g o v W ad qa) (hV : lwV v W km ks kb) (hR : 14 ≤ R.frames ∧ 500 ≤ R.locals ∧ cells + 100 ≤ R.cells ∧ slots + 2000 ≤ R.slots) (K : ∀ (S2 : zS) (v2 : zV) (W2 : zO) (ad2 : Nat → Nat) (c2 s2 : Nat), lwI t0 S2 x g o v2 W2 ad2 qa → lwV v2 W2 km ks kb → c2 ≤ cells + 100 → s2 ≤ slots + 2000 → zW p l e R s m args below meth c Q N0 D cy 8 c2 s2 S2 [(4, .int (nI i)), (3, .ref o), (2, .ref g), (1, .ref x), (0, .ref b)] 1174 []) : zW p l e R s m args below meth c Q N0 D cy 8 cells slots S [(4, .int (nI i)), (3, .ref o), (2, .ref g), (1, .ref x), (0, .ref b)] 1118 [] := by
  obtain ⟨hR1, hR2, hR3, hR4⟩ := hR
  have hvI := hV.1
  have hRep := hV.2.1
  have hv := hvI.1
  have h01 := hV.2.2.1
  have hH := hI.2.1
  have hx : zA S x 11 := hI.mx hRep.2.1
  have hk2 : ∀ {ad2 : Nat → Nat}, keepA W ad ad2 → ad2 2 = x := fun hk => (hk 2 hRep.2.1 rfl).trans hI.2.2.1
  have a14 : oa W 14 := hRep.1.a hRep.2.1 (id := 1105) (by decide) rfl
  have hmq : zq S 1105 x = some (ad 14) := hH.qS hRep.2.1 hI.2.2.1 (by decide) (hRep.1.q hRep.2.1 (by decide) rfl) rfl
  have hmm : zA S (ad 14) 4 := hH.al a14 rfl rfl
  have b58 : oa W 58 := hRep.1.a a14 (id := 404) (by decide) rfl
  have hq : zq S 404 (ad 14) = some (ad 58) := hH.qS a14 rfl (by decide) (hRep.1.q a14 (by decide) rfl) rfl
  have hqa : zA S (ad 58) 13 := hH.al b58 rfl rfl
  have hqn : zn S (ad 58) = 1024 := (hH.n b58 rfl (by decide)).trans (hRep.1.n a14 (id := 404) (by decide) rfl (by decide))
  have hm28 : ∀ S1, lwI t0 S1 x g o v W ad qa → zq S1 1228 g = some (qa 1228) ∧ zA S1 (qa 1228) 13 ∧ zn S1 (qa 1228) = 1024 ∧ zri S1 (qa 1228) = v.1 1228 := fun S1 h1 => ⟨(zmR.rf h1.1).q (i := 1228) (k := 13) (n := 1024) (by decide), (zmR.rf h1.1).rA (i := 1228) (k := 13) (n := 1024) (by decide), (zmR.rf h1.1).n (i := 1228) (k := 13) (n := 1024) (by decide), (zmR.rf h1.1).a (i := 1228) (k := 13) (n := 1024) (by decide) (by decide)⟩
  have hst : ∀ (k : Int32) (S1 : zS), zwr1 o (fun r S1 => ∃ v : Int32, r = v.toInt64 ∧ (¬ (xs (i + 1)) < 0 ∧ (xs (i + 1)) ≤ 1023) ∧ S1 = S ∧ v = zri S (ad 58) (xs (i + 1)).toNatClampNeg &&& 255) zIAE (fun E S' => ¬ (¬ (xs (i + 1)) < 0 ∧ (xs (i + 1)) ≤ 1023) ∧ E = zIAE ∧ S' = S) k S1 → lwI t0 S1 x g o v W ad qa ∧ ((k = 0 ∧ (¬ (xs (i + 1)) < 0 ∧ (xs (i + 1)) ≤ 1023) ∧ zrj S1 o 0 = (zri S (ad 58) (xs (i + 1)).toNatClampNeg &&& 255).toInt64) ∨ (k = 1 ∧ ¬ (¬ (xs (i + 1)) < 0 ∧ (xs (i + 1)) ≤ 1023))) := fun k S1 h => by
    rcases h with ⟨e1, r, S3, ⟨v9, e2, e3, e4, e6⟩, e5⟩ | ⟨e1, e2, e3, e4⟩
    · subst e4
      obtain ⟨q4, q5⟩ := hI.mo (f := vp_updL (zrj S3 o) (0 : Int32).toNatClampNeg r)
      subst e5
      exact ⟨q4, Or.inl ⟨e1, e3, by rw [q5, up_0, e2, e6]⟩⟩
    · subst e4
      exact ⟨hI, Or.inr ⟨e1, e2⟩⟩
  refine lc_memory (f2 := 1) (lo2 := 22) (mc2 := 0) (ms2 := 0) (J := fun S2 => ∃ v2 W2 ad2, lwI t0 S2 x g o v2 W2 ad2 qa ∧ lwV v2 W2 km ks kb) (post2 := fun k S1 r S2 => (¬ (xs (i + 1)) < 0 ∧ (xs (i + 1)) ≤ 1023 → S2 = zPi S1 1200 g 0 ∧ r = zri S1 (qa 1228) (xs (i + 1)).toNatClampNeg &&& 255) ∧ (¬ (¬ (xs (i + 1)) < 0 ∧ (xs (i + 1)) ≤ 1023) → S2 = zPi S1 1200 g 1)) F G hX hbl hbN hi hL hx (k_memory hl hx hmq hmm hq hqa hqn) (fun E S' h => h.2.1) (fun r S' h => by rw [h.2.1]; exact hI.2.2.2.1) (fun k S1 h => ?_) (fun k S1 r S2 h h2 => ?_) ⟨by omega, by omega, by omega, by omega, by omega, by omega⟩ (by omega) (by omega) (fun S2 hJ => by obtain ⟨v2, W2, ad2, q1, q2⟩ := hJ; exact K S2 v2 W2 ad2 _ _ q1 q2 (by omega) (by omega))
  · obtain ⟨q1, -⟩ := hst k S1 h
    obtain ⟨p1, p2, p3, p4⟩ := hm28 _ q1
    exact ⟨q1.mg, m_memory q1.mg p1 p2 p3⟩
  · obtain ⟨q1, q2⟩ := hst k S1 h
    rcases q2 with ⟨e1, e2, e3⟩ | ⟨e1, e2⟩
    · obtain ⟨b1, b2⟩ := h2.1 e2
      subst b1
      obtain ⟨k1, k2, k3⟩ := q1.m ((zmR.rf q1.1).pi (i := 1200) (x := 0) (by decide))
      obtain ⟨j, z1, z2⟩ := pIn_n (n := 1023) rfl (by decide) e2
      refine ⟨k1.mg, k3.trans (u1_s.trans e1.symm), fun _ => ⟨k1.2.2.2.1.1, k1.2.2.2.1.2, ?_⟩, _, W, ad, k1, hV.k⟩
      rw [k2, e3, b2, (hm28 _ q1).2.2.2, z2, nI_clamp (by omega), congrFun (hH.ri b58 rfl (by decide)) j, hRep.2.2.2.2.2.2.2.2.2.2.2.2.2.1 j (by omega)]
    · have b1 := h2.2 e2
      subst b1
      obtain ⟨k1, k2, k3⟩ := q1.m ((zmR.rf q1.1).pi (i := 1200) (x := 1) (by decide))
      exact ⟨k1.mg, k3.trans (u1_s.trans e1.symm), fun h9 => absurd (e1.symm.trans h9) (by decide), _, W, ad, k1, hV.k⟩
end ZLS9
