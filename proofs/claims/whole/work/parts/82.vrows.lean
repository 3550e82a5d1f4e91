theorem oaI {W : zO} {c id d : Nat} {x : Int32} (hc : oa W c) : oa (oI W c id x) d ↔ oa W d := va_up_al (e := eI (W c) id x) hc hc d
theorem oaQ {W : zO} {c id d : Nat} {x : Option Nat} (hc : oa W c) : oa (oQ W c id x) d ↔ oa W d := va_up_al (e := eQ (W c) id x) hc hc d
theorem oaL {W : zO} {c id d : Nat} {x : Int64} (hc : oa W c) : oa (oL W c id x) d ↔ oa W d := va_up_al (e := eL (W c) id x) hc hc d
theorem oaRi {W : zO} {c d : Nat} {f : Nat → Int32} (hc : oa W c) : oa (oRi W c f) d ↔ oa W d := va_up_al (e := eRi (W c) f) hc hc d
theorem oaRj {W : zO} {c d : Nat} {f : Nat → Int64} (hc : oa W c) : oa (oRj W c f) d ↔ oa W d := va_up_al (e := eRj (W c) f) hc hc d
theorem oaRq {W : zO} {c d : Nat} {f : Nat → Option Nat} (hc : oa W c) : oa (oRq W c f) d ↔ oa W d := va_up_al (e := eRq (W c) f) hc hc d
section ZVR
variable {p : Program} {l : Launch} {e : Env} {R : Room} {s : State} {m : MethodId} {args : Array Value} {below : List Frame} {meth : Method} {c : Code} {Q : State → Prop} {N0 t0 : Nat} {D : va_G} {cy : Nat → ClassId} {cc : ByteArray} {nL cells slots : Nat} {Ts : List Cond} {own : String} {S : zS} {lv : List (Nat × Value)} {pc : Nat} {rest : List Value} {X : Nat → Prop} {S0 : zS} {ad : Nat → Nat} {W : zO}
theorem v_iald (F : CallFix p m c cc nL s args Ts own) (G : zG N0 t0 D cy s s.heap) (hH : zH t0 X S0 ad W S) {d a n : Nat} (hd : oa W d) (ea : ad d = a) (hk : kd d = 14) (hn : n < onn W d) (hN : onn W d < 2 ^ 31) (hdg : decode cc pc = .ok (.iaload, 1)) (kk : zW p l e R s m args below meth c Q N0 D cy nL cells slots S lv (pc + 1) (.int (ori W d n) :: rest)) : zW p l e R s m args below meth c Q N0 D cy nL cells slots S lv (pc) (.int (nI n) :: .ref a :: rest) := by
  have hz := hH.n hd ea (by rw [hk]; decide)
  refine r_iald F G (hH.al hd ea hk) (by rw [hz]; exact vp_in_nI hn hN) hdg ?_
  rw [nI_clamp (by omega), hH.ri hd ea (by rw [hk]; decide)]
  exact kk
theorem v_iast (F : CallFix p m c cc nL s args Ts own) (G : zG N0 t0 D cy s s.heap) (hH : zH t0 X S0 ad W S) {d a n : Nat} (hd : oa W d) (ea : ad d = a) {x : Int32} (hk : kd d = 14) (hn : n < onn W d) (hN : onn W d < 2 ^ 31) (hdg : decode cc pc = .ok (.iastore, 1)) (kk : ∀ S', zH t0 X S0 ad (oRi W d (upd (ori W d) n x)) S' → zW p l e R s m args below meth c Q N0 D cy nL cells slots S' lv (pc + 1) (rest)) : zW p l e R s m args below meth c Q N0 D cy nL cells slots S lv (pc) (.int x :: .int (nI n) :: .ref a :: rest) := by
  have hz := hH.n hd ea (by rw [hk]; decide)
  refine r_iast F G (hH.al hd ea hk) (by rw [hz]; exact vp_in_nI hn hN) hdg ?_
  rw [nI_clamp (by omega), hH.ri hd ea (by rw [hk]; decide)]
  exact kk _ (hH.sri hd ea hk (by decide) _)
theorem v_bald (F : CallFix p m c cc nL s args Ts own) (G : zG N0 t0 D cy s s.heap) (hH : zH t0 X S0 ad W S) {d a n : Nat} (hd : oa W d) (ea : ad d = a) (hk : kd d = 13) (hn : n < onn W d) (hN : onn W d < 2 ^ 31) (hdg : decode cc pc = .ok (.baload, 1)) (kk : zW p l e R s m args below meth c Q N0 D cy nL cells slots S lv (pc + 1) (.int (ori W d n) :: rest)) : zW p l e R s m args below meth c Q N0 D cy nL cells slots S lv (pc) (.int (nI n) :: .ref a :: rest) := by
  have hz := hH.n hd ea (by rw [hk]; decide)
  refine r_bald F G (hH.al hd ea hk) (by rw [hz]; exact vp_in_nI hn hN) hdg ?_
  rw [nI_clamp (by omega), hH.ri hd ea (by rw [hk]; decide)]
  exact kk
theorem v_bast (F : CallFix p m c cc nL s args Ts own) (G : zG N0 t0 D cy s s.heap) (hH : zH t0 X S0 ad W S) {d a n : Nat} (hd : oa W d) (ea : ad d = a) {x : Int32} (hk : kd d = 13) (hn : n < onn W d) (hN : onn W d < 2 ^ 31) (hdg : decode cc pc = .ok (.bastore, 1)) (kk : ∀ S', zH t0 X S0 ad (oRi W d (upd (ori W d) n (vp_nar .byte x))) S' → zW p l e R s m args below meth c Q N0 D cy nL cells slots S' lv (pc + 1) (rest)) : zW p l e R s m args below meth c Q N0 D cy nL cells slots S lv (pc) (.int x :: .int (nI n) :: .ref a :: rest) := by
  have hz := hH.n hd ea (by rw [hk]; decide)
  refine r_bast F G (hH.al hd ea hk) (by rw [hz]; exact vp_in_nI hn hN) hdg ?_
  rw [nI_clamp (by omega), hH.ri hd ea (by rw [hk]; decide)]
  exact kk _ (hH.sri hd ea hk (by decide) _)
theorem v_zald (F : CallFix p m c cc nL s args Ts own) (G : zG N0 t0 D cy s s.heap) (hH : zH t0 X S0 ad W S) {d a n : Nat} (hd : oa W d) (ea : ad d = a) (hk : kd d = 16) (hn : n < onn W d) (hN : onn W d < 2 ^ 31) (hdg : decode cc pc = .ok (.baload, 1)) (kk : zW p l e R s m args below meth c Q N0 D cy nL cells slots S lv (pc + 1) (.int (ori W d n) :: rest)) : zW p l e R s m args below meth c Q N0 D cy nL cells slots S lv (pc) (.int (nI n) :: .ref a :: rest) := by
  have hz := hH.n hd ea (by rw [hk]; decide)
  refine r_zald F G (hH.al hd ea hk) (by rw [hz]; exact vp_in_nI hn hN) hdg ?_
  rw [nI_clamp (by omega), hH.ri hd ea (by rw [hk]; decide)]
  exact kk
theorem v_zast (F : CallFix p m c cc nL s args Ts own) (G : zG N0 t0 D cy s s.heap) (hH : zH t0 X S0 ad W S) {d a n : Nat} (hd : oa W d) (ea : ad d = a) {x : Int32} (hk : kd d = 16) (hn : n < onn W d) (hN : onn W d < 2 ^ 31) (hdg : decode cc pc = .ok (.bastore, 1)) (kk : ∀ S', zH t0 X S0 ad (oRi W d (upd (ori W d) n (vp_nar .boolean x))) S' → zW p l e R s m args below meth c Q N0 D cy nL cells slots S' lv (pc + 1) (rest)) : zW p l e R s m args below meth c Q N0 D cy nL cells slots S lv (pc) (.int x :: .int (nI n) :: .ref a :: rest) := by
  have hz := hH.n hd ea (by rw [hk]; decide)
  refine r_zast F G (hH.al hd ea hk) (by rw [hz]; exact vp_in_nI hn hN) hdg ?_
  rw [nI_clamp (by omega), hH.ri hd ea (by rw [hk]; decide)]
  exact kk _ (hH.sri hd ea hk (by decide) _)
theorem v_lald (F : CallFix p m c cc nL s args Ts own) (G : zG N0 t0 D cy s s.heap) (hH : zH t0 X S0 ad W S) {d a n : Nat} (hd : oa W d) (ea : ad d = a) (hk : kd d = 15) (hn : n < onn W d) (hN : onn W d < 2 ^ 31) (hdg : decode cc pc = .ok (.laload, 1)) (kk : zW p l e R s m args below meth c Q N0 D cy nL cells slots S lv (pc + 1) (.long (orj W d n) :: rest)) : zW p l e R s m args below meth c Q N0 D cy nL cells slots S lv (pc) (.int (nI n) :: .ref a :: rest) := by
  have hz := hH.n hd ea (by rw [hk]; decide)
  refine r_lald F G (hH.al hd ea hk) (by rw [hz]; exact vp_in_nI hn hN) hdg ?_
  rw [nI_clamp (by omega), hH.rj hd ea (by rw [hk]; decide)]
  exact kk
theorem v_last (F : CallFix p m c cc nL s args Ts own) (G : zG N0 t0 D cy s s.heap) (hH : zH t0 X S0 ad W S) {d a n : Nat} (hd : oa W d) (ea : ad d = a) {x : Int64} (hk : kd d = 15) (hn : n < onn W d) (hN : onn W d < 2 ^ 31) (hdg : decode cc pc = .ok (.lastore, 1)) (kk : ∀ S', zH t0 X S0 ad (oRj W d (vp_updL (orj W d) n x)) S' → zW p l e R s m args below meth c Q N0 D cy nL cells slots S' lv (pc + 1) (rest)) : zW p l e R s m args below meth c Q N0 D cy nL cells slots S lv (pc) (.long x :: .int (nI n) :: .ref a :: rest) := by
  have hz := hH.n hd ea (by rw [hk]; decide)
  refine r_last F G (hH.al hd ea hk) (by rw [hz]; exact vp_in_nI hn hN) hdg ?_
  rw [nI_clamp (by omega), hH.rj hd ea (by rw [hk]; decide)]
  exact kk _ (hH.srj hd ea hk (by decide) _)
theorem v_aldR (F : CallFix p m c cc nL s args Ts own) (G : zG N0 t0 D cy s s.heap) (hH : zH t0 X S0 ad W S) {d a n : Nat} (hd : oa W d) (ea : ad d = a) (hk : kd d = 17) (hn : n < onn W d) (hN : onn W d < 2 ^ 31) (hdg : decode cc pc = .ok (.aaload, 1)) (kk : zW p l e R s m args below meth c Q N0 D cy nL cells slots S lv (pc + 1) (va_rf ((orq W d n).map ad) :: rest)) : zW p l e R s m args below meth c Q N0 D cy nL cells slots S lv (pc) (.int (nI n) :: .ref a :: rest) := by
  have hz := hH.n hd ea (by rw [hk]; decide)
  refine r_aldR F G (hH.al hd ea hk) (by rw [hz]; exact vp_in_nI hn hN) hdg ?_
  rw [nI_clamp (by omega), hH.rq hd ea (by rw [hk]; decide)]
  exact kk
theorem v_astNR (F : CallFix p m c cc nL s args Ts own) (G : zG N0 t0 D cy s s.heap) (hH : zH t0 X S0 ad W S) {d a n : Nat} (hd : oa W d) (ea : ad d = a) (hk : kd d = 17) (hn : n < onn W d) (hN : onn W d < 2 ^ 31) (hdg : decode cc pc = .ok (.aastore, 1)) (kk : ∀ S', zH t0 X S0 ad (oRq W d (va_up (orq W d) n none)) S' → zW p l e R s m args below meth c Q N0 D cy nL cells slots S' lv (pc + 1) (rest)) : zW p l e R s m args below meth c Q N0 D cy nL cells slots S lv (pc) (.null :: .int (nI n) :: .ref a :: rest) := by
  have hz := hH.n hd ea (by rw [hk]; decide)
  refine r_astN_R F G (hH.al hd ea hk) (by rw [hz]; exact vp_in_nI hn hN) hdg ?_
  rw [nI_clamp (by omega)]
  exact kk _ (hH.srq1 hd ea hk (by decide) n none rfl (fun d hd => by cases hd))
theorem v_astR (F : CallFix p m c cc nL s args Ts own) (G : zG N0 t0 D cy s s.heap) (hH : zH t0 X S0 ad W S) {d a n : Nat} (hd : oa W d) (ea : ad d = a) {x b : Nat} (hx : oa W x) (eb : ad x = b) (hkx : kd x = 7) (hxe : x % 2 = 0) (hk : kd d = 17) (hn : n < onn W d) (hN : onn W d < 2 ^ 31) (hdg : decode cc pc = .ok (.aastore, 1)) (kk : ∀ S', zH t0 X S0 ad (oRq W d (va_up (orq W d) n (some x))) S' → zW p l e R s m args below meth c Q N0 D cy nL cells slots S' lv (pc + 1) (rest)) : zW p l e R s m args below meth c Q N0 D cy nL cells slots S lv (pc) (.ref b :: .int (nI n) :: .ref a :: rest) := by
  have hz := hH.n hd ea (by rw [hk]; decide)
  subst eb
  refine r_ast_R F G (hH.al hd ea hk) (hH.al hx rfl hkx) (by rw [hz]; exact vp_in_nI hn hN) hdg ?_
  rw [nI_clamp (by omega)]
  exact kk _ (hH.srq1 hd ea hk (by decide) n (some x) rfl (fun d hd => by cases hd; exact ⟨hx, hxe⟩))
theorem v_aldS (F : CallFix p m c cc nL s args Ts own) (G : zG N0 t0 D cy s s.heap) (hH : zH t0 X S0 ad W S) {d a n : Nat} (hd : oa W d) (ea : ad d = a) (hk : kd d = 18) (hn : n < onn W d) (hN : onn W d < 2 ^ 31) (hdg : decode cc pc = .ok (.aaload, 1)) (kk : zW p l e R s m args below meth c Q N0 D cy nL cells slots S lv (pc + 1) (va_rf ((orq W d n).map ad) :: rest)) : zW p l e R s m args below meth c Q N0 D cy nL cells slots S lv (pc) (.int (nI n) :: .ref a :: rest) := by
  have hz := hH.n hd ea (by rw [hk]; decide)
  refine r_aldS F G (hH.al hd ea hk) (by rw [hz]; exact vp_in_nI hn hN) hdg ?_
  rw [nI_clamp (by omega), hH.rq hd ea (by rw [hk]; decide)]
  exact kk
theorem v_astNS (F : CallFix p m c cc nL s args Ts own) (G : zG N0 t0 D cy s s.heap) (hH : zH t0 X S0 ad W S) {d a n : Nat} (hd : oa W d) (ea : ad d = a) (hk : kd d = 18) (hn : n < onn W d) (hN : onn W d < 2 ^ 31) (hdg : decode cc pc = .ok (.aastore, 1)) (kk : ∀ S', zH t0 X S0 ad (oRq W d (va_up (orq W d) n none)) S' → zW p l e R s m args below meth c Q N0 D cy nL cells slots S' lv (pc + 1) (rest)) : zW p l e R s m args below meth c Q N0 D cy nL cells slots S lv (pc) (.null :: .int (nI n) :: .ref a :: rest) := by
  have hz := hH.n hd ea (by rw [hk]; decide)
  refine r_astN_S F G (hH.al hd ea hk) (by rw [hz]; exact vp_in_nI hn hN) hdg ?_
  rw [nI_clamp (by omega)]
  exact kk _ (hH.srq1 hd ea hk (by decide) n none rfl (fun d hd => by cases hd))
theorem v_astS (F : CallFix p m c cc nL s args Ts own) (G : zG N0 t0 D cy s s.heap) (hH : zH t0 X S0 ad W S) {d a n : Nat} (hd : oa W d) (ea : ad d = a) {x b : Nat} (hx : oa W x) (eb : ad x = b) (hkx : kd x = 9) (hxe : x % 2 = 0) (hk : kd d = 18) (hn : n < onn W d) (hN : onn W d < 2 ^ 31) (hdg : decode cc pc = .ok (.aastore, 1)) (kk : ∀ S', zH t0 X S0 ad (oRq W d (va_up (orq W d) n (some x))) S' → zW p l e R s m args below meth c Q N0 D cy nL cells slots S' lv (pc + 1) (rest)) : zW p l e R s m args below meth c Q N0 D cy nL cells slots S lv (pc) (.ref b :: .int (nI n) :: .ref a :: rest) := by
  have hz := hH.n hd ea (by rw [hk]; decide)
  subst eb
  refine r_ast_S F G (hH.al hd ea hk) (hH.al hx rfl hkx) (by rw [hz]; exact vp_in_nI hn hN) hdg ?_
  rw [nI_clamp (by omega)]
  exact kk _ (hH.srq1 hd ea hk (by decide) n (some x) rfl (fun d hd => by cases hd; exact ⟨hx, hxe⟩))
theorem v_alen (F : CallFix p m c cc nL s args Ts own) (G : zG N0 t0 D cy s s.heap) (hH : zH t0 X S0 ad W S) {d a n : Nat} (hd : oa W d) (ea : ad d = a) {k j : Nat} {ty : FieldType} (hk : kd d = k) (hj : k = 13 + j) (ht : (zty cy)[j]? = some (cy j, ty)) (hdg : decode cc pc = .ok (.arraylength, 1)) (kk : zW p l e R s m args below meth c Q N0 D cy nL cells slots S lv (pc + 1) (.int (nI (onn W d)) :: rest)) : zW p l e R s m args below meth c Q N0 D cy nL cells slots S lv (pc) (.ref a :: rest) := by
  refine r_alen F G (hH.al hd ea hk) hj ht hdg ?_
  rw [hH.n hd ea (by rw [hk]; omega)]
  exact kk
end ZVR
theorem rpU.same {v v' : zV} {W W' : zO} {o : Nat} (h : rpU v W o) (h1 : ∀ id, id = 1202 ∨ id = 1203 ∨ id = 1204 → v'.1 id o = v.1 id o) (h2 : ∀ k, k < 8 → W' (100 + 8 * o + k) = W (100 + 8 * o + k)) : rpU v' W' o := by
  obtain ⟨g1, g2, g3, g4⟩ := h
  refine ⟨?_, ?_, ?_, ?_⟩
  · show (W' _).1
    rw [show W' (100 + 8 * o) = W (100 + 8 * o) from h2 0 (by decide)]
    exact g1
  · unfold cn
    rw [h1 1202 (Or.inl rfl)]
    exact g2.same (h2 2 (by decide)) (h2 3 (by decide))
  · unfold cn
    rw [h1 1203 (Or.inr (Or.inl rfl))]
    exact g3.same (h2 4 (by decide)) (h2 5 (by decide))
  · unfold cn
    rw [h1 1204 (Or.inr (Or.inr rfl))]
    exact g4.same (h2 6 (by decide)) (h2 7 (by decide))
theorem rpR.same {v v' : zV} {W W' : zO} {f : Nat} (h : rpR v W f) (h1 : ∀ id, id = 1205 ∨ id = 1206 ∨ id = 1207 ∨ id = 1208 → v'.1 id f = v.1 id f) (h3 : ∀ k, k < 60 → v'.1 1209 (60 * f + k) = v.1 1209 (60 * f + k) ∧ v'.1 1210 (60 * f + k) = v.1 1210 (60 * f + k)) (h2 : ∀ k, k = 0 ∨ k = 2 ∨ k = 4 → W' (200 + 12 * f + k) = W (200 + 12 * f + k)) : rpR v' W' f := by
  have e0 : W' (200 + 12 * f) = W (200 + 12 * f) := h2 0 (Or.inl rfl)
  have e2 := h2 2 (Or.inr (Or.inl rfl))
  have e4 := h2 4 (Or.inr (Or.inr rfl))
  unfold rpR oa oq oi ori
  rw [e0, e2, e4, h1 1205 (by decide), h1 1206 (by decide), h1 1207 (by decide), h1 1208 (by decide)]
  obtain ⟨g1, g2, g3, g4, g5, g6, g7, g8, g9⟩ := h
  exact ⟨g1, g2, g3, g4, g5, g6, g7, fun k hk => (g8 k hk).trans (h3 k hk).1.symm, fun k hk => (g9 k hk).trans (h3 k hk).2.symm⟩
theorem rpG.same {v v' : zV} {W W' : zO} {g : Nat} (h : rpG v W g) (h1 : v'.1 1211 g = v.1 1211 g) (h2 : v'.1 1212 g = v.1 1212 g) (h3 : ∀ k, k < cn v 1211 g → v'.1 1213 (64 * g + k) = v.1 1213 (64 * g + k)) (h4 : W' (800 + 4 * g) = W (800 + 4 * g)) (h5 : W' (800 + 4 * g + 2) = W (800 + 4 * g + 2)) : rpG v' W' g := by
  unfold rpG oa oi onn ori cn
  rw [h4, h5, h1, h2]
  exact ⟨h.1, h.2.1, h.2.2.1, fun k hk => (h.2.2.2 k hk).trans (h3 k hk).symm⟩
theorem rpY.same {v v' : zV} {W W' : zO} {y : Nat} (h : rpY v W y) (h1 : ∀ id, id = 1214 ∨ id = 1215 ∨ id = 1216 ∨ id = 1217 ∨ id = 1218 → v'.1 id y = v.1 id y) (h2 : W' (900 + 2 * y) = W (900 + 2 * y)) : rpY v' W' y := by
  unfold rpY oa oi oq cn
  rw [h2, h1 1214 (by decide), h1 1215 (by decide), h1 1216 (by decide), h1 1217 (by decide), h1 1218 (by decide)]
  exact h
/-- the linker's flag is taken back -/
theorem Rep.unl {v : zV} {W : zO} (h : Rep v W) : Rep (u1 (u1 v 1200 0 0) 1219 0 0) (oI W 2 1106 0) := by
  obtain ⟨h1, h2, h3, h4, h5, h6, h7, h8, h9, h10, h11, h12, h13, h14, h15⟩ := h
  have e : ∀ d, d ≠ 2 → oI W 2 1106 0 d = W d := fun d hd => va_up_ne _ _ hd
  have e2 : oI W 2 1106 0 2 = eI (W 2) 1106 0 := va_up_self _ _ _
  refine ⟨h1.I h2, oaU h2 h2 h2, h3.same (e 4 (by decide)) (e 5 (by decide)), fun o ho => (h4 o ho).same (fun id hid => by rcases hid with r | r | r <;> subst r <;> rfl) (fun k hk => e _ (by omega)), fun f hf hf2 => (h5 f hf hf2).same (fun id hid => by rcases hid with r | r | r | r <;> subst r <;> rfl) (fun k hk => ⟨rfl, rfl⟩) (fun k hk => e _ (by omega)), fun g hg hg2 => (h6 g hg hg2).same rfl rfl (fun k hk => rfl) (e _ (by omega)) (e _ (by omega)), fun y hy hy2 => (h7 y hy hy2).same (fun id hid => by rcases hid with r | r | r | r | r <;> subst r <;> rfl) (e _ (by omega)), fun c hc => h8 c ((oaI h2).mp hc), ?_, ?_, ?_, ?_, ?_, fun k hk => ?_, h15.same (fun d d1 d2 => e d (by omega))⟩
  · show (oI W 2 1106 0 2).2.1 1106 = _
    rw [e2]
    rfl
  · show (oI W 2 1106 0 2).2.1 1107 = _
    rw [e2]
    exact h10
  · show (oI W 2 1106 0 14).2.2.2.1 409 = _
    rw [e 14 (by decide)]
    exact h11
  · show (oI W 2 1106 0 14).2.1 410 = _
    rw [e 14 (by decide)]
    exact h12
  · show (oI W 2 1106 0 14).2.1 411 = _
    rw [e 14 (by decide)]
    exact h13
  · show (oI W 2 1106 0 58).2.2.2.2.2.1 k = _
    rw [e 58 (by decide)]
    exact h14 k hk
