theorem up_up {W : zO} {d : Nat} {a b : zE} : va_up (va_up W d a) d b = va_up W d b := by
  funext c
  by_cases e : c = d
  · rw [e, va_up_self, va_up_self]
  · rw [va_up_ne _ _ e, va_up_ne _ _ e, va_up_ne _ _ e]
theorem oRi_2 {W : zO} {d : Nat} {f g : Nat → Int32} : oRi (oRi W d f) d g = oRi W d g := by
  show va_up (va_up W d (eRi (W d) f)) d (eRi (va_up W d (eRi (W d) f) d) g) = _
  rw [up_up, va_up_self]
theorem oRi_0 {W : zO} {d : Nat} : oRi W d (ori W d) = W := by
  funext c
  by_cases e : c = d
  · rw [e]
    exact va_up_self _ _ _
  · exact va_up_ne _ _ e
theorem ori_s {W : zO} {d : Nat} {f : Nat → Int32} : ori (oRi W d f) d = f := congrArg (fun e : zE => e.2.2.2.2.2.1) (va_up_self W d (eRi (W d) f))
theorem onn_s {W : zO} {d c : Nat} {f : Nat → Int32} : onn (oRi W d f) c = onn W c := by
  by_cases e : c = d
  · rw [e]
    show (oRi W d f d).2.2.2.2.1 = _
    rw [show oRi W d f d = eRi (W d) f from va_up_self _ _ _]
  · show (oRi W d f c).2.2.2.2.1 = _
    rw [show oRi W d f c = W c from va_up_ne _ _ e]
theorem oa_ri {W : zO} {d c : Nat} {f : Nat → Int32} : oa (oRi W d f) c ↔ oa W c := by
  by_cases e : c = d
  · rw [e]
    show (oRi W d f d).1 ↔ _
    rw [show oRi W d f d = eRi (W d) f from va_up_self _ _ _]
  · show (oRi W d f c).1 ↔ _
    rw [show oRi W d f c = W c from va_up_ne _ _ e]
theorem upd_if {g : Nat → Int32} {j : Nat} {x : Int32} : upd (fun i => if i < j then x else g i) j x = fun i => if i < j + 1 then x else g i := by
  funext i
  show (if i = j then x else if i < j then x else g i) = _
  by_cases e : i = j
  · rw [if_pos e, if_pos (by omega)]
  · rw [if_neg e]
    by_cases h : i < j
    · rw [if_pos h, if_pos (by omega)]
    · rw [if_neg h, if_neg (by omega)]
set_option maxRecDepth 100000 in
set_option maxHeartbeats 4000000 in
theorem c_fillI {l : Launch} {N0 t0 : Nat} {D : va_G} {cy : Nat → ClassId} {S : zS} {X : Nat → Prop} {S0 : zS} {ad : Nat → Nat} {W : zO} (hH : zH t0 X S0 ad W S) {bd9 a : Nat} {x : Int32} (hd : oa W bd9) (ea : ad bd9 = a) (hk : kd bd9 = 14) (hN : onn W bd9 < 2 ^ 31) : zMv l yJ7_fill_53178 (zws yJ7_fill_53178 cJ7_fill_53178 4 none) { frames := 0, cells := 0, slots := 0, locals := 0 } N0 t0 D cy S [.ref a, .int x] (fun S' => zH t0 X S0 ad (oRi W bd9 (fun i => if i < onn W bd9 then x else ori W bd9 i)) S') 0 0 := by
  refine zMv.of (cc := cJ7_fill_53178) (maxL := 4) (ret := none) (by decide) rfl (Nat.le_of_ble_eq_true rfl) ?_
  intro p e s m args below meth c F G hr hlk hnm
  refine r_iconst (v := 0) F dJ7_fill_53178_0 (by decide) ?_
  refine r_istore_n F dJ7_fill_53178_1 (by decide) ?_
  refine r_aload_n F dJ7_fill_53178_2 rfl ?_
  refine v_alen (n := 0) (j := 1) F G hH hd ea hk rfl rfl dJ7_fill_53178_3 ?_
  refine r_istore_n F dJ7_fill_53178_4 (by decide) ?_
  refine zsub (lv' := [(2, .int (nI 0)), (3, .int (nI (onn W bd9))), (0, .ref a), (1, .int x)]) (by simp [zs1, lv_args, Value.category, show ((1 : Fin 4) : Nat) = 1 from rfl, show ((2 : Fin 4) : Nat) = 2 from rfl, show ((3 : Fin 4) : Nat) = 3 from rfl, show nI 0 = (0 : Int32) from rfl]) ?_
  refine z_loop (fun n S9 lv => ∃ j, j + n = onn W bd9 ∧ zH t0 X S0 ad (oRi W bd9 (fun i => if i < j then x else ori W bd9 i)) S9 ∧ lv = [(2, .int (nI j)), (3, .int (nI (onn W bd9))), (0, .ref a), (1, .int x)]) (onn W bd9) ?_ ⟨0, Nat.zero_add _, by rw [show (fun i => if i < 0 then x else ori W bd9 i) = ori W bd9 from funext (fun i => if_neg (Nat.not_lt_zero i)), oRi_0]; exact hH, rfl⟩
  clear hH
  rintro n S lv ⟨j, hjn, hH, rfl⟩ ih
  refine r_iload_n F dJ7_fill_53178_5 rfl ?_
  refine r_iload_n F dJ7_fill_53178_6 rfl ?_
  refine r_icmp_ge (tgt := 20) F dJ7_fill_53178_7 (by decide) (fun c7 => ?_) (fun c7 => ?_)
  · have hj : j = onn W bd9 := by have c9 := c7; rw [nI_leI (by omega) (by omega)] at c9; omega
    subst hj
    exact e_vret F hr hlk hH (by decide) (by decide) dJ7_fill_53178_20
  · have hj : j < onn W bd9 := by have c9 := c7; rw [nI_leI (by omega) (by omega)] at c9; omega
    refine r_aload_n F dJ7_fill_53178_10 rfl ?_
    refine r_iload_n F dJ7_fill_53178_11 rfl ?_
    refine r_iload_n F dJ7_fill_53178_12 rfl ?_
    refine v_iast F G hH (oa_ri.mpr hd) ea hk (by rw [onn_s]; exact hj) (by rw [onn_s]; exact hN) dJ7_fill_53178_13 (fun S hH => ?_)
    rw [oRi_2, ori_s, upd_if] at hH
    refine r_iinc F dJ7_fill_53178_14 rfl (by decide) ?_
    refine r_goto (tgt := 5) F dJ7_fill_53178_17 (by decide) ?_
    refine zsub (lv' := [(2, .int (nI (j + 1))), (3, .int (nI (onn W bd9))), (0, .ref a), (1, .int x)]) (by rw [show nI (j + 1) = nI j + Int32.ofInt 1 from (nI_add j 1).symm]; simp [zs1, lv_args, Value.category, show ((1 : Fin 4) : Nat) = 1 from rfl, show ((2 : Fin 4) : Nat) = 2 from rfl, show ((3 : Fin 4) : Nat) = 3 from rfl, show nI 0 = (0 : Int32) from rfl]) ?_
    exact ih (n - 1) _ _ (by omega) ⟨j + 1, by omega, hH, rfl⟩
theorem plc_hitn {Ts : List Nat} {x z : Nat} (hz : z ≠ x) : plc (Ts ++ [x]) (some z) = plc Ts (some z) := by
  have hg : ∀ j, j < Ts.length → (Ts ++ [x]).getD j 0 = Ts.getD j 0 := fun j hj => by
    rw [List.getD_eq_getElem?_getD, List.getElem?_append_left hj, ← List.getD_eq_getElem?_getD]
  have hl : (Ts ++ [x]).getD Ts.length 0 = x := by
    rw [List.getD_eq_getElem?_getD, List.getElem?_append_right (Nat.le_refl _), Nat.sub_self]
    rfl
  have hlen : (Ts ++ [x]).length = Ts.length + 1 := List.length_append
  cases h : plc Ts (some z) with
  | some k =>
    obtain ⟨h1, h2, h3⟩ := fnd_iff.mp (show fnd _ Ts.length = some k from h)
    have h2' := of_decide_eq_true h2
    exact plc_hit (by omega) (by rw [hg k h1]; exact h2') (fun j hj => by rw [hg j (by omega)]; exact of_decide_eq_false (h3 j hj))
  | none =>
    refine plc_none (fun j hj => ?_)
    rcases Nat.lt_or_ge j Ts.length with h1 | h1
    · rw [hg j h1]
      exact of_decide_eq_false (fnd_none.mp (show fnd _ Ts.length = none from h) j h1)
    · rw [show j = Ts.length by omega, hl]
      exact fun e => hz (Option.some.inj e)
theorem plc_hits {Ts : List Nat} {x : Nat} (h : plc Ts (some x) = none) : plc (Ts ++ [x]) (some x) = some Ts.length := by
  have hg : ∀ j, j < Ts.length → (Ts ++ [x]).getD j 0 = Ts.getD j 0 := fun j hj => by
    rw [List.getD_eq_getElem?_getD, List.getElem?_append_left hj, ← List.getD_eq_getElem?_getD]
  have hl : (Ts ++ [x]).getD Ts.length 0 = x := by
    rw [List.getD_eq_getElem?_getD, List.getElem?_append_right (Nat.le_refl _), Nat.sub_self]
    rfl
  refine plc_hit (by rw [List.length_append]; exact Nat.lt_succ_self _) (by rw [hl]) (fun j hj => ?_)
  rw [hg j hj]
  exact of_decide_eq_false (fnd_none.mp (show fnd _ Ts.length = none from h) j hj)
theorem plc_lt {Ts : List Nat} {x : Option Nat} {k : Nat} (h : plc Ts x = some k) : k < Ts.length := (fnd_iff.mp (show fnd _ Ts.length = some k from h)).1
/-- what numbering may change -/
def nuA (W W' : zO) : Prop := ∀ c, c ≠ 38 → c ≠ 39 → (W' c).1 = (W c).1 ∧ (W' c).2.2.1 = (W c).2.2.1 ∧ (W' c).2.2.2.1 = (W c).2.2.2.1 ∧ (W' c).2.2.2.2.1 = (W c).2.2.2.2.1 ∧ (∀ id, id ≠ 306 → id ≠ 711 → id ≠ 712 → (W' c).2.1 id = (W c).2.1 id) ∧ (c ≠ 10 → c ≠ 40 → c ≠ 42 → (∀ f, f < 48 → c ≠ 200 + 12 * f) → W' c = W c)
theorem nuA.rf {W : zO} : nuA W W := fun _ _ _ => ⟨rfl, rfl, rfl, rfl, fun _ _ _ _ => rfl, fun _ _ _ _ => rfl⟩
theorem nuA.tr {W W1 W2 : zO} (h : nuA W W1) (k : nuA W1 W2) : nuA W W2 := fun c h1 h2 => by
  obtain ⟨a1, a2, a3, a4, a5, a6⟩ := h c h1 h2
  obtain ⟨b1, b2, b3, b4, b5, b6⟩ := k c h1 h2
  exact ⟨b1.trans a1, b2.trans a2, b3.trans a3, b4.trans a4, fun id e1 e2 e3 => (b5 id e1 e2 e3).trans (a5 id e1 e2 e3), fun e1 e2 e3 e4 => (b6 e1 e2 e3 e4).trans (a6 e1 e2 e3 e4)⟩
theorem nuA.i {W : zO} {c id : Nat} {x : Int32} (hc : c = 10 ∨ ∃ f, f < 48 ∧ c = 200 + 12 * f) (hid : id = 306 ∨ id = 711 ∨ id = 712) : nuA W (oI W c id x) := fun d h1 h2 => by
  by_cases e : d = c
  · subst e
    have e1 : oI W d id x d = eI (W d) id x := va_up_self _ _ _
    rw [e1]
    refine ⟨rfl, rfl, rfl, rfl, fun id2 a b c => va_up_ne _ _ (by clear hc; omega), fun a1 _ _ a4 => ?_⟩
    rcases hc with q | ⟨f, q1, q2⟩
    · exact absurd q a1
    · exact absurd q2 (a4 f q1)
  · have e1 : oI W c id x d = W d := va_up_ne _ _ e
    rw [e1]
    exact ⟨rfl, rfl, rfl, rfl, fun _ _ _ _ => rfl, fun _ _ _ _ => rfl⟩
theorem nuA.r {W : zO} {c : Nat} {f : Nat → Int32} (hc : c = 40 ∨ c = 42) : nuA W (oRi W c f) := fun d h1 h2 => by
  by_cases e : d = c
  · subst e
    have e1 : oRi W d f d = eRi (W d) f := va_up_self _ _ _
    rw [e1]
    exact ⟨rfl, rfl, rfl, rfl, fun _ _ _ _ => rfl, fun _ a2 a3 _ => by rcases hc with q | q; exact absurd q a2; exact absurd q a3⟩
  · have e1 : oRi W c f d = W d := va_up_ne _ _ e
    rw [e1]
    exact ⟨rfl, rfl, rfl, rfl, fun _ _ _ _ => rfl, fun _ _ _ _ => rfl⟩
theorem nuA.s {W W' : zO} (hs : ∀ d, d ≠ 38 → d ≠ 39 → W' d = W d) : nuA W W' := fun c h1 h2 => by
  rw [hs c h1 h2]
  exact ⟨rfl, rfl, rfl, rfl, fun _ _ _ _ => rfl, fun _ _ _ _ => rfl⟩
theorem nuA.al {W W' : zO} (h : nuA W W') {c : Nat} (h1 : c ≠ 38) (h2 : c ≠ 39) : oa W' c ↔ oa W c := by
  show (W' c).1 ↔ _
  rw [(h c h1 h2).1]
theorem nuA.wr {W W' : zO} (h : nuA W W') (hw : wr W) (a38 : oa W' 38) : wr W' := fun id hid c hc hk => by
  have hwk := wL_k id hid
  have n38 : c ≠ 38 := fun e => by rw [e] at hk; exact absurd (hk.symm.trans (show kd 38 = 0 from rfl)) hwk.1
  have n39 : c ≠ 39 := fun e => by rw [e] at hk; exact absurd (hk.symm.trans (show kd 39 = 19 from rfl)) hwk.2.1
  obtain ⟨g1, g2, g3, g4⟩ := hw id hid c ((h.al n38 n39).mp hc) hk
  have hk39 : wd id c ≠ 39 := fun e => by rw [e] at g4; exact absurd g4.symm ((show ∀ id ∈ wL, wk id ≠ 19 by decide) id hid)
  refine ⟨?_, ?_, fun h9 => ?_, g4⟩
  · show (W' c).2.2.1 id = _
    rw [(h c n38 n39).2.1]
    exact g1
  · by_cases e : wd id c = 38
    · rw [e]; exact a38
    · exact (h.al e hk39).mpr g2
  · have e : wd id c ≠ 38 := fun e => by rw [e] at g4; exact absurd g4.symm ((show ∀ id ∈ wL, wn id ≠ 0 → wk id ≠ 0 by decide) id hid h9)
    show (W' (wd id c)).2.2.2.2.1 = _
    rw [(h _ e hk39).2.2.2.1]
    exact g3 h9
theorem nuA.B {v : zV} {W W' : zO} (h : nuA W W') (hB : Bld v W) (a38 : oa W' 38) (hO : cn v 1201 0 ≤ 6) : Bld v W' := by
  have hs : ∀ c, 100 ≤ c → (∀ f, f < 48 → c ≠ 200 + 12 * f) → W' c = W c := fun c h1 h2 => (h c (by omega) (by omega)).2.2.2.2.2 (by omega) (by omega) (by omega) h2
  refine ⟨h.wr hB.1 a38, fun o ho => (hB.2.1 o ho).same (fun _ _ => rfl) (fun k hk => hs _ (by omega) (fun f hf => by omega)), fun f hf ht => ?_, fun g hg ht => (hB.2.2.2.1 g hg ht).same rfl rfl (fun _ _ => rfl) (hs _ (by omega) (fun f hf => by omega)) (hs _ (by omega) (fun f hf => by omega)), fun y hy ht => (hB.2.2.2.2 y hy ht).same (fun _ _ => rfl) (hs _ (by omega) (fun f hf => by omega))⟩
  obtain ⟨r1, r2, r3, r4, r5, r6, r7, r8, r9⟩ := hB.2.2.1 f hf ht
  obtain ⟨c1, c2, c3, c4, c5, c6⟩ := h (200 + 12 * f) (by omega) (by omega)
  have e2 := hs (200 + 12 * f + 2) (by omega) (fun g hg => by omega)
  have e4 := hs (200 + 12 * f + 4) (by omega) (fun g hg => by omega)
  refine ⟨(h.al (by omega) (by omega)).mpr r1, ?_, (c5 701 (by decide) (by decide) (by decide)).trans r3, (c5 702 (by decide) (by decide) (by decide)).trans r4, (c5 703 (by decide) (by decide) (by decide)).trans r5, (c5 704 (by decide) (by decide) (by decide)).trans r6, (c5 710 (by decide) (by decide) (by decide)).trans r7, fun k hk => ?_, fun k hk => ?_⟩
  · show (W' (200 + 12 * f)).2.2.1 700 = _
    rw [c2]; exact r2
  · show (W' (200 + 12 * f + 2)).2.2.2.2.2.1 k = _
    rw [e2]; exact r8 k hk
  · show (W' (200 + 12 * f + 4)).2.2.2.2.2.1 k = _
    rw [e4]; exact r9 k hk
/-- the types so far; the slots so far; the numbers -/
def nuT (W : zO) (Ts : List Nat) : Prop := oi W 10 306 = nI Ts.length ∧ (∀ x, x < 10 → ori W 42 x = enc (plc Ts (some x))) ∧ ∀ k, k < Ts.length → ori W 40 k = nI (Ts.getD k 0)
def nuS (v : zV) (W : zO) (Ss : List Nat) : Prop := vl W 38 Ss.length (fun i => 200 + 12 * Ss.getD i 0) ∧ ∀ f, f < 48 → f % 8 < cn v 1202 (f / 8) → oi W (200 + 12 * f) 712 = nI (slN Ss (some f))
def nuN (v : zV) (W : zO) : Prop := ∀ f, f < 48 → f % 8 < cn v 1202 (f / 8) → oi W (200 + 12 * f) 711 = nI (pN v 1202 8 f)
set_option maxRecDepth 100000 in
set_option maxHeartbeats 4000000 in
theorem c_noteType {l : Launch} {N0 t0 : Nat} {D : va_G} {cy : Nat → ClassId} {S : zS} {X : Nat → Prop} {S0 : zS} {ad : Nat → Nat} {W : zO} (hH : zH t0 X S0 ad W S) {Ts : List Nat} {x : Nat} (hT : nuT W Ts) (hn : nD Ts 10) (hx : x < 10) (hw : wr W) (a10 : oa W 10) : zMv l yX2_noteType (zws yX2_noteType cX2_noteType 2 none) { frames := 0, cells := 0, slots := 0, locals := 0 } N0 t0 D cy S [.ref (ad 10), .int (nI x)] (fun S' => ∃ W', zH t0 X S0 ad W' S' ∧ nuA W W' ∧ nuT W' (addT Ts x) ∧ ∀ d, d ≠ 10 → d ≠ 40 → d ≠ 42 → W' d = W d) 0 0 := by
  refine zMv.of (cc := cX2_noteType) (maxL := 2) (ret := none) (by decide) rfl (Nat.le_of_ble_eq_true rfl) ?_
  intro p e s m args below meth c F G hr hlk hnm
  have A0 : zA S (ad 10) 3 := hH.al a10 rfl rfl
  have Q1 : zq S 305 (ad 10) = some (ad 42) := hH.qS a10 rfl (by decide) (hw.q a10 (by decide) rfl) rfl
  have Q2 : zq S 304 (ad 10) = some (ad 40) := hH.qS a10 rfl (by decide) (hw.q a10 (by decide) rfl) rfl
  have I1 : zi S 306 (ad 10) = nI Ts.length := (hH.i a10 rfl (by decide)).trans hT.1
  have b42 : oa W 42 := hw.a a10 (id := 305) (by decide) rfl
  have b40 : oa W 40 := hw.a a10 (id := 304) (by decide) rfl
  have n42 : onn W 42 = 10 := hw.n a10 (id := 305) (by decide) rfl (by decide)
  have n40 : onn W 40 = 10 := hw.n a10 (id := 304) (by decide) rfl (by decide)
  have hl := nD_len _ _ hn
  have hb31 : ∀ z, plc Ts (some x) = some z → z < 2 ^ 31 := fun z hz => by have := plc_lt hz; omega
  refine r_aload_n F dX2_noteType_0 rfl ?_
  refine r_getS (ci := 3) (k := 5) (id := 305) (C := RX2) (T := TX2) (N := 8) F G rfl (by decide) (by decide) rfl (zinL inG3) (zin kf_X2_31) (fun _ h9 => h9) dX2_noteType_1 A0 Q1 ?_
  refine r_iload_n F dX2_noteType_4 rfl ?_
  refine v_iald F G hH b42 rfl rfl (by rw [n42]; exact hx) (by rw [n42]; decide) dX2_noteType_5 ?_
  rw [hT.2.1 x hx]
  refine r_iconst (v := -1) F dX2_noteType_6 (by decide) ?_
  refine r_icmp_ne (tgt := 40) F dX2_noteType_7 (by decide) (fun c7 => ?_) (fun c7 => ?_)
  · obtain ⟨j, hj⟩ : ∃ j, plc Ts (some x) = some j := by
      cases he : plc Ts (some x) with
      | some j => exact ⟨j, rfl⟩
      | none => exact absurd (show enc (plc Ts (some x)) = -1 by rw [he]; rfl) c7
    exact e_vret F hr hlk ⟨W, hH, nuA.rf, by rw [addT_hit hj]; exact hT, fun _ _ _ _ => rfl⟩ (by decide) (by decide) dX2_noteType_40
  · have hpn : plc Ts (some x) = none := enc_m1 hb31 c7
    have hl2 : Ts.length < 10 := by
      have h9 := nD_len _ _ (hn.add hx)
      rw [addT_new hpn, List.length_append] at h9
      exact h9
    refine r_aload_n F dX2_noteType_10 rfl ?_
    refine r_getS (ci := 3) (k := 5) (id := 305) (C := RX2) (T := TX2) (N := 8) F G rfl (by decide) (by decide) rfl (zinL inG3) (zin kf_X2_31) (fun _ h9 => h9) dX2_noteType_11 A0 Q1 ?_
    refine r_iload_n F dX2_noteType_14 rfl ?_
    refine r_aload_n F dX2_noteType_15 rfl ?_
    refine r_getiS (ci := 3) (k := 6) (id := 306) (C := RX2) (T := TX2) (N := 8) F G rfl (by decide) (by decide) rfl (zinL inG3) (zin kf_X2_93) (fun _ h9 => h9) dX2_noteType_16 A0 I1 ?_
    refine v_iast F G hH b42 rfl rfl (by rw [n42]; exact hx) (by rw [n42]; decide) dX2_noteType_19 (fun S hH => ?_)
    clear A0 Q1 Q2 I1
    obtain ⟨WA, eWA⟩ : ∃ WA, WA = oRi W 42 (upd (ori W 42) x (nI Ts.length)) := ⟨_, rfl⟩
    rw [← eWA] at hH
    have hwA : wr WA := by rw [eWA]; exact hw.Ri b42
    have a10A : oa WA 10 := by rw [eWA]; exact oa_ri.mpr a10
    have b40A : oa WA 40 := by rw [eWA]; exact oa_ri.mpr b40
    have n40A : onn WA 40 = 10 := by rw [eWA, onn_s]; exact n40
    have nuA1 : nuA W WA := by rw [eWA]; exact nuA.r (Or.inr rfl)
    have sA : ∀ d, d ≠ 42 → WA d = W d := fun d hd => by rw [eWA]; exact va_up_ne _ _ hd
    have r42A : ori WA 42 = upd (ori W 42) x (nI Ts.length) := by rw [eWA]; exact ori_s
    have A0 : zA S (ad 10) 3 := hH.al a10A rfl rfl
    have Q2 : zq S 304 (ad 10) = some (ad 40) := hH.qS a10A rfl (by decide) (hwA.q a10A (by decide) rfl) rfl
    have I1 : zi S 306 (ad 10) = nI Ts.length := (hH.i a10A rfl (by decide)).trans (by show (WA 10).2.1 306 = _; rw [sA 10 (by decide)]; exact hT.1)
    refine r_aload_n F dX2_noteType_20 rfl ?_
    refine r_getS (ci := 3) (k := 4) (id := 304) (C := RX2) (T := TX2) (N := 8) F G rfl (by decide) (by decide) rfl (zinL inG3) (zin kf_X2_27) (fun _ h9 => h9) dX2_noteType_21 A0 Q2 ?_
    refine r_aload_n F dX2_noteType_24 rfl ?_
    refine r_getiS (ci := 3) (k := 6) (id := 306) (C := RX2) (T := TX2) (N := 8) F G rfl (by decide) (by decide) rfl (zinL inG3) (zin kf_X2_93) (fun _ h9 => h9) dX2_noteType_25 A0 I1 ?_
    refine r_iload_n F dX2_noteType_28 rfl ?_
    refine v_iast F G hH b40A rfl rfl (by rw [n40A]; exact hl2) (by rw [n40A]; decide) dX2_noteType_29 (fun S hH => ?_)
    clear A0 Q2 I1
    obtain ⟨WB, eWB⟩ : ∃ WB, WB = oRi WA 40 (upd (ori WA 40) Ts.length (nI x)) := ⟨_, rfl⟩
    rw [← eWB] at hH
    have a10B : oa WB 10 := by rw [eWB]; exact oa_ri.mpr a10A
    have nuA2 : nuA WA WB := by rw [eWB]; exact nuA.r (Or.inl rfl)
    have sB : ∀ d, d ≠ 40 → WB d = WA d := fun d hd => by rw [eWB]; exact va_up_ne _ _ hd
    have r40B : ori WB 40 = upd (ori WA 40) Ts.length (nI x) := by rw [eWB]; exact ori_s
    have A0 : zA S (ad 10) 3 := hH.al a10B rfl rfl
    have I1 : zi S 306 (ad 10) = nI Ts.length := (hH.i a10B rfl (by decide)).trans (by show (WB 10).2.1 306 = _; rw [sB 10 (by decide), sA 10 (by decide)]; exact hT.1)
    refine r_aload_n F dX2_noteType_30 rfl ?_
    refine r_dup F dX2_noteType_31 rfl ?_
    refine r_getiS (ci := 3) (k := 6) (id := 306) (C := RX2) (T := TX2) (N := 8) F G rfl (by decide) (by decide) rfl (zinL inG3) (zin kf_X2_93) (fun _ h9 => h9) dX2_noteType_32 A0 I1 ?_
    refine r_iconst (v := 1) F dX2_noteType_35 (by decide) ?_
    refine r_iadd F dX2_noteType_36 ?_
    rw [show nI Ts.length + 1 = nI (Ts.length + 1) from nI_add _ 1]
    refine r_puti (ci := 3) (k := 6) (id := 306) (C := RX2) (T := TX2) (N := 8) (ty := .int) (ty0 := tyX2) F G rfl (by decide) (by decide) rfl (zinL inG3) (zin kf_X2_93) (fun _ h9 => h9) tyX2_ok nmX2 rfl pd3_6 rfl rfl dX2_noteType_37 A0 ?_
    refine zgen (P := zH t0 X S0 ad (oI WB 10 306 (nI (Ts.length + 1)))) (hH.pi a10B rfl rfl (by decide) _) (fun S hH => ?_)
    have sC : ∀ d, d ≠ 10 → oI WB 10 306 (nI (Ts.length + 1)) d = WB d := fun d hd => va_up_ne _ _ hd
    have hup : ∀ (g : Nat → Int32) (j : Nat) (w : Int32) (i : Nat), upd g j w i = if i = j then w else g i := fun g j w i => rfl
    refine e_vret F hr hlk ⟨_, hH, (nuA1.tr nuA2).tr (nuA.i (Or.inl rfl) (Or.inl rfl)), ?_, fun d h1 h2 h3 => (sC d h1).trans ((sB d h2).trans (sA d h3))⟩ (by decide) (by decide) dX2_noteType_40
    rw [addT_new hpn]
    refine ⟨?_, fun z hz => ?_, fun k hk => ?_⟩
    · rw [List.length_append]
      exact oI_s
    · show (oI WB 10 306 (nI (Ts.length + 1)) 42).2.2.2.2.2.1 z = _
      rw [sC 42 (by decide), sB 42 (by decide), show (WA 42).2.2.2.2.2.1 = upd (ori W 42) x (nI Ts.length) from r42A, hup]
      by_cases e : z = x
      · rw [if_pos e, e, plc_hits hpn]
        rfl
      · rw [if_neg e, plc_hitn e]
        exact hT.2.1 z hz
    · show (oI WB 10 306 (nI (Ts.length + 1)) 40).2.2.2.2.2.1 k = _
      rw [List.length_append] at hk
      have hk2 : k < Ts.length + 1 := hk
      rw [sC 40 (by decide), show (WB 40).2.2.2.2.2.1 = upd (ori WA 40) Ts.length (nI x) from r40B, hup]
      by_cases e : k = Ts.length
      · rw [if_pos e, e, List.getD_eq_getElem?_getD, List.getElem?_append_right (Nat.le_refl _), Nat.sub_self]
        rfl
      · rw [if_neg e, List.getD_eq_getElem?_getD, List.getElem?_append_left (by omega), ← List.getD_eq_getElem?_getD]
        show (WA 40).2.2.2.2.2.1 k = _
        rw [sA 40 (by decide)]
        exact hT.2.2 k (by omega)
