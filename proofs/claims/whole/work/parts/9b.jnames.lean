section ZNL
variable {p : Program} {l : Launch} {e : Env} {R : Room} {s : State} {m : MethodId} {args : Array Value} {below : List Frame} {meth : Method} {c : Code} {Q : State → Prop} {N0 : Nat} {D : va_G} {cy : Nat → ClassId} {cc : ByteArray} {nL cells slots : Nat} {Ts : List Cond} {own : String} {S : zS} {lv : List (Nat × Value)} {pc : Nat} {rest : List Value}
theorem r_ifnullO (F : CallFix p m c cc nL s args Ts own) {x : Option Nat} {off : Int} {tgt : Nat} (hdg : decode cc pc = .ok (.ifnull off, 3)) (ht : (pc : Int) + off = (tgt : Int)) (kt : x = none → zW p l e R s m args below meth c Q N0 D cy nL cells slots S lv tgt rest) (kf : ∀ b, x = some b → zW p l e R s m args below meth c Q N0 D cy nL cells slots S lv (pc + 3) rest) : zW p l e R s m args below meth c Q N0 D cy nL cells slots S lv pc (va_rf x :: rest) := by
  cases x with
  | none => exact r_ifnullN F hdg ht (kt rfl)
  | some b => exact r_ifnull F hdg (kf b rfl)
theorem r_ifnonnullO (F : CallFix p m c cc nL s args Ts own) {x : Option Nat} {off : Int} {tgt : Nat} (hdg : decode cc pc = .ok (.ifnonnull off, 3)) (ht : (pc : Int) + off = (tgt : Int)) (kt : ∀ b, x = some b → zW p l e R s m args below meth c Q N0 D cy nL cells slots S lv tgt rest) (kf : x = none → zW p l e R s m args below meth c Q N0 D cy nL cells slots S lv (pc + 3) rest) : zW p l e R s m args below meth c Q N0 D cy nL cells slots S lv pc (va_rf x :: rest) := by
  cases x with
  | none => exact r_ifnonnullN F hdg (kf rfl)
  | some b => exact r_ifnonnull F hdg ht (kt b rfl)
end ZNL
abbrev cY (z : Nat) : Nat := 900 + 2 * z
/-- a row by names: the first of each among the symbols before B -/
def tbl (P : Nat → Nat → Bool) (row : Nat → Option Nat) (B : Nat) : Prop := ∀ nm, nm < 31 → row nm = (fnd (P nm) B).map cY
theorem tbl.hit {P : Nat → Nat → Bool} {row : Nat → Option Nat} {y n0 : Nat} (h : tbl P row y) (hn : n0 < 31) (h1 : P n0 y = true) (h2 : ∀ nm, nm ≠ n0 → nm < 31 → P nm y = false) : tbl P (if row n0 = none then va_up row n0 (some (cY y)) else row) (y + 1) := fun nm hnm => by
  by_cases e : nm = n0
  · subst e
    cases hf : fnd (P nm) y with
    | none =>
      have hr : row nm = none := by rw [h nm hnm, hf]; rfl
      rw [if_pos hr, va_up_self, fnd_t hf h1]
      rfl
    | some z =>
      have hr : row nm = some (cY z) := by rw [h nm hnm, hf]; rfl
      rw [if_neg (by rw [hr]; intro h9; cases h9), hr, fnd_s hf]
      rfl
  · have hb : (if row n0 = none then va_up row n0 (some (cY y)) else row) nm = row nm := by
      by_cases h9 : row n0 = none
      · rw [if_pos h9, va_up_ne _ _ e]
      · rw [if_neg h9]
    rw [hb, h nm hnm, fnd_f (h2 nm e hnm)]
theorem tbl.miss {P : Nat → Nat → Bool} {row : Nat → Option Nat} {y : Nat} (h : tbl P row y) (h2 : ∀ nm, nm < 31 → P nm y = false) : tbl P row (y + 1) := fun nm hnm => by rw [h nm hnm, fnd_f (h2 nm hnm)]
theorem tbl.gap {P : Nat → Nat → Bool} {row : Nat → Option Nat} {a b : Nat} (h : tbl P row a) (hab : a ≤ b) (h2 : ∀ nm x, a ≤ x → x < b → P nm x = false) : tbl P row b := fun nm hnm => by rw [h nm hnm, fnd_up hab (h2 nm)]
def nmS (v : zV) (W : zO) (B : Nat) : Prop := tbl (fun nm => yFi v (nI nm)) (orq W 16) B ∧ tbl (fun nm => ySt v (nI nm)) (orq W 18) B ∧ tbl (fun nm => yWk v (nI nm)) (orq W 20) B
set_option maxRecDepth 100000 in
set_option maxHeartbeats 4000000 in
theorem c_defines {l : Launch} {N0 t0 : Nat} {D : va_G} {cy : Nat → ClassId} {S : zS} {X : Nat → Prop} {S0 : zS} {ad : Nat → Nat} {W : zO} (hH : zH t0 X S0 ad W S) {v : zV} {y a : Nat} (hY : rpY v W y) (hy : y < 96) (ea : ad (cY y) = a) : zMi l yX8_defines (zws yX8_defines cX8_defines 1 (some .boolean)) { frames := 0, cells := 0, slots := 0, locals := 0 } N0 t0 D cy S [.ref a] (fun r S' => zbo r (¬ v.1 1217 y = -1) ∧ S' = S) 0 0 := by
  refine zMi.of (cc := cX8_defines) (maxL := 1) (ret := (some .boolean)) (by decide) rfl (Nat.le_of_ble_eq_true rfl) ?_
  intro p e s m args below meth c F G hr hlk hnm
  have A0 : zA S a 9 := hH.al hY.1 ea (kd_y y hy)
  have k9 : kd (cY y) < 13 := by rw [kd_y y hy]; decide
  have q4 := hH.q (id := 904) hY.1 ea k9
  have q5 := hH.q (id := 905) hY.1 ea k9
  rw [hY.2.2.2.2.2.2.1] at q4
  rw [hY.2.2.2.2.2.2.2] at q5
  by_cases hd : v.1 1217 y = -1
  · rw [if_neg (fun h9 => h9.2 hd)] at q4
    rw [if_neg (fun h9 => h9.2 hd)] at q5
    refine r_aload_n F dX8_defines_0 rfl ?_
    refine r_getq (ci := 9) (k := 4) (id := 904) (C := RX8) (T := TX8) (N := 8) F G rfl (by decide) (by decide) rfl (zinL inG9) (zin kf_X8_22) (fun _ h9 => h9) dX8_defines_1 A0 ?_
    rw [q4]
    refine r_ifnonnullN F dX8_defines_4 ?_
    refine r_aload_n F dX8_defines_7 rfl ?_
    refine r_getq (ci := 9) (k := 5) (id := 905) (C := RX8) (T := TX8) (N := 8) F G rfl (by decide) (by decide) rfl (zinL inG9) (zin kf_X8_26) (fun _ h9 => h9) dX8_defines_8 A0 ?_
    rw [q5]
    refine r_ifnullN (tgt := 18) F dX8_defines_11 (by decide) ?_
    refine r_iconst (v := 0) F dX8_defines_18 (by decide) ?_
    exact e_zret F hr rfl hlk ⟨zbo.n (fun h => h hd), rfl⟩ (by decide) (by decide) dX8_defines_19
  · by_cases hk : v.1 1215 y = 0
    · rw [if_pos ⟨hk, hd⟩] at q4
      refine r_aload_n F dX8_defines_0 rfl ?_
      refine r_getq (ci := 9) (k := 4) (id := 904) (C := RX8) (T := TX8) (N := 8) F G rfl (by decide) (by decide) rfl (zinL inG9) (zin kf_X8_22) (fun _ h9 => h9) dX8_defines_1 A0 ?_
      rw [q4]
      refine r_ifnonnull (tgt := 14) F dX8_defines_4 (by decide) ?_
      refine r_iconst (v := 1) F dX8_defines_14 (by decide) ?_
      refine r_goto (tgt := 19) F dX8_defines_15 (by decide) ?_
      exact e_zret F hr rfl hlk ⟨zbo.y hd, rfl⟩ (by decide) (by decide) dX8_defines_19
    · rw [if_neg (fun h9 => hk h9.1)] at q4
      rw [if_pos ⟨hk, hd⟩] at q5
      refine r_aload_n F dX8_defines_0 rfl ?_
      refine r_getq (ci := 9) (k := 4) (id := 904) (C := RX8) (T := TX8) (N := 8) F G rfl (by decide) (by decide) rfl (zinL inG9) (zin kf_X8_22) (fun _ h9 => h9) dX8_defines_1 A0 ?_
      rw [q4]
      refine r_ifnonnullN F dX8_defines_4 ?_
      refine r_aload_n F dX8_defines_7 rfl ?_
      refine r_getq (ci := 9) (k := 5) (id := 905) (C := RX8) (T := TX8) (N := 8) F G rfl (by decide) (by decide) rfl (zinL inG9) (zin kf_X8_26) (fun _ h9 => h9) dX8_defines_8 A0 ?_
      rw [q5]
      refine r_ifnull F dX8_defines_11 ?_
      refine r_iconst (v := 1) F dX8_defines_14 (by decide) ?_
      refine r_goto (tgt := 19) F dX8_defines_15 (by decide) ?_
      exact e_zret F hr rfl hlk ⟨zbo.y hd, rfl⟩ (by decide) (by decide) dX8_defines_19
theorem oRq_id {W : zO} {c : Nat} {f : Nat → Option Nat} (e : f = orq W c) : oRq W c f = W := by
  subst e
  funext b
  show va_up W c (W c) b = W b
  by_cases hb : b = c
  · subst hb
    rw [va_up_self]
  · rw [va_up_ne _ _ hb]
set_option maxRecDepth 100000 in
set_option maxHeartbeats 4000000 in
theorem c_noteFirst {l : Launch} {N0 t0 : Nat} {D : va_G} {cy : Nat → ClassId} {S : zS} {X : Nat → Prop} {S0 : zS} {ad : Nat → Nat} {W : zO} (hH : zH t0 X S0 ad W S) {d a x b n : Nat} (hd : oa W d) (ea : ad d = a) (hk : kd d = 18) (hN : onn W d = 31) (hx : oa W x) (eb : ad x = b) (hkx : kd x = 9) (hxe : x % 2 = 0) (hn : oi W x 901 = nI n) (hn31 : n < 31) : zMv l yX5_noteFirst (zws yX5_noteFirst cX5_noteFirst 2 none) { frames := 0, cells := 0, slots := 0, locals := 0 } N0 t0 D cy S [.ref a, .ref b] (fun S' => ∃ W', zH t0 X S0 ad W' S' ∧ W' = oRq W d (if orq W d n = none then va_up (orq W d) n (some x) else orq W d)) 0 0 := by
  refine zMv.of (cc := cX5_noteFirst) (maxL := 2) (ret := none) (by decide) rfl (Nat.le_of_ble_eq_true rfl) ?_
  intro p e s m args below meth c F G hr hlk hnm
  have B0 : zA S b 9 := hH.al hx eb hkx
  have I0 : zi S 901 b = nI n := (hH.i hx eb (by rw [hkx]; decide)).trans hn
  refine r_aload_n F dX5_noteFirst_0 rfl ?_
  refine r_aload_n F dX5_noteFirst_1 rfl ?_
  refine r_getiS (ci := 9) (k := 1) (id := 901) (C := RX8) (T := TX8) (N := 8) F G rfl (by decide) (by decide) rfl (zinL inG9) (zin kf_X5_41) (fun _ h9 => h9) dX5_noteFirst_2 B0 I0 ?_
  refine v_aldS F G hH hd ea hk (by omega) (by omega) dX5_noteFirst_5 ?_
  refine r_ifnonnullO (tgt := 16) F dX5_noteFirst_6 (by decide) (fun b1 hb1 => ?_) (fun hb1 => ?_)
  · have h9 : ¬ orq W d n = none := fun h9 => by rw [h9] at hb1; cases hb1
    exact e_vret F hr hlk ⟨W, hH, by rw [if_neg h9]; exact (oRq_id rfl).symm⟩ (by decide) (by decide) dX5_noteFirst_16
  · have h9 : orq W d n = none := by cases ho : orq W d n with | none => rfl | some z => rw [ho] at hb1; cases hb1
    refine r_aload_n F dX5_noteFirst_9 rfl ?_
    refine r_aload_n F dX5_noteFirst_10 rfl ?_
    refine r_getiS (ci := 9) (k := 1) (id := 901) (C := RX8) (T := TX8) (N := 8) F G rfl (by decide) (by decide) rfl (zinL inG9) (zin kf_X5_41) (fun _ h9 => h9) dX5_noteFirst_11 B0 I0 ?_
    refine r_aload_n F dX5_noteFirst_14 rfl ?_
    refine v_astS F G hH hd ea hx eb hkx hxe hk (by omega) (by omega) dX5_noteFirst_15 (fun S hH => ?_)
    exact e_vret F hr hlk ⟨_, hH, by rw [if_pos h9]⟩ (by decide) (by decide) dX5_noteFirst_16
theorem yFi_o {v : zV} {y n0 : Nat} (hn : v.1 1214 y = nI n0) (hn0 : n0 < 31) : ∀ nm, nm ≠ n0 → nm < 31 → yFi v (nI nm) y = false := fun nm h1 h2 => yFi_0 (Or.inr (Or.inr (fun h9 => h1 (by rw [hn, nI_eq (by omega) (by omega)] at h9; exact h9.symm))))
theorem ySt_o {v : zV} {y n0 : Nat} (hn : v.1 1214 y = nI n0) (hn0 : n0 < 31) : ∀ nm, nm ≠ n0 → nm < 31 → ySt v (nI nm) y = false := fun nm h1 h2 => ySt_0 (Or.inr (Or.inr (Or.inl (fun h9 => h1 (by rw [hn, nI_eq (by omega) (by omega)] at h9; exact h9.symm)))))
theorem yWk_o {v : zV} {y n0 : Nat} (hn : v.1 1214 y = nI n0) (hn0 : n0 < 31) : ∀ nm, nm ≠ n0 → nm < 31 → yWk v (nI nm) y = false := fun nm h1 h2 => yWk_0 (Or.inr (Or.inr (Or.inr (Or.inl (fun h9 => h1 (by rw [hn, nI_eq (by omega) (by omega)] at h9; exact h9.symm))))))
theorem nmS.gap {v : zV} {W : zO} {a b : Nat} (h : nmS v W a) (hab : a ≤ b) (hg : ∀ x, a ≤ x → x < b → ¬ x % 16 < cn v 1204 (x / 16)) : nmS v W b := ⟨h.1.gap hab (fun nm x h1 h2 => yFi_0 (Or.inl (hg x h1 h2))), h.2.1.gap hab (fun nm x h1 h2 => ySt_0 (Or.inl (hg x h1 h2))), h.2.2.gap hab (fun nm x h1 h2 => yWk_0 (Or.inl (hg x h1 h2)))⟩
set_option maxRecDepth 100000 in
set_option maxHeartbeats 4000000 in
theorem c_note {l : Launch} {N0 t0 : Nat} {D : va_G} {cy : Nat → ClassId} {S : zS} {X : Nat → Prop} {S0 : zS} {ad : Nat → Nat} {W : zO} (hH : zH t0 X S0 ad W S) {v : zV} {a b y : Nat} (hw : wr W) (a6 : oa W 6) (ea : ad 6 = a) (eb : ad (cY y) = b) (hY : rpY v W y) (hv : vRg v) (hy : y < 96) (ht : y % 16 < cn v 1204 (y / 16)) (hS6 : nmS v W y) : zMv l yX5_note (zws yX5_note cX5_note 2 none) { frames := 1, cells := 0, slots := 0, locals := 21 } N0 t0 D cy S [.ref a, .ref b] (fun S' => ∃ W', zH t0 X S0 ad W' S' ∧ wr W' ∧ nmS v W' (y + 1) ∧ ∀ d, d ≠ 16 → d ≠ 18 → d ≠ 20 → W' d = W d) 0 0 := by
  refine zMv.of (cc := cX5_note) (maxL := 2) (ret := none) (by decide) rfl (Nat.le_of_ble_eq_true rfl) ?_
  intro p e s m args below meth c F G hr hlk hnm
  have B0 : zA S b 9 := hH.al hY.1 eb (kd_y y hy)
  have k9 : kd (cY y) < 13 := by rw [kd_y y hy]; decide
  have I0 : zi S 903 b = v.1 1216 y := (hH.i hY.1 eb k9).trans hY.2.2.2.2.1
  have A0 : zA S a 6 := hH.al a6 ea rfl
  have hnm := rg_1214 hv hy
  obtain ⟨n0, en0⟩ : ∃ n0, cn v 1214 y = n0 := ⟨_, rfl⟩
  have hn0 : v.1 1214 y = nI n0 := by rw [← en0]; exact hnm.1
  have hn31 : n0 < 31 := by have := hnm.2; omega
  have a16 : oa W 16 := hw.a a6 (id := 600) (by decide) rfl
  have n16 : onn W 16 = 31 := hw.n a6 (id := 600) (by decide) rfl (by decide)
  have Q0 : zq S 600 a = some (ad 16) := hH.qS a6 ea (by decide) (hw.q a6 (by decide) rfl) rfl
  refine r_aload_n F dX5_note_0 rfl ?_
  refine r_getiS (ci := 9) (k := 3) (id := 903) (C := RX8) (T := TX8) (N := 8) F G rfl (by decide) (by decide) rfl (zinL inG9) (zin kf_X5_37) (fun _ h9 => h9) dX5_note_1 B0 I0 ?_
  refine r_iconst (v := 2) F dX5_note_4 (by decide) ?_
  refine r_icmp_ne (tgt := 9) F dX5_note_5 (by decide) (fun c5 => ?_) (fun c5 => ?_)
  · refine r_aload_n F dX5_note_9 rfl ?_
    refine r_getS (ci := 6) (k := 0) (id := 600) (C := RX5) (T := TX5) (N := 3) F G rfl (by decide) (by decide) rfl (zinL inG6) (zin kf_X5_11) (fun _ h9 => h9) dX5_note_10 A0 Q0 ?_
    refine r_aload_n F dX5_note_13 rfl ?_
    refine c_Sv F G (c_noteFirst hH (n := n0) a16 rfl rfl n16 hY.1 eb (kd_y y hy) (show (900 + 2 * y) % 2 = 0 by omega) (hY.2.2.1.trans hn0) hn31) (va_cwS 2 F.2.2.2.2 (zgS km_X5_52 ks_X5_noteFirst kn_X5 ko_X5_noteFirst) rfl rfl rfl hd_yX5_noteFirst ⟨Nat.le_of_ble_eq_true rfl, Nat.le_of_ble_eq_true rfl⟩) rfl rfl (Nat.le_of_ble_eq_true rfl) dX5_note_14 ⟨Nat.le_of_ble_eq_true rfl, Nat.le_of_ble_eq_true rfl⟩ (fun S14 h14 => ?_)
    obtain ⟨W1, hH, eW1⟩ := h14
    have w1 : ∀ d, d ≠ 16 → W1 d = W d := fun d hd => by rw [eW1]; exact va_up_ne _ _ hd
    have w16 : orq W1 16 = (if orq W 16 n0 = none then va_up (orq W 16) n0 (some (cY y)) else orq W 16) := by
      show (W1 16).2.2.2.2.2.2.2 = _
      rw [eW1]
      exact congrArg (fun e : zE => e.2.2.2.2.2.2.2) (va_up_self _ _ _)
    have hw1 : wr W1 := by rw [eW1]; exact hw.Rq a16
    have a61 : oa W1 6 := oa_eq (w1 6 (by decide)) a6
    have hYc : W1 (cY y) = W (cY y) := w1 _ (show 900 + 2 * y ≠ 16 by omega)
    have hY1 : rpY v W1 y := hY.same (fun _ _ => rfl) hYc
    have B1 : zA S14 b 9 := hH.al hY1.1 eb (kd_y y hy)
    have I1 : zi S14 903 b = v.1 1216 y := (hH.i hY1.1 eb k9).trans hY1.2.2.2.2.1
    have A1 : zA S14 a 6 := hH.al a61 ea rfl
    have f1 : tbl (fun nm => yFi v (nI nm)) (orq W1 16) (y + 1) := by rw [w16]; exact hS6.1.hit hn31 (yFi_t ht c5 hn0) (yFi_o hn0 hn31)
    have o18 : orq W1 18 = orq W 18 := by show (W1 18).2.2.2.2.2.2.2 = _; rw [w1 18 (by decide)]
    have o20 : orq W1 20 = orq W 20 := by show (W1 20).2.2.2.2.2.2.2 = _; rw [w1 20 (by decide)]
    refine r_aload_n F dX5_note_17 rfl ?_
    refine c_Vi (ci := 9) F G (c_defines hH hY1 hy eb) (cwV 0 F.2.2.2.2 (zgV km_X5_56 ki_X8_defines ke_X8_X8_defines kn_X8 ko_X8_defines) rfl rfl rfl ⟨rfl, hd_yX8_defines⟩ ⟨Nat.le_of_ble_eq_true rfl, Nat.le_of_ble_eq_true rfl⟩) rfl (by decide) B1 rfl rfl (Nat.le_of_ble_eq_true rfl) dX5_note_18 ⟨Nat.le_of_ble_eq_true rfl, Nat.le_of_ble_eq_true rfl⟩ (fun r18 S18 h18 => ?_)
    obtain ⟨a18, e18⟩ := h18
    have hs18 := e18.symm
    subst hs18
    refine r_if_eq (tgt := 46) F dX5_note_21 (by decide) (fun c21 => ?_) (fun c21 => ?_)
    · have hd := a18.f c21
      have hd1 : v.1 1217 y = -1 := Decidable.not_not.mp hd
      exact e_vret F hr hlk ⟨W1, hH, hw1, ⟨f1, by rw [o18]; exact hS6.2.1.miss (fun nm _ => ySt_0 (Or.inr (Or.inr (Or.inr hd1)))), by rw [o20]; exact hS6.2.2.miss (fun nm _ => yWk_0 (Or.inr (Or.inr (Or.inr (Or.inr hd1)))))⟩, fun d d1 _ _ => w1 d d1⟩ (by decide) (by decide) dX5_note_46
    · refine r_aload_n F dX5_note_24 rfl ?_
      refine r_getiS (ci := 9) (k := 3) (id := 903) (C := RX8) (T := TX8) (N := 8) F G rfl (by decide) (by decide) rfl (zinL inG9) (zin kf_X5_37) (fun _ h9 => h9) dX5_note_25 B1 I1 ?_
      refine r_if_ne (tgt := 38) F dX5_note_28 (by decide) (fun c28 => ?_) (fun c28 => ?_)
      · have aa20 : oa W1 20 := hw1.a a61 (id := 602) (by decide) rfl
        have n20 : onn W1 20 = 31 := hw1.n a61 (id := 602) (by decide) rfl (by decide)
        have Q1 : zq S14 602 a = some (ad 20) := hH.qS a61 ea (by decide) (hw1.q a61 (by decide) rfl) rfl
        refine r_aload_n F dX5_note_38 rfl ?_
        refine r_getS (ci := 6) (k := 2) (id := 602) (C := RX5) (T := TX5) (N := 3) F G rfl (by decide) (by decide) rfl (zinL inG6) (zin kf_X5_20) (fun _ h9 => h9) dX5_note_39 A1 Q1 ?_
        refine r_aload_n F dX5_note_42 rfl ?_
        refine c_Sv F G (c_noteFirst hH (n := n0) aa20 rfl rfl n20 hY1.1 eb (kd_y y hy) (show (900 + 2 * y) % 2 = 0 by omega) (hY1.2.2.1.trans hn0) hn31) (va_cwS 2 F.2.2.2.2 (zgS km_X5_52 ks_X5_noteFirst kn_X5 ko_X5_noteFirst) rfl rfl rfl hd_yX5_noteFirst ⟨Nat.le_of_ble_eq_true rfl, Nat.le_of_ble_eq_true rfl⟩) rfl rfl (Nat.le_of_ble_eq_true rfl) dX5_note_43 ⟨Nat.le_of_ble_eq_true rfl, Nat.le_of_ble_eq_true rfl⟩ (fun S43 h43 => ?_)
        obtain ⟨W2, hH, eW2⟩ := h43
        have w2 : ∀ d, d ≠ 20 → W2 d = W1 d := fun d hd => by rw [eW2]; exact va_up_ne _ _ hd
        have wc : orq W2 20 = (if orq W1 20 n0 = none then va_up (orq W1 20) n0 (some (cY y)) else orq W1 20) := by
          show (W2 20).2.2.2.2.2.2.2 = _
          rw [eW2]
          exact congrArg (fun e : zE => e.2.2.2.2.2.2.2) (va_up_self _ _ _)
        have wo : orq W2 18 = orq W1 18 := by show (W2 18).2.2.2.2.2.2.2 = _; rw [w2 18 (by decide)]
        have wf : orq W2 16 = orq W1 16 := by show (W2 16).2.2.2.2.2.2.2 = _; rw [w2 16 (by decide)]
        exact e_vret F hr hlk ⟨W2, hH, (by rw [eW2]; exact hw1.Rq aa20), ⟨by rw [wf]; exact f1, by rw [wo, o18]; exact hS6.2.1.miss (fun nm _ => ySt_0 (Or.inr (Or.inl c28))), by rw [wc, o20]; exact hS6.2.2.hit hn31 (yWk_t ht c28 c5 hn0 (a18.t c21)) (yWk_o hn0 hn31)⟩, fun d d1 d2 d3 => (w2 d d3).trans (w1 d d1)⟩ (by decide) (by decide) dX5_note_46
      · have aa18 : oa W1 18 := hw1.a a61 (id := 601) (by decide) rfl
        have n18 : onn W1 18 = 31 := hw1.n a61 (id := 601) (by decide) rfl (by decide)
        have Q1 : zq S14 601 a = some (ad 18) := hH.qS a61 ea (by decide) (hw1.q a61 (by decide) rfl) rfl
        refine r_aload_n F dX5_note_31 rfl ?_
        refine r_getS (ci := 6) (k := 1) (id := 601) (C := RX5) (T := TX5) (N := 3) F G rfl (by decide) (by decide) rfl (zinL inG6) (zin kf_X5_17) (fun _ h9 => h9) dX5_note_32 A1 Q1 ?_
        refine r_goto (tgt := 42) F dX5_note_35 (by decide) ?_
        refine r_aload_n F dX5_note_42 rfl ?_
        refine c_Sv F G (c_noteFirst hH (n := n0) aa18 rfl rfl n18 hY1.1 eb (kd_y y hy) (show (900 + 2 * y) % 2 = 0 by omega) (hY1.2.2.1.trans hn0) hn31) (va_cwS 2 F.2.2.2.2 (zgS km_X5_52 ks_X5_noteFirst kn_X5 ko_X5_noteFirst) rfl rfl rfl hd_yX5_noteFirst ⟨Nat.le_of_ble_eq_true rfl, Nat.le_of_ble_eq_true rfl⟩) rfl rfl (Nat.le_of_ble_eq_true rfl) dX5_note_43 ⟨Nat.le_of_ble_eq_true rfl, Nat.le_of_ble_eq_true rfl⟩ (fun S43 h43 => ?_)
        obtain ⟨W2, hH, eW2⟩ := h43
        have w2 : ∀ d, d ≠ 18 → W2 d = W1 d := fun d hd => by rw [eW2]; exact va_up_ne _ _ hd
        have wc : orq W2 18 = (if orq W1 18 n0 = none then va_up (orq W1 18) n0 (some (cY y)) else orq W1 18) := by
          show (W2 18).2.2.2.2.2.2.2 = _
          rw [eW2]
          exact congrArg (fun e : zE => e.2.2.2.2.2.2.2) (va_up_self _ _ _)
        have wo : orq W2 20 = orq W1 20 := by show (W2 20).2.2.2.2.2.2.2 = _; rw [w2 20 (by decide)]
        have wf : orq W2 16 = orq W1 16 := by show (W2 16).2.2.2.2.2.2.2 = _; rw [w2 16 (by decide)]
        exact e_vret F hr hlk ⟨W2, hH, (by rw [eW2]; exact hw1.Rq aa18), ⟨by rw [wf]; exact f1, by rw [wc, o18]; exact hS6.2.1.hit hn31 (ySt_t ht c28 hn0 (a18.t c21)) (ySt_o hn0 hn31), by rw [wo, o20]; exact hS6.2.2.miss (fun nm _ => yWk_0 (Or.inr (Or.inl c28)))⟩, fun d d1 d2 d3 => (w2 d d2).trans (w1 d d1)⟩ (by decide) (by decide) dX5_note_46
  · have hb2 : v.1 1216 y = 2 := c5
    exact e_vret F hr hlk ⟨W, hH, hw, ⟨hS6.1.miss (fun nm _ => yFi_0 (Or.inr (Or.inl hb2))), hS6.2.1.miss (fun nm _ => ySt_0 (Or.inr (Or.inl (by rw [hb2]; decide)))), hS6.2.2.miss (fun nm _ => yWk_0 (Or.inr (Or.inr (Or.inl hb2))))⟩, fun _ _ _ _ => rfl⟩ (by decide) (by decide) dX5_note_8
set_option maxRecDepth 100000 in
set_option maxHeartbeats 4000000 in
theorem c_definer {l : Launch} {N0 t0 : Nat} {D : va_G} {cy : Nat → ClassId} {S : zS} {X : Nat → Prop} {S0 : zS} {ad : Nat → Nat} {W : zO} (hH : zH t0 X S0 ad W S) {a n : Nat} (hw : wr W) (a6 : oa W 6) (ea : ad 6 = a) (hn31 : n < 31) : zMq l yX5_definer (zws yX5_definer cX5_definer 2 (some (.object "ObjectLinker$Symbol"))) { frames := 0, cells := 0, slots := 0, locals := 0 } N0 t0 D cy S [.ref a, .int (nI n)] (fun r S' => r = ((orq W 18 n).or (orq W 20 n)).map ad ∧ S' = S) 0 0 := by
  refine zMq.of (cc := cX5_definer) (maxL := 2) (ret := (some (.object "ObjectLinker$Symbol"))) (by decide) rfl (Nat.le_of_ble_eq_true rfl) ?_
  intro p e s m args below meth c F G hr hlk hnm
  have A0 : zA S a 6 := hH.al a6 ea rfl
  have a18 : oa W 18 := hw.a a6 (id := 601) (by decide) rfl
  have n18 : onn W 18 = 31 := hw.n a6 (id := 601) (by decide) rfl (by decide)
  have Q1 : zq S 601 a = some (ad 18) := hH.qS a6 ea (by decide) (hw.q a6 (by decide) rfl) rfl
  have a20 : oa W 20 := hw.a a6 (id := 602) (by decide) rfl
  have n20 : onn W 20 = 31 := hw.n a6 (id := 602) (by decide) rfl (by decide)
  have Q2 : zq S 602 a = some (ad 20) := hH.qS a6 ea (by decide) (hw.q a6 (by decide) rfl) rfl
  refine r_aload_n F dX5_definer_0 rfl ?_
  refine r_getS (ci := 6) (k := 1) (id := 601) (C := RX5) (T := TX5) (N := 3) F G rfl (by decide) (by decide) rfl (zinL inG6) (zin kf_X5_17) (fun _ h9 => h9) dX5_definer_1 A0 Q1 ?_
  refine r_iload_n F dX5_definer_4 rfl ?_
  refine v_aldS F G hH a18 rfl rfl (by omega) (by omega) dX5_definer_5 ?_
  refine r_ifnullO (tgt := 18) F dX5_definer_6 (by decide) (fun hb1 => ?_) (fun b1 hb1 => ?_)
  · have hz : orq W 18 n = none := by cases ho : orq W 18 n with | none => rfl | some z => rw [ho] at hb1; cases hb1
    refine r_aload_n F dX5_definer_18 rfl ?_
    refine r_getS (ci := 6) (k := 2) (id := 602) (C := RX5) (T := TX5) (N := 3) F G rfl (by decide) (by decide) rfl (zinL inG6) (zin kf_X5_20) (fun _ h9 => h9) dX5_definer_19 A0 Q2 ?_
    refine r_iload_n F dX5_definer_22 rfl ?_
    refine v_aldS F G hH a20 rfl rfl (by omega) (by omega) dX5_definer_23 ?_
    exact e_aret (v := (orq W 20 n).map ad) F hr (Or.inl ⟨_, rfl⟩) hlk ⟨by rw [hz]; rfl, rfl⟩ (by decide) (by decide) dX5_definer_24
  · obtain ⟨z, hz⟩ : ∃ z, orq W 18 n = some z := by cases ho : orq W 18 n with | some z => exact ⟨z, rfl⟩ | none => rw [ho] at hb1; cases hb1
    refine r_aload_n F dX5_definer_9 rfl ?_
    refine r_getS (ci := 6) (k := 1) (id := 601) (C := RX5) (T := TX5) (N := 3) F G rfl (by decide) (by decide) rfl (zinL inG6) (zin kf_X5_17) (fun _ h9 => h9) dX5_definer_10 A0 Q1 ?_
    refine r_iload_n F dX5_definer_13 rfl ?_
    refine v_aldS F G hH a18 rfl rfl (by omega) (by omega) dX5_definer_14 ?_
    refine r_goto (tgt := 24) F dX5_definer_15 (by decide) ?_
    exact e_aret (v := (orq W 18 n).map ad) F hr (Or.inl ⟨_, rfl⟩) hlk ⟨by rw [hz]; rfl, rfl⟩ (by decide) (by decide) dX5_definer_24
