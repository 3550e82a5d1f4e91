/-- the state of the check: blocks open, values; first words, elses, bases, leaves, dead -/
abbrev kS : Type := Int32 × Int32 × (Nat → Int32) × (Nat → Int32) × (Nat → Int32) × (Nat → Int32) × (Nat → Int32)
def wK (W : zO) (K : kS) : zO := fun c => if c = 8 then eI (eI (W 8) 205 K.1) 206 K.2.1 else if c = 22 then eRi (W 22) K.2.2.1 else if c = 24 then eRi (W 24) K.2.2.2.1 else if c = 26 then eRi (W 26) K.2.2.2.2.1 else if c = 28 then eRi (W 28) K.2.2.2.2.2.1 else if c = 30 then eRi (W 30) K.2.2.2.2.2.2 else W c
theorem wK_n {W : zO} {K : kS} {c : Nat} (h : c ≠ 8 ∧ c ≠ 22 ∧ c ≠ 24 ∧ c ≠ 26 ∧ c ≠ 28 ∧ c ≠ 30) : wK W K c = W c := by
  unfold wK
  rw [if_neg h.1, if_neg h.2.1, if_neg h.2.2.1, if_neg h.2.2.2.1, if_neg h.2.2.2.2.1, if_neg h.2.2.2.2.2]
theorem wK_c {W : zO} {K : kS} (c : Nat) : (wK W K c).1 = (W c).1 ∧ (wK W K c).2.2.1 = (W c).2.2.1 ∧ (wK W K c).2.2.2.2.1 = (W c).2.2.2.2.1 := by
  by_cases h1 : c = 8
  · subst h1; exact ⟨rfl, rfl, rfl⟩
  · by_cases h2 : c = 22
    · subst h2; exact ⟨rfl, rfl, rfl⟩
    · by_cases h3 : c = 24
      · subst h3; exact ⟨rfl, rfl, rfl⟩
      · by_cases h4 : c = 26
        · subst h4; exact ⟨rfl, rfl, rfl⟩
        · by_cases h5 : c = 28
          · subst h5; exact ⟨rfl, rfl, rfl⟩
          · by_cases h6 : c = 30
            · subst h6; exact ⟨rfl, rfl, rfl⟩
            · rw [wK_n ⟨h1, h2, h3, h4, h5, h6⟩]; exact ⟨rfl, rfl, rfl⟩
theorem wK_a {W : zO} {K : kS} {c : Nat} : oa (wK W K) c ↔ oa W c := by
  show (wK W K c).1 ↔ _
  rw [(wK_c c).1]
theorem wK_wr {W : zO} {K : kS} (h : wr W) : wr (wK W K) := fun id hid c hc hk => by
  obtain ⟨h1, h2, h3, h4⟩ := h id hid c (wK_a.mp hc) hk
  exact ⟨by show (wK W K c).2.2.1 id = _; rw [(wK_c c).2.1]; exact h1, wK_a.mpr h2, fun h9 => by show (wK W K (wd id c)).2.2.2.2.1 = _; rw [(wK_c _).2.2]; exact h3 h9, h4⟩
theorem zE_ext {a b : zE} (h1 : a.1 = b.1) (h2 : a.2.1 = b.2.1) (h3 : a.2.2 = b.2.2) : a = b := by
  obtain ⟨a1, a2, a3⟩ := a
  obtain ⟨b1, b2, b3⟩ := b
  cases h1; cases h2; cases h3
  rfl
theorem wK_o {W : zO} {K : kS} {x : Int32} : oI (wK W K) 8 205 x = wK W (x, K.2) := by
  funext c
  by_cases h1 : c = 8
  · subst h1
    refine (va_up_self _ _ _).trans (zE_ext rfl ?_ rfl)
    funext j
    show va_up (va_up (va_up (W 8).2.1 205 K.1) 206 K.2.1) 205 x j = va_up (va_up (W 8).2.1 205 x) 206 K.2.1 j
    unfold va_up
    by_cases e1 : j = 205
    · subst e1; rfl
    · by_cases e2 : j = 206
      · subst e2; rfl
      · rw [if_neg e1, if_neg e2, if_neg e1, if_neg e2, if_neg e1]
  · exact (va_up_ne _ _ h1).trans (by unfold wK; rw [if_neg h1, if_neg h1])
theorem wK_h {W : zO} {K : kS} {x : Int32} : oI (wK W K) 8 206 x = wK W (K.1, x, K.2.2) := by
  funext c
  by_cases h1 : c = 8
  · subst h1
    refine (va_up_self _ _ _).trans (zE_ext rfl ?_ rfl)
    funext j
    show va_up (va_up (va_up (W 8).2.1 205 K.1) 206 K.2.1) 206 x j = va_up (va_up (W 8).2.1 205 K.1) 206 x j
    unfold va_up
    by_cases e2 : j = 206
    · subst e2; rfl
    · rw [if_neg e2, if_neg e2, if_neg e2]
  · exact (va_up_ne _ _ h1).trans (by unfold wK; rw [if_neg h1, if_neg h1])
theorem wK_22 {W : zO} {K : kS} {f : Nat → Int32} : oRi (wK W K) 22 f = wK W (K.1, K.2.1, f, K.2.2.2) := by
  funext c
  by_cases h1 : c = 22
  · subst h1
    exact (va_up_self _ _ _).trans rfl
  · refine (va_up_ne _ _ h1).trans ?_
    unfold wK
    simp only [if_neg h1]
theorem wK_24 {W : zO} {K : kS} {f : Nat → Int32} : oRi (wK W K) 24 f = wK W (K.1, K.2.1, K.2.2.1, f, K.2.2.2.2) := by
  funext c
  by_cases h1 : c = 24
  · subst h1
    exact (va_up_self _ _ _).trans rfl
  · refine (va_up_ne _ _ h1).trans ?_
    unfold wK
    simp only [if_neg h1]
theorem wK_26 {W : zO} {K : kS} {f : Nat → Int32} : oRi (wK W K) 26 f = wK W (K.1, K.2.1, K.2.2.1, K.2.2.2.1, f, K.2.2.2.2.2) := by
  funext c
  by_cases h1 : c = 26
  · subst h1
    exact (va_up_self _ _ _).trans rfl
  · refine (va_up_ne _ _ h1).trans ?_
    unfold wK
    simp only [if_neg h1]
theorem wK_28 {W : zO} {K : kS} {f : Nat → Int32} : oRi (wK W K) 28 f = wK W (K.1, K.2.1, K.2.2.1, K.2.2.2.1, K.2.2.2.2.1, f, K.2.2.2.2.2.2) := by
  funext c
  by_cases h1 : c = 28
  · subst h1
    exact (va_up_self _ _ _).trans rfl
  · refine (va_up_ne _ _ h1).trans ?_
    unfold wK
    simp only [if_neg h1]
theorem wK_30 {W : zO} {K : kS} {f : Nat → Int32} : oRi (wK W K) 30 f = wK W (K.1, K.2.1, K.2.2.1, K.2.2.2.1, K.2.2.2.2.1, K.2.2.2.2.2.1, f) := by
  funext c
  by_cases h1 : c = 30
  · subst h1
    exact (va_up_self _ _ _).trans rfl
  · refine (va_up_ne _ _ h1).trans ?_
    unfold wK
    simp only [if_neg h1]
theorem wK_out {W : zO} {K : kS} {c : Nat} {f : Nat → Int32} (h : c ≠ 8 ∧ c ≠ 22 ∧ c ≠ 24 ∧ c ≠ 26 ∧ c ≠ 28 ∧ c ≠ 30) : oRi (wK W K) c f = wK (oRi W c f) K := by
  funext d
  by_cases e : d = c
  · subst e
    rw [wK_n h]
    exact (va_up_self _ _ _).trans ((congrArg (fun e => eRi e f) (wK_n h)).trans (va_up_self _ _ _).symm)
  · refine (va_up_ne _ _ e).trans ?_
    unfold wK
    rw [show oRi W c f 8 = W 8 from va_up_ne _ _ (fun q => h.1 q.symm), show oRi W c f 22 = W 22 from va_up_ne _ _ (fun q => h.2.1 q.symm), show oRi W c f 24 = W 24 from va_up_ne _ _ (fun q => h.2.2.1 q.symm), show oRi W c f 26 = W 26 from va_up_ne _ _ (fun q => h.2.2.2.1 q.symm), show oRi W c f 28 = W 28 from va_up_ne _ _ (fun q => h.2.2.2.2.1 q.symm), show oRi W c f 30 = W 30 from va_up_ne _ _ (fun q => h.2.2.2.2.2 q.symm), show oRi W c f d = W d from va_up_ne _ _ e]
set_option maxRecDepth 100000 in
set_option maxHeartbeats 4000000 in
theorem c_kpop {l : Launch} {N0 t0 : Nat} {D : va_G} {cy : Nat → ClassId} {S : zS} {X : Nat → Prop} {S0 : zS} {ad : Nat → Nat} {W : zO} {K : kS} (hw : wr W) (a8 : oa W 8) (hH : zH t0 X S0 ad (wK W K) S) {t h b : Nat} {dd : Bool} (hT : K.1 = nI t) (t61 : t < 61) (hHt : K.2.1 = nI h) (hBt : K.2.2.2.2.1 t = nI b) (hbh : b ≤ h) (hh30 : h < 2 ^ 30) (hDt : K.2.2.2.2.2.2 t = if dd then 1 else 0) {w : Nat} (hw30 : w < 2 ^ 30) : zMi l yX1_pop (zws yX1_pop cX1_pop 3 (some .boolean)) { frames := 0, cells := 0, slots := 0, locals := 0 } N0 t0 D cy S [.ref (ad 8), .int (nI w)] (fun r S' => r = (if w ≤ h - b ∨ dd = true then 1 else 0) ∧ zH t0 X S0 ad (wK W (K.1, nI (if w ≤ h - b then h - w else b), K.2.2)) S') 0 0 := by
  refine zMi.of (cc := cX1_pop) (maxL := 3) (ret := (some .boolean)) (by decide) rfl (Nat.le_of_ble_eq_true rfl) ?_
  intro p e s m args below meth c F G hr hlk hnm
  have a8k : oa (wK W K) 8 := wK_a.mpr a8
  have A8 : zA S (ad 8) 2 := hH.al a8k rfl rfl
  have JO : zi S 205 (ad 8) = (K).1 := hH.i a8k rfl (by decide)
  have IH : zi S 206 (ad 8) = (K).2.1 := hH.i a8k rfl (by decide)
  have Q22 : zq S 200 (ad 8) = some (ad 22) := hH.qS a8k rfl (by decide) ((wK_wr hw).q a8k (by decide) rfl) rfl
  have a22 : oa (wK W K) 22 := (wK_wr hw).a a8k (id := 200) (by decide) rfl
  have n22 : onn (wK W K) 22 = 61 := (wK_wr hw).n a8k (id := 200) (by decide) rfl (by decide)
  have Q24 : zq S 201 (ad 8) = some (ad 24) := hH.qS a8k rfl (by decide) ((wK_wr hw).q a8k (by decide) rfl) rfl
  have a24 : oa (wK W K) 24 := (wK_wr hw).a a8k (id := 201) (by decide) rfl
  have n24 : onn (wK W K) 24 = 61 := (wK_wr hw).n a8k (id := 201) (by decide) rfl (by decide)
  have Q26 : zq S 202 (ad 8) = some (ad 26) := hH.qS a8k rfl (by decide) ((wK_wr hw).q a8k (by decide) rfl) rfl
  have a26 : oa (wK W K) 26 := (wK_wr hw).a a8k (id := 202) (by decide) rfl
  have n26 : onn (wK W K) 26 = 61 := (wK_wr hw).n a8k (id := 202) (by decide) rfl (by decide)
  have Q28 : zq S 203 (ad 8) = some (ad 28) := hH.qS a8k rfl (by decide) ((wK_wr hw).q a8k (by decide) rfl) rfl
  have a28 : oa (wK W K) 28 := (wK_wr hw).a a8k (id := 203) (by decide) rfl
  have n28 : onn (wK W K) 28 = 61 := (wK_wr hw).n a8k (id := 203) (by decide) rfl (by decide)
  have Q30 : zq S 204 (ad 8) = some (ad 30) := hH.qS a8k rfl (by decide) ((wK_wr hw).q a8k (by decide) rfl) rfl
  have a30 : oa (wK W K) 30 := (wK_wr hw).a a8k (id := 204) (by decide) rfl
  have n30 : onn (wK W K) 30 = 61 := (wK_wr hw).n a8k (id := 204) (by decide) rfl (by decide)
  rw [hT] at JO
  rw [hHt] at IH
  refine r_aload_n F dX1_pop_0 rfl ?_
  refine r_getiS (ci := 2) (k := 6) (id := 206) (C := RX1) (T := TX1) (N := 7) F G rfl (by decide) (by decide) rfl (zinL inG2) (zin kf_X1_51) (fun _ h9 => h9) dX1_pop_1 A8 IH ?_
  refine r_aload_n F dX1_pop_4 rfl ?_
  refine r_getS (ci := 2) (k := 2) (id := 202) (C := RX1) (T := TX1) (N := 7) F G rfl (by decide) (by decide) rfl (zinL inG2) (zin kf_X1_18) (fun _ h9 => h9) dX1_pop_5 A8 Q26 ?_
  refine r_aload_n F dX1_pop_8 rfl ?_
  refine r_getiS (ci := 2) (k := 5) (id := 205) (C := RX1) (T := TX1) (N := 7) F G rfl (by decide) (by decide) rfl (zinL inG2) (zin kf_X1_48) (fun _ h9 => h9) dX1_pop_9 A8 JO ?_
  refine v_iald F G hH (n := t) a26 rfl rfl (by omega) (by omega) dX1_pop_12 ?_
  rw [show ori (wK W K) 26 t = nI b from hBt]
  refine r_isub F dX1_pop_13 ?_
  rw [nI_sub hbh]
  refine r_iload_n F dX1_pop_14 rfl ?_
  refine r_icmp_lt (tgt := 22) F dX1_pop_15 (by decide) (fun c15 => ?_) (fun c15 => ?_)
  · refine r_iconst (v := 0) F dX1_pop_22 (by decide) ?_
    refine r_istore_n F dX1_pop_23 (by decide) ?_
    refine r_aload_n F dX1_pop_24 rfl ?_
    refine r_iload_n F dX1_pop_25 rfl ?_
    refine r_if_eq (tgt := 38) F dX1_pop_26 (by decide) (fun _ => ?_) (fun h9 => absurd rfl h9)
    refine r_aload_n F dX1_pop_38 rfl ?_
    refine r_getS (ci := 2) (k := 2) (id := 202) (C := RX1) (T := TX1) (N := 7) F G rfl (by decide) (by decide) rfl (zinL inG2) (zin kf_X1_18) (fun _ h9 => h9) dX1_pop_39 A8 Q26 ?_
    refine r_aload_n F dX1_pop_42 rfl ?_
    refine r_getiS (ci := 2) (k := 5) (id := 205) (C := RX1) (T := TX1) (N := 7) F G rfl (by decide) (by decide) rfl (zinL inG2) (zin kf_X1_48) (fun _ h9 => h9) dX1_pop_43 A8 JO ?_
    refine v_iald F G hH (n := t) a26 rfl rfl (by omega) (by omega) dX1_pop_46 ?_
    rw [show ori (wK W K) 26 t = nI b from hBt]
    have c9 := c15
    rw [nI_ltI (by omega) (by omega)] at c9
    have e1 : nI b = nI (if w ≤ h - b then h - w else b) := by
      rw [if_neg (by omega)]
    rw [e1]
    refine r_puti (ci := 2) (k := 6) (id := 206) (C := RX1) (T := TX1) (N := 7) (ty := .int) (ty0 := tyX1) F G rfl (by decide) (by decide) rfl (zinL inG2) (zin kf_X1_51) (fun _ h9 => h9) tyX1_ok nmX1 rfl pd2_6 rfl rfl dX1_pop_47 A8 ?_
    refine zgen (P := zH t0 X S0 ad (wK W (K.1, nI (if w ≤ h - b then h - w else b), K.2.2))) (by rw [← wK_h]; exact hH.pi a8k rfl rfl (by decide) _) (fun S hH => ?_)
    clear A8 JO IH Q22 Q24 Q26 Q28 Q30
    have a8k : oa (wK W (K.1, nI (if w ≤ h - b then h - w else b), K.2.2)) 8 := wK_a.mpr a8
    have A8 : zA S (ad 8) 2 := hH.al a8k rfl rfl
    have JO : zi S 205 (ad 8) = ((K.1, nI (if w ≤ h - b then h - w else b), K.2.2)).1 := hH.i a8k rfl (by decide)
    have IH : zi S 206 (ad 8) = ((K.1, nI (if w ≤ h - b then h - w else b), K.2.2)).2.1 := hH.i a8k rfl (by decide)
    have Q22 : zq S 200 (ad 8) = some (ad 22) := hH.qS a8k rfl (by decide) ((wK_wr hw).q a8k (by decide) rfl) rfl
    have a22 : oa (wK W (K.1, nI (if w ≤ h - b then h - w else b), K.2.2)) 22 := (wK_wr hw).a a8k (id := 200) (by decide) rfl
    have n22 : onn (wK W (K.1, nI (if w ≤ h - b then h - w else b), K.2.2)) 22 = 61 := (wK_wr hw).n a8k (id := 200) (by decide) rfl (by decide)
    have Q24 : zq S 201 (ad 8) = some (ad 24) := hH.qS a8k rfl (by decide) ((wK_wr hw).q a8k (by decide) rfl) rfl
    have a24 : oa (wK W (K.1, nI (if w ≤ h - b then h - w else b), K.2.2)) 24 := (wK_wr hw).a a8k (id := 201) (by decide) rfl
    have n24 : onn (wK W (K.1, nI (if w ≤ h - b then h - w else b), K.2.2)) 24 = 61 := (wK_wr hw).n a8k (id := 201) (by decide) rfl (by decide)
    have Q26 : zq S 202 (ad 8) = some (ad 26) := hH.qS a8k rfl (by decide) ((wK_wr hw).q a8k (by decide) rfl) rfl
    have a26 : oa (wK W (K.1, nI (if w ≤ h - b then h - w else b), K.2.2)) 26 := (wK_wr hw).a a8k (id := 202) (by decide) rfl
    have n26 : onn (wK W (K.1, nI (if w ≤ h - b then h - w else b), K.2.2)) 26 = 61 := (wK_wr hw).n a8k (id := 202) (by decide) rfl (by decide)
    have Q28 : zq S 203 (ad 8) = some (ad 28) := hH.qS a8k rfl (by decide) ((wK_wr hw).q a8k (by decide) rfl) rfl
    have a28 : oa (wK W (K.1, nI (if w ≤ h - b then h - w else b), K.2.2)) 28 := (wK_wr hw).a a8k (id := 203) (by decide) rfl
    have n28 : onn (wK W (K.1, nI (if w ≤ h - b then h - w else b), K.2.2)) 28 = 61 := (wK_wr hw).n a8k (id := 203) (by decide) rfl (by decide)
    have Q30 : zq S 204 (ad 8) = some (ad 30) := hH.qS a8k rfl (by decide) ((wK_wr hw).q a8k (by decide) rfl) rfl
    have a30 : oa (wK W (K.1, nI (if w ≤ h - b then h - w else b), K.2.2)) 30 := (wK_wr hw).a a8k (id := 204) (by decide) rfl
    have n30 : onn (wK W (K.1, nI (if w ≤ h - b then h - w else b), K.2.2)) 30 = 61 := (wK_wr hw).n a8k (id := 204) (by decide) rfl (by decide)
    have JO2 : zi S 205 (ad 8) = nI t := JO.trans hT
    clear JO
    have JO := JO2
    refine r_iload_n F dX1_pop_50 rfl ?_
    refine r_if_ne (tgt := 66) F dX1_pop_51 (by decide) (fun h9 => absurd rfl h9) (fun _ => ?_)
    refine r_aload_n F dX1_pop_54 rfl ?_
    refine r_getS (ci := 2) (k := 4) (id := 204) (C := RX1) (T := TX1) (N := 7) F G rfl (by decide) (by decide) rfl (zinL inG2) (zin kf_X1_24) (fun _ h9 => h9) dX1_pop_55 A8 Q30 ?_
    refine r_aload_n F dX1_pop_58 rfl ?_
    refine r_getiS (ci := 2) (k := 5) (id := 205) (C := RX1) (T := TX1) (N := 7) F G rfl (by decide) (by decide) rfl (zinL inG2) (zin kf_X1_48) (fun _ h9 => h9) dX1_pop_59 A8 JO ?_
    refine v_zald F G hH (n := t) a30 rfl rfl (by omega) (by omega) dX1_pop_62 ?_
    refine r_if_eq (tgt := 70) F dX1_pop_63 (by decide) (fun c63 => ?_) (fun c63 => ?_)
    · refine r_iconst (v := 0) F dX1_pop_70 (by decide) ?_
      exact e_zret F hr rfl hlk ⟨(if_neg (fun h9 => h9.elim (fun q => by omega) (fun q => by rw [db0 hDt c63] at q; cases q))).symm, hH⟩ (by decide) (by decide) dX1_pop_71
    · refine r_iconst (v := 1) F dX1_pop_66 (by decide) ?_
      refine r_goto (tgt := 71) F dX1_pop_67 (by decide) ?_
      exact e_zret F hr rfl hlk ⟨(if_pos (Or.inr (db1 hDt c63))).symm, hH⟩ (by decide) (by decide) dX1_pop_71
  · refine r_iconst (v := 1) F dX1_pop_18 (by decide) ?_
    refine r_goto (tgt := 23) F dX1_pop_19 (by decide) ?_
    refine r_istore_n F dX1_pop_23 (by decide) ?_
    refine r_aload_n F dX1_pop_24 rfl ?_
    refine r_iload_n F dX1_pop_25 rfl ?_
    refine r_if_eq (tgt := 38) F dX1_pop_26 (by decide) (fun h9 => absurd h9 (by decide)) (fun _ => ?_)
    refine r_aload_n F dX1_pop_29 rfl ?_
    refine r_getiS (ci := 2) (k := 6) (id := 206) (C := RX1) (T := TX1) (N := 7) F G rfl (by decide) (by decide) rfl (zinL inG2) (zin kf_X1_51) (fun _ h9 => h9) dX1_pop_30 A8 IH ?_
    refine r_iload_n F dX1_pop_33 rfl ?_
    refine r_isub F dX1_pop_34 ?_
    refine r_goto (tgt := 47) F dX1_pop_35 (by decide) ?_
    have c9 := c15
    rw [nI_ltI (by omega) (by omega)] at c9
    have e1 : nI h - nI w = nI (if w ≤ h - b then h - w else b) := by
      rw [if_pos (by omega), nI_sub (by omega)]
    rw [e1]
    refine r_puti (ci := 2) (k := 6) (id := 206) (C := RX1) (T := TX1) (N := 7) (ty := .int) (ty0 := tyX1) F G rfl (by decide) (by decide) rfl (zinL inG2) (zin kf_X1_51) (fun _ h9 => h9) tyX1_ok nmX1 rfl pd2_6 rfl rfl dX1_pop_47 A8 ?_
    refine zgen (P := zH t0 X S0 ad (wK W (K.1, nI (if w ≤ h - b then h - w else b), K.2.2))) (by rw [← wK_h]; exact hH.pi a8k rfl rfl (by decide) _) (fun S hH => ?_)
    clear A8 JO IH Q22 Q24 Q26 Q28 Q30
    have a8k : oa (wK W (K.1, nI (if w ≤ h - b then h - w else b), K.2.2)) 8 := wK_a.mpr a8
    have A8 : zA S (ad 8) 2 := hH.al a8k rfl rfl
    have JO : zi S 205 (ad 8) = ((K.1, nI (if w ≤ h - b then h - w else b), K.2.2)).1 := hH.i a8k rfl (by decide)
    have IH : zi S 206 (ad 8) = ((K.1, nI (if w ≤ h - b then h - w else b), K.2.2)).2.1 := hH.i a8k rfl (by decide)
    have Q22 : zq S 200 (ad 8) = some (ad 22) := hH.qS a8k rfl (by decide) ((wK_wr hw).q a8k (by decide) rfl) rfl
    have a22 : oa (wK W (K.1, nI (if w ≤ h - b then h - w else b), K.2.2)) 22 := (wK_wr hw).a a8k (id := 200) (by decide) rfl
    have n22 : onn (wK W (K.1, nI (if w ≤ h - b then h - w else b), K.2.2)) 22 = 61 := (wK_wr hw).n a8k (id := 200) (by decide) rfl (by decide)
    have Q24 : zq S 201 (ad 8) = some (ad 24) := hH.qS a8k rfl (by decide) ((wK_wr hw).q a8k (by decide) rfl) rfl
    have a24 : oa (wK W (K.1, nI (if w ≤ h - b then h - w else b), K.2.2)) 24 := (wK_wr hw).a a8k (id := 201) (by decide) rfl
    have n24 : onn (wK W (K.1, nI (if w ≤ h - b then h - w else b), K.2.2)) 24 = 61 := (wK_wr hw).n a8k (id := 201) (by decide) rfl (by decide)
    have Q26 : zq S 202 (ad 8) = some (ad 26) := hH.qS a8k rfl (by decide) ((wK_wr hw).q a8k (by decide) rfl) rfl
    have a26 : oa (wK W (K.1, nI (if w ≤ h - b then h - w else b), K.2.2)) 26 := (wK_wr hw).a a8k (id := 202) (by decide) rfl
    have n26 : onn (wK W (K.1, nI (if w ≤ h - b then h - w else b), K.2.2)) 26 = 61 := (wK_wr hw).n a8k (id := 202) (by decide) rfl (by decide)
    have Q28 : zq S 203 (ad 8) = some (ad 28) := hH.qS a8k rfl (by decide) ((wK_wr hw).q a8k (by decide) rfl) rfl
    have a28 : oa (wK W (K.1, nI (if w ≤ h - b then h - w else b), K.2.2)) 28 := (wK_wr hw).a a8k (id := 203) (by decide) rfl
    have n28 : onn (wK W (K.1, nI (if w ≤ h - b then h - w else b), K.2.2)) 28 = 61 := (wK_wr hw).n a8k (id := 203) (by decide) rfl (by decide)
    have Q30 : zq S 204 (ad 8) = some (ad 30) := hH.qS a8k rfl (by decide) ((wK_wr hw).q a8k (by decide) rfl) rfl
    have a30 : oa (wK W (K.1, nI (if w ≤ h - b then h - w else b), K.2.2)) 30 := (wK_wr hw).a a8k (id := 204) (by decide) rfl
    have n30 : onn (wK W (K.1, nI (if w ≤ h - b then h - w else b), K.2.2)) 30 = 61 := (wK_wr hw).n a8k (id := 204) (by decide) rfl (by decide)
    have JO2 : zi S 205 (ad 8) = nI t := JO.trans hT
    clear JO
    have JO := JO2
    refine r_iload_n F dX1_pop_50 rfl ?_
    refine r_if_ne (tgt := 66) F dX1_pop_51 (by decide) (fun _ => ?_) (fun h9 => absurd h9 (by decide))
    refine r_iconst (v := 1) F dX1_pop_66 (by decide) ?_
    refine r_goto (tgt := 71) F dX1_pop_67 (by decide) ?_
    exact e_zret F hr rfl hlk ⟨(if_pos (Or.inl (by omega))).symm, hH⟩ (by decide) (by decide) dX1_pop_71
set_option maxRecDepth 100000 in
set_option maxHeartbeats 4000000 in
theorem c_kcloses {l : Launch} {N0 t0 : Nat} {D : va_G} {cy : Nat → ClassId} {S : zS} {X : Nat → Prop} {S0 : zS} {ad : Nat → Nat} {W : zO} {K : kS} (hw : wr W) (a8 : oa W 8) (hH : zH t0 X S0 ad (wK W K) S) {t h b : Nat} {dd : Bool} (hT : K.1 = nI t) (t61 : t < 61) (hHt : K.2.1 = nI h) (hBt : K.2.2.2.2.1 t = nI b) (hbh : b ≤ h) (hh30 : h < 2 ^ 30) (hDt : K.2.2.2.2.2.2 t = if dd then 1 else 0) {w : Nat} (hw30 : w < 2 ^ 30) (hLt : K.2.2.2.2.2.1 t = nI w) : zMi l yX1_closes (zws yX1_closes cX1_closes 2 (some .boolean)) { frames := 0, cells := 0, slots := 0, locals := 0 } N0 t0 D cy S [.ref (ad 8)] (fun r S' => r = (if (h - b = w ∨ (dd = true ∧ h - b < w)) then 1 else 0) ∧ zH t0 X S0 ad (wK W (K.1, nI b, K.2.2)) S') 0 0 := by
  refine zMi.of (cc := cX1_closes) (maxL := 2) (ret := (some .boolean)) (by decide) rfl (Nat.le_of_ble_eq_true rfl) ?_
  intro p e s m args below meth c F G hr hlk hnm
  have a8k : oa (wK W K) 8 := wK_a.mpr a8
  have A8 : zA S (ad 8) 2 := hH.al a8k rfl rfl
  have JO : zi S 205 (ad 8) = (K).1 := hH.i a8k rfl (by decide)
  have IH : zi S 206 (ad 8) = (K).2.1 := hH.i a8k rfl (by decide)
  have Q22 : zq S 200 (ad 8) = some (ad 22) := hH.qS a8k rfl (by decide) ((wK_wr hw).q a8k (by decide) rfl) rfl
  have a22 : oa (wK W K) 22 := (wK_wr hw).a a8k (id := 200) (by decide) rfl
  have n22 : onn (wK W K) 22 = 61 := (wK_wr hw).n a8k (id := 200) (by decide) rfl (by decide)
  have Q24 : zq S 201 (ad 8) = some (ad 24) := hH.qS a8k rfl (by decide) ((wK_wr hw).q a8k (by decide) rfl) rfl
  have a24 : oa (wK W K) 24 := (wK_wr hw).a a8k (id := 201) (by decide) rfl
  have n24 : onn (wK W K) 24 = 61 := (wK_wr hw).n a8k (id := 201) (by decide) rfl (by decide)
  have Q26 : zq S 202 (ad 8) = some (ad 26) := hH.qS a8k rfl (by decide) ((wK_wr hw).q a8k (by decide) rfl) rfl
  have a26 : oa (wK W K) 26 := (wK_wr hw).a a8k (id := 202) (by decide) rfl
  have n26 : onn (wK W K) 26 = 61 := (wK_wr hw).n a8k (id := 202) (by decide) rfl (by decide)
  have Q28 : zq S 203 (ad 8) = some (ad 28) := hH.qS a8k rfl (by decide) ((wK_wr hw).q a8k (by decide) rfl) rfl
  have a28 : oa (wK W K) 28 := (wK_wr hw).a a8k (id := 203) (by decide) rfl
  have n28 : onn (wK W K) 28 = 61 := (wK_wr hw).n a8k (id := 203) (by decide) rfl (by decide)
  have Q30 : zq S 204 (ad 8) = some (ad 30) := hH.qS a8k rfl (by decide) ((wK_wr hw).q a8k (by decide) rfl) rfl
  have a30 : oa (wK W K) 30 := (wK_wr hw).a a8k (id := 204) (by decide) rfl
  have n30 : onn (wK W K) 30 = 61 := (wK_wr hw).n a8k (id := 204) (by decide) rfl (by decide)
  rw [hT] at JO
  rw [hHt] at IH
  refine r_aload_n F dX1_closes_0 rfl ?_
  refine r_getiS (ci := 2) (k := 6) (id := 206) (C := RX1) (T := TX1) (N := 7) F G rfl (by decide) (by decide) rfl (zinL inG2) (zin kf_X1_51) (fun _ h9 => h9) dX1_closes_1 A8 IH ?_
  refine r_aload_n F dX1_closes_4 rfl ?_
  refine r_getS (ci := 2) (k := 2) (id := 202) (C := RX1) (T := TX1) (N := 7) F G rfl (by decide) (by decide) rfl (zinL inG2) (zin kf_X1_18) (fun _ h9 => h9) dX1_closes_5 A8 Q26 ?_
  refine r_aload_n F dX1_closes_8 rfl ?_
  refine r_getiS (ci := 2) (k := 5) (id := 205) (C := RX1) (T := TX1) (N := 7) F G rfl (by decide) (by decide) rfl (zinL inG2) (zin kf_X1_48) (fun _ h9 => h9) dX1_closes_9 A8 JO ?_
  refine v_iald F G hH (n := t) a26 rfl rfl (by omega) (by omega) dX1_closes_12 ?_
  rw [show ori (wK W K) 26 t = nI b from hBt]
  refine r_isub F dX1_closes_13 ?_
  rw [nI_sub hbh]
  refine r_istore_n F dX1_closes_14 (by decide) ?_
  refine r_aload_n F dX1_closes_15 rfl ?_
  refine r_aload_n F dX1_closes_16 rfl ?_
  refine r_getS (ci := 2) (k := 2) (id := 202) (C := RX1) (T := TX1) (N := 7) F G rfl (by decide) (by decide) rfl (zinL inG2) (zin kf_X1_18) (fun _ h9 => h9) dX1_closes_17 A8 Q26 ?_
  refine r_aload_n F dX1_closes_20 rfl ?_
  refine r_getiS (ci := 2) (k := 5) (id := 205) (C := RX1) (T := TX1) (N := 7) F G rfl (by decide) (by decide) rfl (zinL inG2) (zin kf_X1_48) (fun _ h9 => h9) dX1_closes_21 A8 JO ?_
  refine v_iald F G hH (n := t) a26 rfl rfl (by omega) (by omega) dX1_closes_24 ?_
  rw [show ori (wK W K) 26 t = nI b from hBt]
  refine r_puti (ci := 2) (k := 6) (id := 206) (C := RX1) (T := TX1) (N := 7) (ty := .int) (ty0 := tyX1) F G rfl (by decide) (by decide) rfl (zinL inG2) (zin kf_X1_51) (fun _ h9 => h9) tyX1_ok nmX1 rfl pd2_6 rfl rfl dX1_closes_25 A8 ?_
  refine zgen (P := zH t0 X S0 ad (wK W (K.1, nI b, K.2.2))) (by rw [← wK_h]; exact hH.pi a8k rfl rfl (by decide) _) (fun S hH => ?_)
  clear A8 JO IH Q22 Q24 Q26 Q28 Q30
  have a8k : oa (wK W (K.1, nI b, K.2.2)) 8 := wK_a.mpr a8
  have A8 : zA S (ad 8) 2 := hH.al a8k rfl rfl
  have JO : zi S 205 (ad 8) = ((K.1, nI b, K.2.2)).1 := hH.i a8k rfl (by decide)
  have IH : zi S 206 (ad 8) = ((K.1, nI b, K.2.2)).2.1 := hH.i a8k rfl (by decide)
  have Q22 : zq S 200 (ad 8) = some (ad 22) := hH.qS a8k rfl (by decide) ((wK_wr hw).q a8k (by decide) rfl) rfl
  have a22 : oa (wK W (K.1, nI b, K.2.2)) 22 := (wK_wr hw).a a8k (id := 200) (by decide) rfl
  have n22 : onn (wK W (K.1, nI b, K.2.2)) 22 = 61 := (wK_wr hw).n a8k (id := 200) (by decide) rfl (by decide)
  have Q24 : zq S 201 (ad 8) = some (ad 24) := hH.qS a8k rfl (by decide) ((wK_wr hw).q a8k (by decide) rfl) rfl
  have a24 : oa (wK W (K.1, nI b, K.2.2)) 24 := (wK_wr hw).a a8k (id := 201) (by decide) rfl
  have n24 : onn (wK W (K.1, nI b, K.2.2)) 24 = 61 := (wK_wr hw).n a8k (id := 201) (by decide) rfl (by decide)
  have Q26 : zq S 202 (ad 8) = some (ad 26) := hH.qS a8k rfl (by decide) ((wK_wr hw).q a8k (by decide) rfl) rfl
  have a26 : oa (wK W (K.1, nI b, K.2.2)) 26 := (wK_wr hw).a a8k (id := 202) (by decide) rfl
  have n26 : onn (wK W (K.1, nI b, K.2.2)) 26 = 61 := (wK_wr hw).n a8k (id := 202) (by decide) rfl (by decide)
  have Q28 : zq S 203 (ad 8) = some (ad 28) := hH.qS a8k rfl (by decide) ((wK_wr hw).q a8k (by decide) rfl) rfl
  have a28 : oa (wK W (K.1, nI b, K.2.2)) 28 := (wK_wr hw).a a8k (id := 203) (by decide) rfl
  have n28 : onn (wK W (K.1, nI b, K.2.2)) 28 = 61 := (wK_wr hw).n a8k (id := 203) (by decide) rfl (by decide)
  have Q30 : zq S 204 (ad 8) = some (ad 30) := hH.qS a8k rfl (by decide) ((wK_wr hw).q a8k (by decide) rfl) rfl
  have a30 : oa (wK W (K.1, nI b, K.2.2)) 30 := (wK_wr hw).a a8k (id := 204) (by decide) rfl
  have n30 : onn (wK W (K.1, nI b, K.2.2)) 30 = 61 := (wK_wr hw).n a8k (id := 204) (by decide) rfl (by decide)
  have JO2 : zi S 205 (ad 8) = nI t := JO.trans hT
  clear JO
  have JO := JO2
  refine r_iload_n F dX1_closes_28 rfl ?_
  refine r_aload_n F dX1_closes_29 rfl ?_
  refine r_getS (ci := 2) (k := 3) (id := 203) (C := RX1) (T := TX1) (N := 7) F G rfl (by decide) (by decide) rfl (zinL inG2) (zin kf_X1_21) (fun _ h9 => h9) dX1_closes_30 A8 Q28 ?_
  refine r_aload_n F dX1_closes_33 rfl ?_
  refine r_getiS (ci := 2) (k := 5) (id := 205) (C := RX1) (T := TX1) (N := 7) F G rfl (by decide) (by decide) rfl (zinL inG2) (zin kf_X1_48) (fun _ h9 => h9) dX1_closes_34 A8 JO ?_
  refine v_iald F G hH (n := t) a28 rfl rfl (by omega) (by omega) dX1_closes_37 ?_
  rw [show ori (wK W (K.1, nI b, K.2.2)) 28 t = nI w from hLt]
  refine r_icmp_eq (tgt := 66) F dX1_closes_38 (by decide) (fun c38 => ?_) (fun c38 => ?_)
  · refine r_iconst (v := 1) F dX1_closes_66 (by decide) ?_
    refine r_goto (tgt := 71) F dX1_closes_67 (by decide) ?_
    exact e_zret F hr rfl hlk ⟨(if_pos (Or.inl ((nI_eq (by omega) (by omega)).mp c38))).symm, hH⟩ (by decide) (by decide) dX1_closes_71
  · refine r_aload_n F dX1_closes_41 rfl ?_
    refine r_getS (ci := 2) (k := 4) (id := 204) (C := RX1) (T := TX1) (N := 7) F G rfl (by decide) (by decide) rfl (zinL inG2) (zin kf_X1_24) (fun _ h9 => h9) dX1_closes_42 A8 Q30 ?_
    refine r_aload_n F dX1_closes_45 rfl ?_
    refine r_getiS (ci := 2) (k := 5) (id := 205) (C := RX1) (T := TX1) (N := 7) F G rfl (by decide) (by decide) rfl (zinL inG2) (zin kf_X1_48) (fun _ h9 => h9) dX1_closes_46 A8 JO ?_
    refine v_zald F G hH (n := t) a30 rfl rfl (by omega) (by omega) dX1_closes_49 ?_
    refine r_if_eq (tgt := 70) F dX1_closes_50 (by decide) (fun c50 => ?_) (fun c50 => ?_)
    · refine r_iconst (v := 0) F dX1_closes_70 (by decide) ?_
      exact e_zret F hr rfl hlk ⟨(if_neg (fun h9 => h9.elim (fun q => c38 (by rw [q])) (fun q => by rw [db0 hDt c50] at q; cases q.1))).symm, hH⟩ (by decide) (by decide) dX1_closes_71
    · refine r_iload_n F dX1_closes_53 rfl ?_
      refine r_aload_n F dX1_closes_54 rfl ?_
      refine r_getS (ci := 2) (k := 3) (id := 203) (C := RX1) (T := TX1) (N := 7) F G rfl (by decide) (by decide) rfl (zinL inG2) (zin kf_X1_21) (fun _ h9 => h9) dX1_closes_55 A8 Q28 ?_
      refine r_aload_n F dX1_closes_58 rfl ?_
      refine r_getiS (ci := 2) (k := 5) (id := 205) (C := RX1) (T := TX1) (N := 7) F G rfl (by decide) (by decide) rfl (zinL inG2) (zin kf_X1_48) (fun _ h9 => h9) dX1_closes_59 A8 JO ?_
      refine v_iald F G hH (n := t) a28 rfl rfl (by omega) (by omega) dX1_closes_62 ?_
      rw [show ori (wK W (K.1, nI b, K.2.2)) 28 t = nI w from hLt]
      refine r_icmp_ge (tgt := 70) F dX1_closes_63 (by decide) (fun c63 => ?_) (fun c63 => ?_)
      · refine r_iconst (v := 0) F dX1_closes_70 (by decide) ?_
        exact e_zret F hr rfl hlk ⟨(if_neg (fun h9 => h9.elim (fun q => c38 (by rw [q])) (fun q => by have c9 := c63; rw [nI_leI (by omega) (by omega)] at c9; omega))).symm, hH⟩ (by decide) (by decide) dX1_closes_71
      · refine r_iconst (v := 1) F dX1_closes_66 (by decide) ?_
        refine r_goto (tgt := 71) F dX1_closes_67 (by decide) ?_
        exact e_zret F hr rfl hlk ⟨(if_pos (Or.inr ⟨db1 hDt c50, by have c9 := c63; rw [nI_leI (by omega) (by omega)] at c9; omega⟩)).symm, hH⟩ (by decide) (by decide) dX1_closes_71
set_option maxRecDepth 100000 in
set_option maxHeartbeats 4000000 in
theorem c_kabandon {l : Launch} {N0 t0 : Nat} {D : va_G} {cy : Nat → ClassId} {S : zS} {X : Nat → Prop} {S0 : zS} {ad : Nat → Nat} {W : zO} {K : kS} (hw : wr W) (a8 : oa W 8) (hH : zH t0 X S0 ad (wK W K) S) {t b : Nat} (hT : K.1 = nI t) (t61 : t < 61) (hBt : K.2.2.2.2.1 t = nI b) : zMv l yX1_abandon (zws yX1_abandon cX1_abandon 1 none) { frames := 0, cells := 0, slots := 0, locals := 0 } N0 t0 D cy S [.ref (ad 8)] (fun S' => zH t0 X S0 ad (wK W (K.1, nI b, K.2.2.1, K.2.2.2.1, K.2.2.2.2.1, K.2.2.2.2.2.1, upd K.2.2.2.2.2.2 t 1)) S') 0 0 := by
  refine zMv.of (cc := cX1_abandon) (maxL := 1) (ret := none) (by decide) rfl (Nat.le_of_ble_eq_true rfl) ?_
  intro p e s m args below meth c F G hr hlk hnm
  have a8k : oa (wK W K) 8 := wK_a.mpr a8
  have A8 : zA S (ad 8) 2 := hH.al a8k rfl rfl
  have JO : zi S 205 (ad 8) = (K).1 := hH.i a8k rfl (by decide)
  have IH : zi S 206 (ad 8) = (K).2.1 := hH.i a8k rfl (by decide)
  have Q22 : zq S 200 (ad 8) = some (ad 22) := hH.qS a8k rfl (by decide) ((wK_wr hw).q a8k (by decide) rfl) rfl
  have a22 : oa (wK W K) 22 := (wK_wr hw).a a8k (id := 200) (by decide) rfl
  have n22 : onn (wK W K) 22 = 61 := (wK_wr hw).n a8k (id := 200) (by decide) rfl (by decide)
  have Q24 : zq S 201 (ad 8) = some (ad 24) := hH.qS a8k rfl (by decide) ((wK_wr hw).q a8k (by decide) rfl) rfl
  have a24 : oa (wK W K) 24 := (wK_wr hw).a a8k (id := 201) (by decide) rfl
  have n24 : onn (wK W K) 24 = 61 := (wK_wr hw).n a8k (id := 201) (by decide) rfl (by decide)
  have Q26 : zq S 202 (ad 8) = some (ad 26) := hH.qS a8k rfl (by decide) ((wK_wr hw).q a8k (by decide) rfl) rfl
  have a26 : oa (wK W K) 26 := (wK_wr hw).a a8k (id := 202) (by decide) rfl
  have n26 : onn (wK W K) 26 = 61 := (wK_wr hw).n a8k (id := 202) (by decide) rfl (by decide)
  have Q28 : zq S 203 (ad 8) = some (ad 28) := hH.qS a8k rfl (by decide) ((wK_wr hw).q a8k (by decide) rfl) rfl
  have a28 : oa (wK W K) 28 := (wK_wr hw).a a8k (id := 203) (by decide) rfl
  have n28 : onn (wK W K) 28 = 61 := (wK_wr hw).n a8k (id := 203) (by decide) rfl (by decide)
  have Q30 : zq S 204 (ad 8) = some (ad 30) := hH.qS a8k rfl (by decide) ((wK_wr hw).q a8k (by decide) rfl) rfl
  have a30 : oa (wK W K) 30 := (wK_wr hw).a a8k (id := 204) (by decide) rfl
  have n30 : onn (wK W K) 30 = 61 := (wK_wr hw).n a8k (id := 204) (by decide) rfl (by decide)
  rw [hT] at JO
  refine r_aload_n F dX1_abandon_0 rfl ?_
  refine r_aload_n F dX1_abandon_1 rfl ?_
  refine r_getS (ci := 2) (k := 2) (id := 202) (C := RX1) (T := TX1) (N := 7) F G rfl (by decide) (by decide) rfl (zinL inG2) (zin kf_X1_18) (fun _ h9 => h9) dX1_abandon_2 A8 Q26 ?_
  refine r_aload_n F dX1_abandon_5 rfl ?_
  refine r_getiS (ci := 2) (k := 5) (id := 205) (C := RX1) (T := TX1) (N := 7) F G rfl (by decide) (by decide) rfl (zinL inG2) (zin kf_X1_48) (fun _ h9 => h9) dX1_abandon_6 A8 JO ?_
  refine v_iald F G hH (n := t) a26 rfl rfl (by omega) (by omega) dX1_abandon_9 ?_
  rw [show ori (wK W K) 26 t = nI b from hBt]
  refine r_puti (ci := 2) (k := 6) (id := 206) (C := RX1) (T := TX1) (N := 7) (ty := .int) (ty0 := tyX1) F G rfl (by decide) (by decide) rfl (zinL inG2) (zin kf_X1_51) (fun _ h9 => h9) tyX1_ok nmX1 rfl pd2_6 rfl rfl dX1_abandon_10 A8 ?_
  refine zgen (P := zH t0 X S0 ad (wK W (K.1, nI b, K.2.2))) (by rw [← wK_h]; exact hH.pi a8k rfl rfl (by decide) _) (fun S hH => ?_)
  clear A8 JO IH Q22 Q24 Q26 Q28 Q30
  have a8k : oa (wK W (K.1, nI b, K.2.2)) 8 := wK_a.mpr a8
  have A8 : zA S (ad 8) 2 := hH.al a8k rfl rfl
  have JO : zi S 205 (ad 8) = ((K.1, nI b, K.2.2)).1 := hH.i a8k rfl (by decide)
  have IH : zi S 206 (ad 8) = ((K.1, nI b, K.2.2)).2.1 := hH.i a8k rfl (by decide)
  have Q22 : zq S 200 (ad 8) = some (ad 22) := hH.qS a8k rfl (by decide) ((wK_wr hw).q a8k (by decide) rfl) rfl
  have a22 : oa (wK W (K.1, nI b, K.2.2)) 22 := (wK_wr hw).a a8k (id := 200) (by decide) rfl
  have n22 : onn (wK W (K.1, nI b, K.2.2)) 22 = 61 := (wK_wr hw).n a8k (id := 200) (by decide) rfl (by decide)
  have Q24 : zq S 201 (ad 8) = some (ad 24) := hH.qS a8k rfl (by decide) ((wK_wr hw).q a8k (by decide) rfl) rfl
  have a24 : oa (wK W (K.1, nI b, K.2.2)) 24 := (wK_wr hw).a a8k (id := 201) (by decide) rfl
  have n24 : onn (wK W (K.1, nI b, K.2.2)) 24 = 61 := (wK_wr hw).n a8k (id := 201) (by decide) rfl (by decide)
  have Q26 : zq S 202 (ad 8) = some (ad 26) := hH.qS a8k rfl (by decide) ((wK_wr hw).q a8k (by decide) rfl) rfl
  have a26 : oa (wK W (K.1, nI b, K.2.2)) 26 := (wK_wr hw).a a8k (id := 202) (by decide) rfl
  have n26 : onn (wK W (K.1, nI b, K.2.2)) 26 = 61 := (wK_wr hw).n a8k (id := 202) (by decide) rfl (by decide)
  have Q28 : zq S 203 (ad 8) = some (ad 28) := hH.qS a8k rfl (by decide) ((wK_wr hw).q a8k (by decide) rfl) rfl
  have a28 : oa (wK W (K.1, nI b, K.2.2)) 28 := (wK_wr hw).a a8k (id := 203) (by decide) rfl
  have n28 : onn (wK W (K.1, nI b, K.2.2)) 28 = 61 := (wK_wr hw).n a8k (id := 203) (by decide) rfl (by decide)
  have Q30 : zq S 204 (ad 8) = some (ad 30) := hH.qS a8k rfl (by decide) ((wK_wr hw).q a8k (by decide) rfl) rfl
  have a30 : oa (wK W (K.1, nI b, K.2.2)) 30 := (wK_wr hw).a a8k (id := 204) (by decide) rfl
  have n30 : onn (wK W (K.1, nI b, K.2.2)) 30 = 61 := (wK_wr hw).n a8k (id := 204) (by decide) rfl (by decide)
  have JO2 : zi S 205 (ad 8) = nI t := JO.trans hT
  clear JO
  have JO := JO2
  refine r_aload_n F dX1_abandon_13 rfl ?_
  refine r_getS (ci := 2) (k := 4) (id := 204) (C := RX1) (T := TX1) (N := 7) F G rfl (by decide) (by decide) rfl (zinL inG2) (zin kf_X1_24) (fun _ h9 => h9) dX1_abandon_14 A8 Q30 ?_
  refine r_aload_n F dX1_abandon_17 rfl ?_
  refine r_getiS (ci := 2) (k := 5) (id := 205) (C := RX1) (T := TX1) (N := 7) F G rfl (by decide) (by decide) rfl (zinL inG2) (zin kf_X1_48) (fun _ h9 => h9) dX1_abandon_18 A8 JO ?_
  refine r_iconst (v := 1) F dX1_abandon_21 (by decide) ?_
  refine v_zast F G hH (n := t) a30 rfl rfl (by omega) (by omega) dX1_abandon_22 (fun S hH => ?_)
  exact e_vret F hr hlk (by rw [wK_30] at hH; exact hH) (by decide) (by decide) dX1_abandon_23
set_option maxRecDepth 100000 in
set_option maxHeartbeats 4000000 in
theorem c_kpass {l : Launch} {N0 t0 : Nat} {D : va_G} {cy : Nat → ClassId} {S : zS} {X : Nat → Prop} {S0 : zS} {ad : Nat → Nat} {W : zO} {K : kS} (hw : wr W) (a8 : oa W 8) (hH : zH t0 X S0 ad (wK W K) S) {t h b : Nat} {dd : Bool} (hT : K.1 = nI t) (t61 : t < 61) (hHt : K.2.1 = nI h) (hBt : K.2.2.2.2.1 t = nI b) (hbh : b ≤ h) (hh30 : h < 2 ^ 30) (hDt : K.2.2.2.2.2.2 t = if dd then 1 else 0) {w : Nat} (hw30 : w < 2 ^ 30) : zMi l yX1_passThrough (zws yX1_passThrough cX1_passThrough 3 (some .boolean)) { frames := 1, cells := 0, slots := 0, locals := 22 } N0 t0 D cy S [.ref (ad 8), .int (nI w)] (fun r S' => r = (if w / 2 ≤ h - b ∨ dd = true then 1 else 0) ∧ zH t0 X S0 ad (wK W (K.1, nI ((if w / 2 ≤ h - b then h - w / 2 else b) + w % 2), K.2.2)) S') 0 0 := by
  refine zMi.of (cc := cX1_passThrough) (maxL := 3) (ret := (some .boolean)) (by decide) rfl (Nat.le_of_ble_eq_true rfl) ?_
  intro p e s m args below meth c F G hr hlk hnm
  have A8 : zA S (ad 8) 2 := hH.al (wK_a.mpr a8) rfl rfl
  refine r_aload_n F dX1_passThrough_0 rfl ?_
  refine r_iload_n F dX1_passThrough_1 rfl ?_
  refine r_iconst (v := 2) F dX1_passThrough_2 (by decide) ?_
  refine r_idiv F dX1_passThrough_3 (by decide) ?_
  rw [nl2, nI_div (by omega) (by omega)]
  refine c_Vi (ci := 2) F G (c_kpop hw a8 hH hT t61 hHt hBt hbh hh30 hDt (by omega)) (cwV 1 F.2.2.2.2 (zgV km_X1_82 ki_X1_pop ke_X1_X1_pop kn_X1 ko_X1_pop) rfl rfl rfl ⟨rfl, hd_yX1_pop⟩ ⟨Nat.le_of_ble_eq_true rfl, Nat.le_of_ble_eq_true rfl⟩) rfl (by decide) A8 rfl rfl (Nat.le_of_ble_eq_true rfl) dX1_passThrough_4 ⟨Nat.le_of_ble_eq_true rfl, Nat.le_of_ble_eq_true rfl⟩ (fun r4 S4 h4 => ?_)
  obtain ⟨a4, hH⟩ := h4
  subst a4
  clear A8
  have a8k : oa (wK W (K.1, nI (if w / 2 ≤ h - b then h - w / 2 else b), K.2.2)) 8 := wK_a.mpr a8
  have A8 : zA S4 (ad 8) 2 := hH.al a8k rfl rfl
  have JO : zi S4 205 (ad 8) = ((K.1, nI (if w / 2 ≤ h - b then h - w / 2 else b), K.2.2)).1 := hH.i a8k rfl (by decide)
  have IH : zi S4 206 (ad 8) = ((K.1, nI (if w / 2 ≤ h - b then h - w / 2 else b), K.2.2)).2.1 := hH.i a8k rfl (by decide)
  have Q22 : zq S4 200 (ad 8) = some (ad 22) := hH.qS a8k rfl (by decide) ((wK_wr hw).q a8k (by decide) rfl) rfl
  have a22 : oa (wK W (K.1, nI (if w / 2 ≤ h - b then h - w / 2 else b), K.2.2)) 22 := (wK_wr hw).a a8k (id := 200) (by decide) rfl
  have n22 : onn (wK W (K.1, nI (if w / 2 ≤ h - b then h - w / 2 else b), K.2.2)) 22 = 61 := (wK_wr hw).n a8k (id := 200) (by decide) rfl (by decide)
  have Q24 : zq S4 201 (ad 8) = some (ad 24) := hH.qS a8k rfl (by decide) ((wK_wr hw).q a8k (by decide) rfl) rfl
  have a24 : oa (wK W (K.1, nI (if w / 2 ≤ h - b then h - w / 2 else b), K.2.2)) 24 := (wK_wr hw).a a8k (id := 201) (by decide) rfl
  have n24 : onn (wK W (K.1, nI (if w / 2 ≤ h - b then h - w / 2 else b), K.2.2)) 24 = 61 := (wK_wr hw).n a8k (id := 201) (by decide) rfl (by decide)
  have Q26 : zq S4 202 (ad 8) = some (ad 26) := hH.qS a8k rfl (by decide) ((wK_wr hw).q a8k (by decide) rfl) rfl
  have a26 : oa (wK W (K.1, nI (if w / 2 ≤ h - b then h - w / 2 else b), K.2.2)) 26 := (wK_wr hw).a a8k (id := 202) (by decide) rfl
  have n26 : onn (wK W (K.1, nI (if w / 2 ≤ h - b then h - w / 2 else b), K.2.2)) 26 = 61 := (wK_wr hw).n a8k (id := 202) (by decide) rfl (by decide)
  have Q28 : zq S4 203 (ad 8) = some (ad 28) := hH.qS a8k rfl (by decide) ((wK_wr hw).q a8k (by decide) rfl) rfl
  have a28 : oa (wK W (K.1, nI (if w / 2 ≤ h - b then h - w / 2 else b), K.2.2)) 28 := (wK_wr hw).a a8k (id := 203) (by decide) rfl
  have n28 : onn (wK W (K.1, nI (if w / 2 ≤ h - b then h - w / 2 else b), K.2.2)) 28 = 61 := (wK_wr hw).n a8k (id := 203) (by decide) rfl (by decide)
  have Q30 : zq S4 204 (ad 8) = some (ad 30) := hH.qS a8k rfl (by decide) ((wK_wr hw).q a8k (by decide) rfl) rfl
  have a30 : oa (wK W (K.1, nI (if w / 2 ≤ h - b then h - w / 2 else b), K.2.2)) 30 := (wK_wr hw).a a8k (id := 204) (by decide) rfl
  have n30 : onn (wK W (K.1, nI (if w / 2 ≤ h - b then h - w / 2 else b), K.2.2)) 30 = 61 := (wK_wr hw).n a8k (id := 204) (by decide) rfl (by decide)
  refine r_istore_n F dX1_passThrough_7 (by decide) ?_
  refine r_aload_n F dX1_passThrough_8 rfl ?_
  refine r_dup F dX1_passThrough_9 rfl ?_
  refine r_getiS (ci := 2) (k := 6) (id := 206) (C := RX1) (T := TX1) (N := 7) F G rfl (by decide) (by decide) rfl (zinL inG2) (zin kf_X1_51) (fun _ h9 => h9) dX1_passThrough_10 A8 IH ?_
  refine r_iload_n F dX1_passThrough_13 rfl ?_
  refine r_iconst (v := 2) F dX1_passThrough_14 (by decide) ?_
  refine r_irem F dX1_passThrough_15 (by decide) ?_
  rw [show nI w - nI w / 2 * 2 = nI (w % 2) by rw [nl2]; exact nI_mod (by omega) (by omega)]
  refine r_iadd F dX1_passThrough_16 ?_
  rw [show nI (if w / 2 ≤ h - b then h - w / 2 else b) + nI (w % 2) = nI ((if w / 2 ≤ h - b then h - w / 2 else b) + w % 2) from nI_add _ _]
  refine r_puti (ci := 2) (k := 6) (id := 206) (C := RX1) (T := TX1) (N := 7) (ty := .int) (ty0 := tyX1) F G rfl (by decide) (by decide) rfl (zinL inG2) (zin kf_X1_51) (fun _ h9 => h9) tyX1_ok nmX1 rfl pd2_6 rfl rfl dX1_passThrough_17 A8 ?_
  refine r_iload_n F dX1_passThrough_20 rfl ?_
  have h9 := hH.pi (id := 206) a8k rfl rfl (by decide) (nI ((if w / 2 ≤ h - b then h - w / 2 else b) + w % 2))
  rw [wK_h] at h9
  exact e_zret F hr if1n hlk ⟨rfl, h9⟩ (by decide) (by decide) dX1_passThrough_21
set_option maxRecDepth 100000 in
set_option maxHeartbeats 4000000 in
theorem c_kbegin {l : Launch} {N0 t0 : Nat} {D : va_G} {cy : Nat → ClassId} {S : zS} {X : Nat → Prop} {S0 : zS} {ad : Nat → Nat} {W : zO} {K : kS} (hw : wr W) (a8 : oa W 8) (hH : zH t0 X S0 ad (wK W K) S) {t : Nat} {x z : Int32} (hT : K.1 + 1 = nI t) (t61 : t < 61) : zMv l yX1_begin (zws yX1_begin cX1_begin 3 none) { frames := 0, cells := 0, slots := 0, locals := 0 } N0 t0 D cy S [.ref (ad 8), .int x, .int z] (fun S' => zH t0 X S0 ad (wK W (nI t, K.2.1, upd K.2.2.1 t x, upd K.2.2.2.1 t (-1), upd K.2.2.2.2.1 t K.2.1, upd K.2.2.2.2.2.1 t z, upd K.2.2.2.2.2.2 t 0)) S') 0 0 := by
  refine zMv.of (cc := cX1_begin) (maxL := 3) (ret := none) (by decide) rfl (Nat.le_of_ble_eq_true rfl) ?_
  intro p e s m args below meth c F G hr hlk hnm
  have a8k : oa (wK W K) 8 := wK_a.mpr a8
  have A8 : zA S (ad 8) 2 := hH.al a8k rfl rfl
  have JO : zi S 205 (ad 8) = (K).1 := hH.i a8k rfl (by decide)
  have IH : zi S 206 (ad 8) = (K).2.1 := hH.i a8k rfl (by decide)
  have Q22 : zq S 200 (ad 8) = some (ad 22) := hH.qS a8k rfl (by decide) ((wK_wr hw).q a8k (by decide) rfl) rfl
  have a22 : oa (wK W K) 22 := (wK_wr hw).a a8k (id := 200) (by decide) rfl
  have n22 : onn (wK W K) 22 = 61 := (wK_wr hw).n a8k (id := 200) (by decide) rfl (by decide)
  have Q24 : zq S 201 (ad 8) = some (ad 24) := hH.qS a8k rfl (by decide) ((wK_wr hw).q a8k (by decide) rfl) rfl
  have a24 : oa (wK W K) 24 := (wK_wr hw).a a8k (id := 201) (by decide) rfl
  have n24 : onn (wK W K) 24 = 61 := (wK_wr hw).n a8k (id := 201) (by decide) rfl (by decide)
  have Q26 : zq S 202 (ad 8) = some (ad 26) := hH.qS a8k rfl (by decide) ((wK_wr hw).q a8k (by decide) rfl) rfl
  have a26 : oa (wK W K) 26 := (wK_wr hw).a a8k (id := 202) (by decide) rfl
  have n26 : onn (wK W K) 26 = 61 := (wK_wr hw).n a8k (id := 202) (by decide) rfl (by decide)
  have Q28 : zq S 203 (ad 8) = some (ad 28) := hH.qS a8k rfl (by decide) ((wK_wr hw).q a8k (by decide) rfl) rfl
  have a28 : oa (wK W K) 28 := (wK_wr hw).a a8k (id := 203) (by decide) rfl
  have n28 : onn (wK W K) 28 = 61 := (wK_wr hw).n a8k (id := 203) (by decide) rfl (by decide)
  have Q30 : zq S 204 (ad 8) = some (ad 30) := hH.qS a8k rfl (by decide) ((wK_wr hw).q a8k (by decide) rfl) rfl
  have a30 : oa (wK W K) 30 := (wK_wr hw).a a8k (id := 204) (by decide) rfl
  have n30 : onn (wK W K) 30 = 61 := (wK_wr hw).n a8k (id := 204) (by decide) rfl (by decide)
  refine r_aload_n F dX1_begin_0 rfl ?_
  refine r_dup F dX1_begin_1 rfl ?_
  refine r_getiS (ci := 2) (k := 5) (id := 205) (C := RX1) (T := TX1) (N := 7) F G rfl (by decide) (by decide) rfl (zinL inG2) (zin kf_X1_48) (fun _ h9 => h9) dX1_begin_2 A8 JO ?_
  refine r_iconst (v := 1) F dX1_begin_5 (by decide) ?_
  refine r_iadd F dX1_begin_6 ?_
  rw [hT]
  refine r_puti (ci := 2) (k := 5) (id := 205) (C := RX1) (T := TX1) (N := 7) (ty := .int) (ty0 := tyX1) F G rfl (by decide) (by decide) rfl (zinL inG2) (zin kf_X1_48) (fun _ h9 => h9) tyX1_ok nmX1 rfl pd2_5 rfl rfl dX1_begin_7 A8 ?_
  refine zgen (P := zH t0 X S0 ad (wK W (nI t, K.2))) (by rw [← wK_o]; exact hH.pi a8k rfl rfl (by decide) _) (fun S hH => ?_)
  clear A8 JO IH Q22 Q24 Q26 Q28 Q30
  have a8k : oa (wK W (nI t, K.2)) 8 := wK_a.mpr a8
  have A8 : zA S (ad 8) 2 := hH.al a8k rfl rfl
  have JO : zi S 205 (ad 8) = ((nI t, K.2)).1 := hH.i a8k rfl (by decide)
  have IH : zi S 206 (ad 8) = ((nI t, K.2)).2.1 := hH.i a8k rfl (by decide)
  have Q22 : zq S 200 (ad 8) = some (ad 22) := hH.qS a8k rfl (by decide) ((wK_wr hw).q a8k (by decide) rfl) rfl
  have a22 : oa (wK W (nI t, K.2)) 22 := (wK_wr hw).a a8k (id := 200) (by decide) rfl
  have n22 : onn (wK W (nI t, K.2)) 22 = 61 := (wK_wr hw).n a8k (id := 200) (by decide) rfl (by decide)
  have Q24 : zq S 201 (ad 8) = some (ad 24) := hH.qS a8k rfl (by decide) ((wK_wr hw).q a8k (by decide) rfl) rfl
  have a24 : oa (wK W (nI t, K.2)) 24 := (wK_wr hw).a a8k (id := 201) (by decide) rfl
  have n24 : onn (wK W (nI t, K.2)) 24 = 61 := (wK_wr hw).n a8k (id := 201) (by decide) rfl (by decide)
  have Q26 : zq S 202 (ad 8) = some (ad 26) := hH.qS a8k rfl (by decide) ((wK_wr hw).q a8k (by decide) rfl) rfl
  have a26 : oa (wK W (nI t, K.2)) 26 := (wK_wr hw).a a8k (id := 202) (by decide) rfl
  have n26 : onn (wK W (nI t, K.2)) 26 = 61 := (wK_wr hw).n a8k (id := 202) (by decide) rfl (by decide)
  have Q28 : zq S 203 (ad 8) = some (ad 28) := hH.qS a8k rfl (by decide) ((wK_wr hw).q a8k (by decide) rfl) rfl
  have a28 : oa (wK W (nI t, K.2)) 28 := (wK_wr hw).a a8k (id := 203) (by decide) rfl
  have n28 : onn (wK W (nI t, K.2)) 28 = 61 := (wK_wr hw).n a8k (id := 203) (by decide) rfl (by decide)
  have Q30 : zq S 204 (ad 8) = some (ad 30) := hH.qS a8k rfl (by decide) ((wK_wr hw).q a8k (by decide) rfl) rfl
  have a30 : oa (wK W (nI t, K.2)) 30 := (wK_wr hw).a a8k (id := 204) (by decide) rfl
  have n30 : onn (wK W (nI t, K.2)) 30 = 61 := (wK_wr hw).n a8k (id := 204) (by decide) rfl (by decide)
  refine r_aload_n F dX1_begin_10 rfl ?_
  refine r_getS (ci := 2) (k := 0) (id := 200) (C := RX1) (T := TX1) (N := 7) F G rfl (by decide) (by decide) rfl (zinL inG2) (zin kf_X1_9) (fun _ h9 => h9) dX1_begin_11 A8 Q22 ?_
  refine r_aload_n F dX1_begin_14 rfl ?_
  refine r_getiS (ci := 2) (k := 5) (id := 205) (C := RX1) (T := TX1) (N := 7) F G rfl (by decide) (by decide) rfl (zinL inG2) (zin kf_X1_48) (fun _ h9 => h9) dX1_begin_15 A8 JO ?_
  refine r_iload_n F dX1_begin_18 rfl ?_
  refine v_iast F G hH (n := t) a22 rfl rfl (by omega) (by omega) dX1_begin_19 (fun S hH => ?_)
  rw [wK_22] at hH
  have hH2 : zH t0 X S0 ad (wK W (nI t, K.2.1, upd K.2.2.1 t x, K.2.2.2)) S := hH
  clear hH
  have hH := hH2
  clear hH2
  clear A8 JO IH Q22 Q24 Q26 Q28 Q30
  have a8k : oa (wK W (nI t, K.2.1, upd K.2.2.1 t x, K.2.2.2)) 8 := wK_a.mpr a8
  have A8 : zA S (ad 8) 2 := hH.al a8k rfl rfl
  have JO : zi S 205 (ad 8) = ((nI t, K.2.1, upd K.2.2.1 t x, K.2.2.2)).1 := hH.i a8k rfl (by decide)
  have IH : zi S 206 (ad 8) = ((nI t, K.2.1, upd K.2.2.1 t x, K.2.2.2)).2.1 := hH.i a8k rfl (by decide)
  have Q22 : zq S 200 (ad 8) = some (ad 22) := hH.qS a8k rfl (by decide) ((wK_wr hw).q a8k (by decide) rfl) rfl
  have a22 : oa (wK W (nI t, K.2.1, upd K.2.2.1 t x, K.2.2.2)) 22 := (wK_wr hw).a a8k (id := 200) (by decide) rfl
  have n22 : onn (wK W (nI t, K.2.1, upd K.2.2.1 t x, K.2.2.2)) 22 = 61 := (wK_wr hw).n a8k (id := 200) (by decide) rfl (by decide)
  have Q24 : zq S 201 (ad 8) = some (ad 24) := hH.qS a8k rfl (by decide) ((wK_wr hw).q a8k (by decide) rfl) rfl
  have a24 : oa (wK W (nI t, K.2.1, upd K.2.2.1 t x, K.2.2.2)) 24 := (wK_wr hw).a a8k (id := 201) (by decide) rfl
  have n24 : onn (wK W (nI t, K.2.1, upd K.2.2.1 t x, K.2.2.2)) 24 = 61 := (wK_wr hw).n a8k (id := 201) (by decide) rfl (by decide)
  have Q26 : zq S 202 (ad 8) = some (ad 26) := hH.qS a8k rfl (by decide) ((wK_wr hw).q a8k (by decide) rfl) rfl
  have a26 : oa (wK W (nI t, K.2.1, upd K.2.2.1 t x, K.2.2.2)) 26 := (wK_wr hw).a a8k (id := 202) (by decide) rfl
  have n26 : onn (wK W (nI t, K.2.1, upd K.2.2.1 t x, K.2.2.2)) 26 = 61 := (wK_wr hw).n a8k (id := 202) (by decide) rfl (by decide)
  have Q28 : zq S 203 (ad 8) = some (ad 28) := hH.qS a8k rfl (by decide) ((wK_wr hw).q a8k (by decide) rfl) rfl
  have a28 : oa (wK W (nI t, K.2.1, upd K.2.2.1 t x, K.2.2.2)) 28 := (wK_wr hw).a a8k (id := 203) (by decide) rfl
  have n28 : onn (wK W (nI t, K.2.1, upd K.2.2.1 t x, K.2.2.2)) 28 = 61 := (wK_wr hw).n a8k (id := 203) (by decide) rfl (by decide)
  have Q30 : zq S 204 (ad 8) = some (ad 30) := hH.qS a8k rfl (by decide) ((wK_wr hw).q a8k (by decide) rfl) rfl
  have a30 : oa (wK W (nI t, K.2.1, upd K.2.2.1 t x, K.2.2.2)) 30 := (wK_wr hw).a a8k (id := 204) (by decide) rfl
  have n30 : onn (wK W (nI t, K.2.1, upd K.2.2.1 t x, K.2.2.2)) 30 = 61 := (wK_wr hw).n a8k (id := 204) (by decide) rfl (by decide)
  refine r_aload_n F dX1_begin_20 rfl ?_
  refine r_getS (ci := 2) (k := 1) (id := 201) (C := RX1) (T := TX1) (N := 7) F G rfl (by decide) (by decide) rfl (zinL inG2) (zin kf_X1_15) (fun _ h9 => h9) dX1_begin_21 A8 Q24 ?_
  refine r_aload_n F dX1_begin_24 rfl ?_
  refine r_getiS (ci := 2) (k := 5) (id := 205) (C := RX1) (T := TX1) (N := 7) F G rfl (by decide) (by decide) rfl (zinL inG2) (zin kf_X1_48) (fun _ h9 => h9) dX1_begin_25 A8 JO ?_
  refine r_iconst (v := -1) F dX1_begin_28 (by decide) ?_
  refine v_iast F G hH (n := t) a24 rfl rfl (by omega) (by omega) dX1_begin_29 (fun S hH => ?_)
  rw [wK_24] at hH
  have hH2 : zH t0 X S0 ad (wK W (nI t, K.2.1, upd K.2.2.1 t x, upd K.2.2.2.1 t (-1), K.2.2.2.2)) S := hH
  clear hH
  have hH := hH2
  clear hH2
  clear A8 JO IH Q22 Q24 Q26 Q28 Q30
  have a8k : oa (wK W (nI t, K.2.1, upd K.2.2.1 t x, upd K.2.2.2.1 t (-1), K.2.2.2.2)) 8 := wK_a.mpr a8
  have A8 : zA S (ad 8) 2 := hH.al a8k rfl rfl
  have JO : zi S 205 (ad 8) = ((nI t, K.2.1, upd K.2.2.1 t x, upd K.2.2.2.1 t (-1), K.2.2.2.2)).1 := hH.i a8k rfl (by decide)
  have IH : zi S 206 (ad 8) = ((nI t, K.2.1, upd K.2.2.1 t x, upd K.2.2.2.1 t (-1), K.2.2.2.2)).2.1 := hH.i a8k rfl (by decide)
  have Q22 : zq S 200 (ad 8) = some (ad 22) := hH.qS a8k rfl (by decide) ((wK_wr hw).q a8k (by decide) rfl) rfl
  have a22 : oa (wK W (nI t, K.2.1, upd K.2.2.1 t x, upd K.2.2.2.1 t (-1), K.2.2.2.2)) 22 := (wK_wr hw).a a8k (id := 200) (by decide) rfl
  have n22 : onn (wK W (nI t, K.2.1, upd K.2.2.1 t x, upd K.2.2.2.1 t (-1), K.2.2.2.2)) 22 = 61 := (wK_wr hw).n a8k (id := 200) (by decide) rfl (by decide)
  have Q24 : zq S 201 (ad 8) = some (ad 24) := hH.qS a8k rfl (by decide) ((wK_wr hw).q a8k (by decide) rfl) rfl
  have a24 : oa (wK W (nI t, K.2.1, upd K.2.2.1 t x, upd K.2.2.2.1 t (-1), K.2.2.2.2)) 24 := (wK_wr hw).a a8k (id := 201) (by decide) rfl
  have n24 : onn (wK W (nI t, K.2.1, upd K.2.2.1 t x, upd K.2.2.2.1 t (-1), K.2.2.2.2)) 24 = 61 := (wK_wr hw).n a8k (id := 201) (by decide) rfl (by decide)
  have Q26 : zq S 202 (ad 8) = some (ad 26) := hH.qS a8k rfl (by decide) ((wK_wr hw).q a8k (by decide) rfl) rfl
  have a26 : oa (wK W (nI t, K.2.1, upd K.2.2.1 t x, upd K.2.2.2.1 t (-1), K.2.2.2.2)) 26 := (wK_wr hw).a a8k (id := 202) (by decide) rfl
  have n26 : onn (wK W (nI t, K.2.1, upd K.2.2.1 t x, upd K.2.2.2.1 t (-1), K.2.2.2.2)) 26 = 61 := (wK_wr hw).n a8k (id := 202) (by decide) rfl (by decide)
  have Q28 : zq S 203 (ad 8) = some (ad 28) := hH.qS a8k rfl (by decide) ((wK_wr hw).q a8k (by decide) rfl) rfl
  have a28 : oa (wK W (nI t, K.2.1, upd K.2.2.1 t x, upd K.2.2.2.1 t (-1), K.2.2.2.2)) 28 := (wK_wr hw).a a8k (id := 203) (by decide) rfl
  have n28 : onn (wK W (nI t, K.2.1, upd K.2.2.1 t x, upd K.2.2.2.1 t (-1), K.2.2.2.2)) 28 = 61 := (wK_wr hw).n a8k (id := 203) (by decide) rfl (by decide)
  have Q30 : zq S 204 (ad 8) = some (ad 30) := hH.qS a8k rfl (by decide) ((wK_wr hw).q a8k (by decide) rfl) rfl
  have a30 : oa (wK W (nI t, K.2.1, upd K.2.2.1 t x, upd K.2.2.2.1 t (-1), K.2.2.2.2)) 30 := (wK_wr hw).a a8k (id := 204) (by decide) rfl
  have n30 : onn (wK W (nI t, K.2.1, upd K.2.2.1 t x, upd K.2.2.2.1 t (-1), K.2.2.2.2)) 30 = 61 := (wK_wr hw).n a8k (id := 204) (by decide) rfl (by decide)
  refine r_aload_n F dX1_begin_30 rfl ?_
  refine r_getS (ci := 2) (k := 2) (id := 202) (C := RX1) (T := TX1) (N := 7) F G rfl (by decide) (by decide) rfl (zinL inG2) (zin kf_X1_18) (fun _ h9 => h9) dX1_begin_31 A8 Q26 ?_
  refine r_aload_n F dX1_begin_34 rfl ?_
  refine r_getiS (ci := 2) (k := 5) (id := 205) (C := RX1) (T := TX1) (N := 7) F G rfl (by decide) (by decide) rfl (zinL inG2) (zin kf_X1_48) (fun _ h9 => h9) dX1_begin_35 A8 JO ?_
  refine r_aload_n F dX1_begin_38 rfl ?_
  refine r_getiS (ci := 2) (k := 6) (id := 206) (C := RX1) (T := TX1) (N := 7) F G rfl (by decide) (by decide) rfl (zinL inG2) (zin kf_X1_51) (fun _ h9 => h9) dX1_begin_39 A8 IH ?_
  refine v_iast F G hH (n := t) a26 rfl rfl (by omega) (by omega) dX1_begin_42 (fun S hH => ?_)
  rw [wK_26] at hH
  have hH2 : zH t0 X S0 ad (wK W (nI t, K.2.1, upd K.2.2.1 t x, upd K.2.2.2.1 t (-1), upd K.2.2.2.2.1 t K.2.1, K.2.2.2.2.2)) S := hH
  clear hH
  have hH := hH2
  clear hH2
  clear A8 JO IH Q22 Q24 Q26 Q28 Q30
  have a8k : oa (wK W (nI t, K.2.1, upd K.2.2.1 t x, upd K.2.2.2.1 t (-1), upd K.2.2.2.2.1 t K.2.1, K.2.2.2.2.2)) 8 := wK_a.mpr a8
  have A8 : zA S (ad 8) 2 := hH.al a8k rfl rfl
  have JO : zi S 205 (ad 8) = ((nI t, K.2.1, upd K.2.2.1 t x, upd K.2.2.2.1 t (-1), upd K.2.2.2.2.1 t K.2.1, K.2.2.2.2.2)).1 := hH.i a8k rfl (by decide)
  have IH : zi S 206 (ad 8) = ((nI t, K.2.1, upd K.2.2.1 t x, upd K.2.2.2.1 t (-1), upd K.2.2.2.2.1 t K.2.1, K.2.2.2.2.2)).2.1 := hH.i a8k rfl (by decide)
  have Q22 : zq S 200 (ad 8) = some (ad 22) := hH.qS a8k rfl (by decide) ((wK_wr hw).q a8k (by decide) rfl) rfl
  have a22 : oa (wK W (nI t, K.2.1, upd K.2.2.1 t x, upd K.2.2.2.1 t (-1), upd K.2.2.2.2.1 t K.2.1, K.2.2.2.2.2)) 22 := (wK_wr hw).a a8k (id := 200) (by decide) rfl
  have n22 : onn (wK W (nI t, K.2.1, upd K.2.2.1 t x, upd K.2.2.2.1 t (-1), upd K.2.2.2.2.1 t K.2.1, K.2.2.2.2.2)) 22 = 61 := (wK_wr hw).n a8k (id := 200) (by decide) rfl (by decide)
  have Q24 : zq S 201 (ad 8) = some (ad 24) := hH.qS a8k rfl (by decide) ((wK_wr hw).q a8k (by decide) rfl) rfl
  have a24 : oa (wK W (nI t, K.2.1, upd K.2.2.1 t x, upd K.2.2.2.1 t (-1), upd K.2.2.2.2.1 t K.2.1, K.2.2.2.2.2)) 24 := (wK_wr hw).a a8k (id := 201) (by decide) rfl
  have n24 : onn (wK W (nI t, K.2.1, upd K.2.2.1 t x, upd K.2.2.2.1 t (-1), upd K.2.2.2.2.1 t K.2.1, K.2.2.2.2.2)) 24 = 61 := (wK_wr hw).n a8k (id := 201) (by decide) rfl (by decide)
  have Q26 : zq S 202 (ad 8) = some (ad 26) := hH.qS a8k rfl (by decide) ((wK_wr hw).q a8k (by decide) rfl) rfl
  have a26 : oa (wK W (nI t, K.2.1, upd K.2.2.1 t x, upd K.2.2.2.1 t (-1), upd K.2.2.2.2.1 t K.2.1, K.2.2.2.2.2)) 26 := (wK_wr hw).a a8k (id := 202) (by decide) rfl
  have n26 : onn (wK W (nI t, K.2.1, upd K.2.2.1 t x, upd K.2.2.2.1 t (-1), upd K.2.2.2.2.1 t K.2.1, K.2.2.2.2.2)) 26 = 61 := (wK_wr hw).n a8k (id := 202) (by decide) rfl (by decide)
  have Q28 : zq S 203 (ad 8) = some (ad 28) := hH.qS a8k rfl (by decide) ((wK_wr hw).q a8k (by decide) rfl) rfl
  have a28 : oa (wK W (nI t, K.2.1, upd K.2.2.1 t x, upd K.2.2.2.1 t (-1), upd K.2.2.2.2.1 t K.2.1, K.2.2.2.2.2)) 28 := (wK_wr hw).a a8k (id := 203) (by decide) rfl
  have n28 : onn (wK W (nI t, K.2.1, upd K.2.2.1 t x, upd K.2.2.2.1 t (-1), upd K.2.2.2.2.1 t K.2.1, K.2.2.2.2.2)) 28 = 61 := (wK_wr hw).n a8k (id := 203) (by decide) rfl (by decide)
  have Q30 : zq S 204 (ad 8) = some (ad 30) := hH.qS a8k rfl (by decide) ((wK_wr hw).q a8k (by decide) rfl) rfl
  have a30 : oa (wK W (nI t, K.2.1, upd K.2.2.1 t x, upd K.2.2.2.1 t (-1), upd K.2.2.2.2.1 t K.2.1, K.2.2.2.2.2)) 30 := (wK_wr hw).a a8k (id := 204) (by decide) rfl
  have n30 : onn (wK W (nI t, K.2.1, upd K.2.2.1 t x, upd K.2.2.2.1 t (-1), upd K.2.2.2.2.1 t K.2.1, K.2.2.2.2.2)) 30 = 61 := (wK_wr hw).n a8k (id := 204) (by decide) rfl (by decide)
  refine r_aload_n F dX1_begin_43 rfl ?_
  refine r_getS (ci := 2) (k := 3) (id := 203) (C := RX1) (T := TX1) (N := 7) F G rfl (by decide) (by decide) rfl (zinL inG2) (zin kf_X1_21) (fun _ h9 => h9) dX1_begin_44 A8 Q28 ?_
  refine r_aload_n F dX1_begin_47 rfl ?_
  refine r_getiS (ci := 2) (k := 5) (id := 205) (C := RX1) (T := TX1) (N := 7) F G rfl (by decide) (by decide) rfl (zinL inG2) (zin kf_X1_48) (fun _ h9 => h9) dX1_begin_48 A8 JO ?_
  refine r_iload_n F dX1_begin_51 rfl ?_
  refine v_iast F G hH (n := t) a28 rfl rfl (by omega) (by omega) dX1_begin_52 (fun S hH => ?_)
  rw [wK_28] at hH
  have hH2 : zH t0 X S0 ad (wK W (nI t, K.2.1, upd K.2.2.1 t x, upd K.2.2.2.1 t (-1), upd K.2.2.2.2.1 t K.2.1, upd K.2.2.2.2.2.1 t z, K.2.2.2.2.2.2)) S := hH
  clear hH
  have hH := hH2
  clear hH2
  clear A8 JO IH Q22 Q24 Q26 Q28 Q30
  have a8k : oa (wK W (nI t, K.2.1, upd K.2.2.1 t x, upd K.2.2.2.1 t (-1), upd K.2.2.2.2.1 t K.2.1, upd K.2.2.2.2.2.1 t z, K.2.2.2.2.2.2)) 8 := wK_a.mpr a8
  have A8 : zA S (ad 8) 2 := hH.al a8k rfl rfl
  have JO : zi S 205 (ad 8) = ((nI t, K.2.1, upd K.2.2.1 t x, upd K.2.2.2.1 t (-1), upd K.2.2.2.2.1 t K.2.1, upd K.2.2.2.2.2.1 t z, K.2.2.2.2.2.2)).1 := hH.i a8k rfl (by decide)
  have IH : zi S 206 (ad 8) = ((nI t, K.2.1, upd K.2.2.1 t x, upd K.2.2.2.1 t (-1), upd K.2.2.2.2.1 t K.2.1, upd K.2.2.2.2.2.1 t z, K.2.2.2.2.2.2)).2.1 := hH.i a8k rfl (by decide)
  have Q22 : zq S 200 (ad 8) = some (ad 22) := hH.qS a8k rfl (by decide) ((wK_wr hw).q a8k (by decide) rfl) rfl
  have a22 : oa (wK W (nI t, K.2.1, upd K.2.2.1 t x, upd K.2.2.2.1 t (-1), upd K.2.2.2.2.1 t K.2.1, upd K.2.2.2.2.2.1 t z, K.2.2.2.2.2.2)) 22 := (wK_wr hw).a a8k (id := 200) (by decide) rfl
  have n22 : onn (wK W (nI t, K.2.1, upd K.2.2.1 t x, upd K.2.2.2.1 t (-1), upd K.2.2.2.2.1 t K.2.1, upd K.2.2.2.2.2.1 t z, K.2.2.2.2.2.2)) 22 = 61 := (wK_wr hw).n a8k (id := 200) (by decide) rfl (by decide)
  have Q24 : zq S 201 (ad 8) = some (ad 24) := hH.qS a8k rfl (by decide) ((wK_wr hw).q a8k (by decide) rfl) rfl
  have a24 : oa (wK W (nI t, K.2.1, upd K.2.2.1 t x, upd K.2.2.2.1 t (-1), upd K.2.2.2.2.1 t K.2.1, upd K.2.2.2.2.2.1 t z, K.2.2.2.2.2.2)) 24 := (wK_wr hw).a a8k (id := 201) (by decide) rfl
  have n24 : onn (wK W (nI t, K.2.1, upd K.2.2.1 t x, upd K.2.2.2.1 t (-1), upd K.2.2.2.2.1 t K.2.1, upd K.2.2.2.2.2.1 t z, K.2.2.2.2.2.2)) 24 = 61 := (wK_wr hw).n a8k (id := 201) (by decide) rfl (by decide)
  have Q26 : zq S 202 (ad 8) = some (ad 26) := hH.qS a8k rfl (by decide) ((wK_wr hw).q a8k (by decide) rfl) rfl
  have a26 : oa (wK W (nI t, K.2.1, upd K.2.2.1 t x, upd K.2.2.2.1 t (-1), upd K.2.2.2.2.1 t K.2.1, upd K.2.2.2.2.2.1 t z, K.2.2.2.2.2.2)) 26 := (wK_wr hw).a a8k (id := 202) (by decide) rfl
  have n26 : onn (wK W (nI t, K.2.1, upd K.2.2.1 t x, upd K.2.2.2.1 t (-1), upd K.2.2.2.2.1 t K.2.1, upd K.2.2.2.2.2.1 t z, K.2.2.2.2.2.2)) 26 = 61 := (wK_wr hw).n a8k (id := 202) (by decide) rfl (by decide)
  have Q28 : zq S 203 (ad 8) = some (ad 28) := hH.qS a8k rfl (by decide) ((wK_wr hw).q a8k (by decide) rfl) rfl
  have a28 : oa (wK W (nI t, K.2.1, upd K.2.2.1 t x, upd K.2.2.2.1 t (-1), upd K.2.2.2.2.1 t K.2.1, upd K.2.2.2.2.2.1 t z, K.2.2.2.2.2.2)) 28 := (wK_wr hw).a a8k (id := 203) (by decide) rfl
  have n28 : onn (wK W (nI t, K.2.1, upd K.2.2.1 t x, upd K.2.2.2.1 t (-1), upd K.2.2.2.2.1 t K.2.1, upd K.2.2.2.2.2.1 t z, K.2.2.2.2.2.2)) 28 = 61 := (wK_wr hw).n a8k (id := 203) (by decide) rfl (by decide)
  have Q30 : zq S 204 (ad 8) = some (ad 30) := hH.qS a8k rfl (by decide) ((wK_wr hw).q a8k (by decide) rfl) rfl
  have a30 : oa (wK W (nI t, K.2.1, upd K.2.2.1 t x, upd K.2.2.2.1 t (-1), upd K.2.2.2.2.1 t K.2.1, upd K.2.2.2.2.2.1 t z, K.2.2.2.2.2.2)) 30 := (wK_wr hw).a a8k (id := 204) (by decide) rfl
  have n30 : onn (wK W (nI t, K.2.1, upd K.2.2.1 t x, upd K.2.2.2.1 t (-1), upd K.2.2.2.2.1 t K.2.1, upd K.2.2.2.2.2.1 t z, K.2.2.2.2.2.2)) 30 = 61 := (wK_wr hw).n a8k (id := 204) (by decide) rfl (by decide)
  refine r_aload_n F dX1_begin_53 rfl ?_
  refine r_getS (ci := 2) (k := 4) (id := 204) (C := RX1) (T := TX1) (N := 7) F G rfl (by decide) (by decide) rfl (zinL inG2) (zin kf_X1_24) (fun _ h9 => h9) dX1_begin_54 A8 Q30 ?_
  refine r_aload_n F dX1_begin_57 rfl ?_
  refine r_getiS (ci := 2) (k := 5) (id := 205) (C := RX1) (T := TX1) (N := 7) F G rfl (by decide) (by decide) rfl (zinL inG2) (zin kf_X1_48) (fun _ h9 => h9) dX1_begin_58 A8 JO ?_
  refine r_iconst (v := 0) F dX1_begin_61 (by decide) ?_
  refine v_zast F G hH (n := t) a30 rfl rfl (by omega) (by omega) dX1_begin_62 (fun S hH => ?_)
  rw [wK_30] at hH
  have hH2 : zH t0 X S0 ad (wK W (nI t, K.2.1, upd K.2.2.1 t x, upd K.2.2.2.1 t (-1), upd K.2.2.2.2.1 t K.2.1, upd K.2.2.2.2.2.1 t z, upd K.2.2.2.2.2.2 t 0)) S := hH
  clear hH
  have hH := hH2
  clear hH2
  clear A8 JO IH Q22 Q24 Q26 Q28 Q30
  have a8k : oa (wK W (nI t, K.2.1, upd K.2.2.1 t x, upd K.2.2.2.1 t (-1), upd K.2.2.2.2.1 t K.2.1, upd K.2.2.2.2.2.1 t z, upd K.2.2.2.2.2.2 t 0)) 8 := wK_a.mpr a8
  have A8 : zA S (ad 8) 2 := hH.al a8k rfl rfl
  have JO : zi S 205 (ad 8) = ((nI t, K.2.1, upd K.2.2.1 t x, upd K.2.2.2.1 t (-1), upd K.2.2.2.2.1 t K.2.1, upd K.2.2.2.2.2.1 t z, upd K.2.2.2.2.2.2 t 0)).1 := hH.i a8k rfl (by decide)
  have IH : zi S 206 (ad 8) = ((nI t, K.2.1, upd K.2.2.1 t x, upd K.2.2.2.1 t (-1), upd K.2.2.2.2.1 t K.2.1, upd K.2.2.2.2.2.1 t z, upd K.2.2.2.2.2.2 t 0)).2.1 := hH.i a8k rfl (by decide)
  have Q22 : zq S 200 (ad 8) = some (ad 22) := hH.qS a8k rfl (by decide) ((wK_wr hw).q a8k (by decide) rfl) rfl
  have a22 : oa (wK W (nI t, K.2.1, upd K.2.2.1 t x, upd K.2.2.2.1 t (-1), upd K.2.2.2.2.1 t K.2.1, upd K.2.2.2.2.2.1 t z, upd K.2.2.2.2.2.2 t 0)) 22 := (wK_wr hw).a a8k (id := 200) (by decide) rfl
  have n22 : onn (wK W (nI t, K.2.1, upd K.2.2.1 t x, upd K.2.2.2.1 t (-1), upd K.2.2.2.2.1 t K.2.1, upd K.2.2.2.2.2.1 t z, upd K.2.2.2.2.2.2 t 0)) 22 = 61 := (wK_wr hw).n a8k (id := 200) (by decide) rfl (by decide)
  have Q24 : zq S 201 (ad 8) = some (ad 24) := hH.qS a8k rfl (by decide) ((wK_wr hw).q a8k (by decide) rfl) rfl
  have a24 : oa (wK W (nI t, K.2.1, upd K.2.2.1 t x, upd K.2.2.2.1 t (-1), upd K.2.2.2.2.1 t K.2.1, upd K.2.2.2.2.2.1 t z, upd K.2.2.2.2.2.2 t 0)) 24 := (wK_wr hw).a a8k (id := 201) (by decide) rfl
  have n24 : onn (wK W (nI t, K.2.1, upd K.2.2.1 t x, upd K.2.2.2.1 t (-1), upd K.2.2.2.2.1 t K.2.1, upd K.2.2.2.2.2.1 t z, upd K.2.2.2.2.2.2 t 0)) 24 = 61 := (wK_wr hw).n a8k (id := 201) (by decide) rfl (by decide)
  have Q26 : zq S 202 (ad 8) = some (ad 26) := hH.qS a8k rfl (by decide) ((wK_wr hw).q a8k (by decide) rfl) rfl
  have a26 : oa (wK W (nI t, K.2.1, upd K.2.2.1 t x, upd K.2.2.2.1 t (-1), upd K.2.2.2.2.1 t K.2.1, upd K.2.2.2.2.2.1 t z, upd K.2.2.2.2.2.2 t 0)) 26 := (wK_wr hw).a a8k (id := 202) (by decide) rfl
  have n26 : onn (wK W (nI t, K.2.1, upd K.2.2.1 t x, upd K.2.2.2.1 t (-1), upd K.2.2.2.2.1 t K.2.1, upd K.2.2.2.2.2.1 t z, upd K.2.2.2.2.2.2 t 0)) 26 = 61 := (wK_wr hw).n a8k (id := 202) (by decide) rfl (by decide)
  have Q28 : zq S 203 (ad 8) = some (ad 28) := hH.qS a8k rfl (by decide) ((wK_wr hw).q a8k (by decide) rfl) rfl
  have a28 : oa (wK W (nI t, K.2.1, upd K.2.2.1 t x, upd K.2.2.2.1 t (-1), upd K.2.2.2.2.1 t K.2.1, upd K.2.2.2.2.2.1 t z, upd K.2.2.2.2.2.2 t 0)) 28 := (wK_wr hw).a a8k (id := 203) (by decide) rfl
  have n28 : onn (wK W (nI t, K.2.1, upd K.2.2.1 t x, upd K.2.2.2.1 t (-1), upd K.2.2.2.2.1 t K.2.1, upd K.2.2.2.2.2.1 t z, upd K.2.2.2.2.2.2 t 0)) 28 = 61 := (wK_wr hw).n a8k (id := 203) (by decide) rfl (by decide)
  have Q30 : zq S 204 (ad 8) = some (ad 30) := hH.qS a8k rfl (by decide) ((wK_wr hw).q a8k (by decide) rfl) rfl
  have a30 : oa (wK W (nI t, K.2.1, upd K.2.2.1 t x, upd K.2.2.2.1 t (-1), upd K.2.2.2.2.1 t K.2.1, upd K.2.2.2.2.2.1 t z, upd K.2.2.2.2.2.2 t 0)) 30 := (wK_wr hw).a a8k (id := 204) (by decide) rfl
  have n30 : onn (wK W (nI t, K.2.1, upd K.2.2.1 t x, upd K.2.2.2.1 t (-1), upd K.2.2.2.2.1 t K.2.1, upd K.2.2.2.2.2.1 t z, upd K.2.2.2.2.2.2 t 0)) 30 = 61 := (wK_wr hw).n a8k (id := 204) (by decide) rfl (by decide)
  exact e_vret F hr hlk hH (by decide) (by decide) dX1_begin_63
