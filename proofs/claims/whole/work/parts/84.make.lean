section ZFD
variable {t0 : Nat} {X : Nat → Prop} {S0 S : zS} {ad : Nat → Nat} {W : zO} {n k id q a kk ci mm : Nat}
theorem oa_eq {W : zO} {c : Nat} {e : zE} (h : W c = e) (he : e.1) : oa W c := by
  show (W c).1
  rw [h]
  exact he
theorem ar_fld (hH : zH t0 X S0 ad W S) (hn : oa W n) (ea : ad n = a) (hkn : kd n = ci) (hci : ci < 13) (hk : ¬ oa W k) (hk0 : k ≠ 0) (hke : k % 2 = 0) (hkd : kd k = kk) (hkk : 13 ≤ kk) (hq : q ∉ zL S) : ∃ (ad' : Nat → Nat) (W' : zO), zH t0 X S0 ad' W' (zPq (zNa S q kk mm) id a (some q)) ∧ ad' n = a ∧ (∀ d, d ≠ k → ad' d = ad d) ∧ W' n = eQ (W n) id (some k) ∧ W' k = eNa mm ∧ ∀ d, d ≠ n → d ≠ k → W' d = W d := by
  have hnk : n ≠ k := fun e => hk (e ▸ hn)
  have h1 := hH.newa (m := mm) hk hk0 hq hkd hkk
  have w1 : va_up W k (eNa mm) n = W n := va_up_ne _ _ hnk
  have an : oa (va_up W k (eNa mm)) n := oa_eq w1 hn
  have ak : oa (va_up W k (eNa mm)) k := oa_eq (va_up_self _ _ _) trivial
  have e1 : va_up ad k q n = a := (va_up_ne _ _ hnk).trans ea
  have h2 := h1.pq (id := id) an e1 hkn hci (some k) (x2 := some q) (by show _ = some (va_up ad k q k); rw [va_up_self]) (fun d hd => by cases hd; exact Or.inr ⟨ak, hke⟩)
  refine ⟨_, _, h2, e1, fun d hd => va_up_ne _ _ hd, ?_, ?_, fun d d1 d2 => (va_up_ne _ _ d1).trans (va_up_ne _ _ d2)⟩
  · exact (va_up_self _ _ _).trans (congrArg (fun e => eQ e id (some k)) w1)
  · exact (va_up_ne _ _ (fun e => hnk e.symm)).trans (va_up_self _ _ _)
theorem vl_fld {f : Nat → Nat} (hH : zH t0 X S0 ad W S) (hn : oa W n) (ea : ad n = a) (hkn : kd n = ci) (hci : ci < 13) (hk : ¬ oa W k) (hk0 : k ≠ 0) (hke : k % 2 = 0) (hkd : kd k = 0) (hq : q ∉ zL S) : ∃ (ad' : Nat → Nat) (W' : zO), zH t0 X S0 ad' W' (zPq (zPq (zPi (zNo S q 0) 0 q 0) 1 q (some t0)) id a (some q)) ∧ ad' n = a ∧ (∀ d, d ≠ k → ad' d = ad d) ∧ W' n = eQ (W n) id (some k) ∧ vl W' k 0 f ∧ (∀ d, d ≠ n → d ≠ k → W' d = W d) ∧ W' k = eQ (eI eNo 0 0) 1 (some 0) := by
  have hnk : n ≠ k := fun e => hk (e ▸ hn)
  obtain ⟨h1, hv⟩ := vl.new (f := f) hH hk hk0 hq hkd
  have w1 : oQ (oI (va_up W k eNo) k 0 0) k 1 (some 0) n = W n := (va_up_ne _ _ hnk).trans ((va_up_ne _ _ hnk).trans (va_up_ne _ _ hnk))
  have an : oa (oQ (oI (va_up W k eNo) k 0 0) k 1 (some 0)) n := oa_eq w1 hn
  have e1 : va_up ad k q n = a := (va_up_ne _ _ hnk).trans ea
  have h2 := h1.pq (id := id) an e1 hkn hci (some k) (x2 := some q) (by show _ = some (va_up ad k q k); rw [va_up_self]) (fun d hd => by cases hd; exact Or.inr ⟨hv.1, hke⟩)
  have wk : oQ (oQ (oI (va_up W k eNo) k 0 0) k 1 (some 0)) n id (some k) k = oQ (oI (va_up W k eNo) k 0 0) k 1 (some 0) k := va_up_ne _ _ (fun e => hnk e.symm)
  have ec : oQ (oI (va_up W k eNo) k 0 0) k 1 (some 0) k = eQ (eI eNo 0 0) 1 (some 0) := by
    show va_up (va_up (va_up W k eNo) k (eI (va_up W k eNo k) 0 0)) k (eQ (va_up (va_up W k eNo) k (eI (va_up W k eNo k) 0 0) k) 1 (some 0)) k = _
    rw [va_up_self, va_up_self, va_up_self]
  refine ⟨_, _, h2, e1, fun d hd => va_up_ne _ _ hd, (va_up_self _ _ _).trans (congrArg (fun e => eQ e id (some k)) w1), ?_, fun d d1 d2 => (va_up_ne _ _ d1).trans ((va_up_ne _ _ d2).trans ((va_up_ne _ _ d2).trans (va_up_ne _ _ d2))), wk.trans ec⟩
  refine ⟨oa_eq (wk.trans ec) trivial, ?_, fun j hj => ?_, Or.inl ⟨rfl, ?_⟩⟩
  · show (oQ _ _ _ _ k).2.1 2 = _
    rw [wk, ec]
    rfl
  · show (oQ _ _ _ _ k).2.2.1 j = _
    rw [wk, ec]
    exact va_up_ne _ _ hj
  · show (oQ _ _ _ _ k).2.2.1 1 = _
    rw [wk, ec]
    rfl
theorem it_fld (hH : zH t0 X S0 ad W S) (hn : oa W n) (ea : ad n = a) (hkn : kd n = ci) (hci : ci < 13) (x : Int32) : ∃ W' : zO, zH t0 X S0 ad W' (zPi S id a x) ∧ W' n = eI (W n) id x ∧ ∀ d, d ≠ n → W' d = W d := ⟨_, hH.pi hn ea hkn hci x, va_up_self _ _ _, fun _ hd => va_up_ne _ _ hd⟩
theorem rf_fld (hH : zH t0 X S0 ad W S) (hn : oa W n) (ea : ad n = a) (hkn : kd n = ci) (hci : ci < 13) (x : Option Nat) {x2 : Option Nat} (ex : x2 = x.map ad) (hx : ∀ d, x = some d → d = 0 ∨ (oa W d ∧ d % 2 = 0)) : ∃ W' : zO, zH t0 X S0 ad W' (zPq S id a x2) ∧ W' n = eQ (W n) id x ∧ ∀ d, d ≠ n → W' d = W d := ⟨_, hH.pq hn ea hkn hci x ex hx, va_up_self _ _ _, fun _ hd => va_up_ne _ _ hd⟩
end ZFD
set_option maxRecDepth 100000 in
set_option maxHeartbeats 4000000 in
theorem c_UnitInit {l : Launch} {N0 t0 : Nat} {D : va_G} {cy : Nat → ClassId} {S : zS} {X : Nat → Prop} {S0 : zS} {ad : Nat → Nat} {W : zO} (hH : zH t0 X S0 ad W S) {n a : Nat} (ea : ad n = a) (hkn : kd n = 10) (hev : n % 2 = 0) (hW : W n = eNo) (hfr2 : ¬ oa W (n + 2)) (hfr4 : ¬ oa W (n + 4)) (hfr6 : ¬ oa W (n + 6)) (hk2 : kd (n + 2) = 0) (hk4 : kd (n + 4) = 0) (hk6 : kd (n + 6) = 0) : zMv l yX9_init (zws yX9_init cX9_init 1 none) { frames := 4, cells := 3, slots := 9, locals := 72 } N0 t0 D cy S [.ref a] (fun S' => ∃ (ad' : Nat → Nat) (W' : zO), zH t0 X S0 ad' W' S' ∧ (∀ d, d ≠ n + 2 → d ≠ n + 4 → d ≠ n + 6 → ad' d = ad d) ∧ (∀ d, d ≠ n → d ≠ n + 2 → d ≠ n + 4 → d ≠ n + 6 → W' d = W d) ∧ W' n = eQ (eQ (eQ (eNo) 1000 (some (n + 2))) 1001 (some (n + 4))) 1002 (some (n + 6)) ∧ W' (n + 2) = eQ (eI eNo 0 0) 1 (some 0) ∧ W' (n + 4) = eQ (eI eNo 0 0) 1 (some 0) ∧ W' (n + 6) = eQ (eI eNo 0 0) 1 (some 0)) 3 9 := by
  refine zMv.of (cc := cX9_init) (maxL := 1) (ret := none) (by decide) rfl (Nat.le_of_ble_eq_true rfl) ?_
  intro p e s m args below meth c F G hr hlk hnm
  refine r_aload_n F dX9_init_0 rfl ?_
  refine r_objInit F (zin km_X9_1) (zin ki_Object_init) (zin ko_Object_init) dX9_init_1 (Nat.le_of_ble_eq_true rfl) (Nat.le_of_ble_eq_true rfl) ?_
  have an : oa W n := oa_eq hW trivial
  refine r_aload_n F dX9_init_4 rfl ?_
  refine r_new (ci := 0) (C := RJx4a65c) (T := TJx4a65c) (N := 3) (ty0 := tyJx4a65c) F G rfl (by decide) (zinL inG0) tyJx4a65c_ok dvG0 (zin kc_X9_7) (zin kb_Jx4a65c) (zin kn_Jx4a65c) (by decide) (by decide) dX9_init_5 (fun q5 hq5 => ?_)
  refine r_dup F dX9_init_8 rfl ?_
  refine c_Iv F G (k_ListInit (a := q5) zA.noq) (cwI 0 F.2.2.2.2 (zgI ko_Jx4a65c_init_da8c8) rfl rfl rfl (F.2.2.2.2 _ (zin kn_Jx4a65c)) (F.2.2.2.2 _ (zin km_X9_9)) (F.2.2.2.2 _ (zin ki_Jx4a65c_init_da8c8)) rfl hd_yJx4a65c_init_da8c8 ⟨Nat.le_of_ble_eq_true rfl, Nat.le_of_ble_eq_true rfl⟩) rfl rfl (Nat.le_of_ble_eq_true rfl) dX9_init_9 ⟨Nat.le_of_ble_eq_true rfl, Nat.le_of_ble_eq_true rfl⟩ (fun S9 hS9 => ?_)
  subst hS9
  refine r_putFq (v := some q5) (ci := 10) (k := 0) (id := 1000) (C := RX9) (T := TX9) (N := 3) (ty := (.object "java/util/List")) (ty0 := tyX9) F G rfl (by decide) (by decide) rfl (zinL inG10) (zin kf_X9_10) (fun _ h9 => h9) tyX9_ok nmX9 rfl hnm rfl pd10_0 rfl rfl dX9_init_12 (zA.no (S := S) (hH.al an ea hkn) hq5) ?_
  obtain ⟨ad1, W1, hH1, ea1, ag1, wn1, -, wd1, wk1⟩ := vl_fld (f := fun j => j) (id := 1000) (k := n + 2) hH an ea hkn (by decide) hfr2 (by omega) (by omega) hk2 hq5
  refine zgen (P := zH t0 X S0 ad1 W1) hH1 (fun S hH => ?_)
  clear hH1
  rw [hW] at wn1
  have an1 : oa W1 n := oa_eq wn1 trivial
  have wo1 : ∀ d, d ≠ n → d ≠ n + 2 → W1 d = W d := fun d d0 d2 => wd1 d d0 d2
  have wc1_2 : W1 (n + 2) = eQ (eI eNo 0 0) 1 (some 0) := wk1
  have gg1 : ∀ d, d ≠ n + 2 → ad1 d = ad d := ag1
  refine r_aload_n F dX9_init_15 rfl ?_
  refine r_new (ci := 0) (C := RJx4a65c) (T := TJx4a65c) (N := 3) (ty0 := tyJx4a65c) F G rfl (by decide) (zinL inG0) tyJx4a65c_ok dvG0 (zin kc_X9_7) (zin kb_Jx4a65c) (zin kn_Jx4a65c) (by decide) (by decide) dX9_init_16 (fun q16 hq16 => ?_)
  refine r_dup F dX9_init_19 rfl ?_
  refine c_Iv F G (k_ListInit (a := q16) zA.noq) (cwI 0 F.2.2.2.2 (zgI ko_Jx4a65c_init_da8c8) rfl rfl rfl (F.2.2.2.2 _ (zin kn_Jx4a65c)) (F.2.2.2.2 _ (zin km_X9_9)) (F.2.2.2.2 _ (zin ki_Jx4a65c_init_da8c8)) rfl hd_yJx4a65c_init_da8c8 ⟨Nat.le_of_ble_eq_true rfl, Nat.le_of_ble_eq_true rfl⟩) rfl rfl (Nat.le_of_ble_eq_true rfl) dX9_init_20 ⟨Nat.le_of_ble_eq_true rfl, Nat.le_of_ble_eq_true rfl⟩ (fun S20 hS20 => ?_)
  subst hS20
  refine r_putFq (v := some q16) (ci := 10) (k := 1) (id := 1001) (C := RX9) (T := TX9) (N := 3) (ty := (.object "java/util/List")) (ty0 := tyX9) F G rfl (by decide) (by decide) rfl (zinL inG10) (zin kf_X9_16) (fun _ h9 => h9) tyX9_ok nmX9 rfl hnm rfl pd10_1 rfl rfl dX9_init_23 (zA.no (S := S) (hH.al an1 ea1 hkn) hq16) ?_
  obtain ⟨ad2, W2, hH2, ea2, ag2, wn2, -, wd2, wk2⟩ := vl_fld (f := fun j => j) (id := 1001) (k := n + 4) hH an1 ea1 hkn (by decide) (fun h9 => hfr4 (by show (W (n + 4)).1; rw [← wo1 (n + 4) (by omega) (by omega)]; exact h9)) (by omega) (by omega) hk4 hq16
  refine zgen (P := zH t0 X S0 ad2 W2) hH2 (fun S hH => ?_)
  clear hH2
  rw [wn1] at wn2
  have an2 : oa W2 n := oa_eq wn2 trivial
  have wo2 : ∀ d, d ≠ n → d ≠ n + 2 → d ≠ n + 4 → W2 d = W d := fun d d0 d2 d4 => (wd2 d d0 d4).trans (wo1 d d0 d2)
  have wc2_2 : W2 (n + 2) = eQ (eI eNo 0 0) 1 (some 0) := (wd2 (n + 2) (by omega) (by omega)).trans wc1_2
  have wc2_4 : W2 (n + 4) = eQ (eI eNo 0 0) 1 (some 0) := wk2
  have gg2 : ∀ d, d ≠ n + 2 → d ≠ n + 4 → ad2 d = ad d := fun d d2 d4 => (ag2 d d4).trans (gg1 d d2)
  refine r_aload_n F dX9_init_26 rfl ?_
  refine r_new (ci := 0) (C := RJx4a65c) (T := TJx4a65c) (N := 3) (ty0 := tyJx4a65c) F G rfl (by decide) (zinL inG0) tyJx4a65c_ok dvG0 (zin kc_X9_7) (zin kb_Jx4a65c) (zin kn_Jx4a65c) (by decide) (by decide) dX9_init_27 (fun q27 hq27 => ?_)
  refine r_dup F dX9_init_30 rfl ?_
  refine c_Iv F G (k_ListInit (a := q27) zA.noq) (cwI 0 F.2.2.2.2 (zgI ko_Jx4a65c_init_da8c8) rfl rfl rfl (F.2.2.2.2 _ (zin kn_Jx4a65c)) (F.2.2.2.2 _ (zin km_X9_9)) (F.2.2.2.2 _ (zin ki_Jx4a65c_init_da8c8)) rfl hd_yJx4a65c_init_da8c8 ⟨Nat.le_of_ble_eq_true rfl, Nat.le_of_ble_eq_true rfl⟩) rfl rfl (Nat.le_of_ble_eq_true rfl) dX9_init_31 ⟨Nat.le_of_ble_eq_true rfl, Nat.le_of_ble_eq_true rfl⟩ (fun S31 hS31 => ?_)
  subst hS31
  refine r_putFq (v := some q27) (ci := 10) (k := 2) (id := 1002) (C := RX9) (T := TX9) (N := 3) (ty := (.object "java/util/List")) (ty0 := tyX9) F G rfl (by decide) (by decide) rfl (zinL inG10) (zin kf_X9_19) (fun _ h9 => h9) tyX9_ok nmX9 rfl hnm rfl pd10_2 rfl rfl dX9_init_34 (zA.no (S := S) (hH.al an2 ea2 hkn) hq27) ?_
  obtain ⟨ad3, W3, hH3, ea3, ag3, wn3, -, wd3, wk3⟩ := vl_fld (f := fun j => j) (id := 1002) (k := n + 6) hH an2 ea2 hkn (by decide) (fun h9 => hfr6 (by show (W (n + 6)).1; rw [← wo2 (n + 6) (by omega) (by omega) (by omega)]; exact h9)) (by omega) (by omega) hk6 hq27
  refine zgen (P := zH t0 X S0 ad3 W3) hH3 (fun S hH => ?_)
  clear hH3
  rw [wn2] at wn3
  have an3 : oa W3 n := oa_eq wn3 trivial
  have wo3 : ∀ d, d ≠ n → d ≠ n + 2 → d ≠ n + 4 → d ≠ n + 6 → W3 d = W d := fun d d0 d2 d4 d6 => (wd3 d d0 d6).trans (wo2 d d0 d2 d4)
  have wc3_2 : W3 (n + 2) = eQ (eI eNo 0 0) 1 (some 0) := (wd3 (n + 2) (by omega) (by omega)).trans wc2_2
  have wc3_4 : W3 (n + 4) = eQ (eI eNo 0 0) 1 (some 0) := (wd3 (n + 4) (by omega) (by omega)).trans wc2_4
  have wc3_6 : W3 (n + 6) = eQ (eI eNo 0 0) 1 (some 0) := wk3
  have gg3 : ∀ d, d ≠ n + 2 → d ≠ n + 4 → d ≠ n + 6 → ad3 d = ad d := fun d d2 d4 d6 => (ag3 d d6).trans (gg2 d d2 d4)
  exact e_vret F hr hlk ⟨ad3, W3, hH, gg3, wo3, wn3, wc3_2, wc3_4, wc3_6⟩ (by first | decide | exact Nat.le_refl _ | omega) (by first | decide | exact Nat.le_of_eq (Nat.zero_add _) | omega) dX9_init_37
set_option maxRecDepth 100000 in
set_option maxHeartbeats 4000000 in
theorem c_RoutineInit {l : Launch} {N0 t0 : Nat} {D : va_G} {cy : Nat → ClassId} {S : zS} {X : Nat → Prop} {S0 : zS} {ad : Nat → Nat} {W : zO} (hH : zH t0 X S0 ad W S) {n a : Nat} (ea : ad n = a) (hkn : kd n = 7) (hev : n % 2 = 0) (hW : W n = eNo) (hfr2 : ¬ oa W (n + 2)) (hfr4 : ¬ oa W (n + 4)) (hfr6 : ¬ oa W (n + 6)) (hfr8 : ¬ oa W (n + 8)) (hfr10 : ¬ oa W (n + 10)) (hk2 : kd (n + 2) = 14) (hk4 : kd (n + 4) = 14) (hk6 : kd (n + 6) = 14) (hk8 : kd (n + 8) = 14) (hk10 : kd (n + 10) = 14) {b : Nat} {h x y z : Int32} (hb : oa W b) (hbe : b % 2 = 0) (hbn : b < n) : zMv l yX6_init (zws yX6_init cX6_init 6 none) { frames := 1, cells := 5, slots := 300, locals := 12 } N0 t0 D cy S [.ref a, .ref (ad b), .int h, .int x, .int y, .int z] (fun S' => ∃ (ad' : Nat → Nat) (W' : zO), zH t0 X S0 ad' W' S' ∧ (∀ d, d ≠ n + 2 → d ≠ n + 4 → d ≠ n + 6 → d ≠ n + 8 → d ≠ n + 10 → ad' d = ad d) ∧ (∀ d, d ≠ n → d ≠ n + 2 → d ≠ n + 4 → d ≠ n + 6 → d ≠ n + 8 → d ≠ n + 10 → W' d = W d) ∧ W' n = eI (eI (eI (eI (eQ (eQ (eQ (eQ (eQ (eQ (eNo) 705 (some (n + 2))) 706 (some (n + 4))) 707 (some (n + 6))) 708 (some (n + 8))) 709 (some (n + 10))) 700 (some b)) 701 h) 702 x) 703 y) 704 z ∧ W' (n + 2) = eNa 60 ∧ W' (n + 4) = eNa 60 ∧ W' (n + 6) = eNa 60 ∧ W' (n + 8) = eNa 60 ∧ W' (n + 10) = eNa 60) 5 300 := by
  refine zMv.of (cc := cX6_init) (maxL := 6) (ret := none) (by decide) rfl (Nat.le_of_ble_eq_true rfl) ?_
  intro p e s m args below meth c F G hr hlk hnm
  refine r_aload_n F dX6_init_0 rfl ?_
  refine r_objInit F (zin km_X6_3) (zin ki_Object_init) (zin ko_Object_init) dX6_init_1 (Nat.le_of_ble_eq_true rfl) (Nat.le_of_ble_eq_true rfl) ?_
  have an : oa W n := oa_eq hW trivial
  refine r_aload_n F dX6_init_4 rfl ?_
  refine r_bipush (v := 60) F dX6_init_5 (by decide) ?_
  refine r_newI (n' := 60) F G (zin ka_int) (by decide) (by decide) (by decide) (by decide) (by decide) dX6_init_7 (fun q7 hq7 => ?_)
  refine r_putFq (v := some q7) (ci := 7) (k := 5) (id := 705) (C := RX6) (T := TX6) (N := 13) (ty := (.array .int)) (ty0 := tyX6) F G rfl (by decide) (by decide) rfl (zinL inG7) (zin kf_X6_9) (fun _ h9 => h9) tyX6_ok nmX6 rfl hnm rfl pd7_5 rfl rfl dX6_init_9 (zA.na (hH.al an ea hkn) hq7) ?_
  obtain ⟨ad1, W1, hH1, ea1, ag1, wn1, wk1, wd1⟩ := ar_fld (mm := 60) (id := 705) (k := n + 2) hH an ea hkn (by decide) hfr2 (by omega) (by omega) hk2 (by decide) hq7
  refine zgen (P := zH t0 X S0 ad1 W1) hH1 (fun S hH => ?_)
  clear hH1
  rw [hW] at wn1
  have an1 : oa W1 n := oa_eq wn1 trivial
  have wo1 : ∀ d, d ≠ n → d ≠ n + 2 → W1 d = W d := fun d d0 d2 => wd1 d d0 d2
  have wc1_2 : W1 (n + 2) = eNa 60 := wk1
  have gg1 : ∀ d, d ≠ n + 2 → ad1 d = ad d := ag1
  refine r_aload_n F dX6_init_12 rfl ?_
  refine r_bipush (v := 60) F dX6_init_13 (by decide) ?_
  refine r_newI (n' := 60) F G (zin ka_int) (by decide) (by decide) (by decide) (by decide) (by decide) dX6_init_15 (fun q15 hq15 => ?_)
  refine r_putFq (v := some q15) (ci := 7) (k := 6) (id := 706) (C := RX6) (T := TX6) (N := 13) (ty := (.array .int)) (ty0 := tyX6) F G rfl (by decide) (by decide) rfl (zinL inG7) (zin kf_X6_15) (fun _ h9 => h9) tyX6_ok nmX6 rfl hnm rfl pd7_6 rfl rfl dX6_init_17 (zA.na (hH.al an1 ea1 hkn) hq15) ?_
  obtain ⟨ad2, W2, hH2, ea2, ag2, wn2, wk2, wd2⟩ := ar_fld (mm := 60) (id := 706) (k := n + 4) hH an1 ea1 hkn (by decide) (fun h9 => hfr4 (by show (W (n + 4)).1; rw [← wo1 (n + 4) (by omega) (by omega)]; exact h9)) (by omega) (by omega) hk4 (by decide) hq15
  refine zgen (P := zH t0 X S0 ad2 W2) hH2 (fun S hH => ?_)
  clear hH2
  rw [wn1] at wn2
  have an2 : oa W2 n := oa_eq wn2 trivial
  have wo2 : ∀ d, d ≠ n → d ≠ n + 2 → d ≠ n + 4 → W2 d = W d := fun d d0 d2 d4 => (wd2 d d0 d4).trans (wo1 d d0 d2)
  have wc2_2 : W2 (n + 2) = eNa 60 := (wd2 (n + 2) (by omega) (by omega)).trans wc1_2
  have wc2_4 : W2 (n + 4) = eNa 60 := wk2
  have gg2 : ∀ d, d ≠ n + 2 → d ≠ n + 4 → ad2 d = ad d := fun d d2 d4 => (ag2 d d4).trans (gg1 d d2)
  refine r_aload_n F dX6_init_20 rfl ?_
  refine r_bipush (v := 60) F dX6_init_21 (by decide) ?_
  refine r_newI (n' := 60) F G (zin ka_int) (by decide) (by decide) (by decide) (by decide) (by decide) dX6_init_23 (fun q23 hq23 => ?_)
  refine r_putFq (v := some q23) (ci := 7) (k := 7) (id := 707) (C := RX6) (T := TX6) (N := 13) (ty := (.array .int)) (ty0 := tyX6) F G rfl (by decide) (by decide) rfl (zinL inG7) (zin kf_X6_18) (fun _ h9 => h9) tyX6_ok nmX6 rfl hnm rfl pd7_7 rfl rfl dX6_init_25 (zA.na (hH.al an2 ea2 hkn) hq23) ?_
  obtain ⟨ad3, W3, hH3, ea3, ag3, wn3, wk3, wd3⟩ := ar_fld (mm := 60) (id := 707) (k := n + 6) hH an2 ea2 hkn (by decide) (fun h9 => hfr6 (by show (W (n + 6)).1; rw [← wo2 (n + 6) (by omega) (by omega) (by omega)]; exact h9)) (by omega) (by omega) hk6 (by decide) hq23
  refine zgen (P := zH t0 X S0 ad3 W3) hH3 (fun S hH => ?_)
  clear hH3
  rw [wn2] at wn3
  have an3 : oa W3 n := oa_eq wn3 trivial
  have wo3 : ∀ d, d ≠ n → d ≠ n + 2 → d ≠ n + 4 → d ≠ n + 6 → W3 d = W d := fun d d0 d2 d4 d6 => (wd3 d d0 d6).trans (wo2 d d0 d2 d4)
  have wc3_2 : W3 (n + 2) = eNa 60 := (wd3 (n + 2) (by omega) (by omega)).trans wc2_2
  have wc3_4 : W3 (n + 4) = eNa 60 := (wd3 (n + 4) (by omega) (by omega)).trans wc2_4
  have wc3_6 : W3 (n + 6) = eNa 60 := wk3
  have gg3 : ∀ d, d ≠ n + 2 → d ≠ n + 4 → d ≠ n + 6 → ad3 d = ad d := fun d d2 d4 d6 => (ag3 d d6).trans (gg2 d d2 d4)
  refine r_aload_n F dX6_init_28 rfl ?_
  refine r_bipush (v := 60) F dX6_init_29 (by decide) ?_
  refine r_newI (n' := 60) F G (zin ka_int) (by decide) (by decide) (by decide) (by decide) (by decide) dX6_init_31 (fun q31 hq31 => ?_)
  refine r_putFq (v := some q31) (ci := 7) (k := 8) (id := 708) (C := RX6) (T := TX6) (N := 13) (ty := (.array .int)) (ty0 := tyX6) F G rfl (by decide) (by decide) rfl (zinL inG7) (zin kf_X6_21) (fun _ h9 => h9) tyX6_ok nmX6 rfl hnm rfl pd7_8 rfl rfl dX6_init_33 (zA.na (hH.al an3 ea3 hkn) hq31) ?_
  obtain ⟨ad4, W4, hH4, ea4, ag4, wn4, wk4, wd4⟩ := ar_fld (mm := 60) (id := 708) (k := n + 8) hH an3 ea3 hkn (by decide) (fun h9 => hfr8 (by show (W (n + 8)).1; rw [← wo3 (n + 8) (by omega) (by omega) (by omega) (by omega)]; exact h9)) (by omega) (by omega) hk8 (by decide) hq31
  refine zgen (P := zH t0 X S0 ad4 W4) hH4 (fun S hH => ?_)
  clear hH4
  rw [wn3] at wn4
  have an4 : oa W4 n := oa_eq wn4 trivial
  have wo4 : ∀ d, d ≠ n → d ≠ n + 2 → d ≠ n + 4 → d ≠ n + 6 → d ≠ n + 8 → W4 d = W d := fun d d0 d2 d4 d6 d8 => (wd4 d d0 d8).trans (wo3 d d0 d2 d4 d6)
  have wc4_2 : W4 (n + 2) = eNa 60 := (wd4 (n + 2) (by omega) (by omega)).trans wc3_2
  have wc4_4 : W4 (n + 4) = eNa 60 := (wd4 (n + 4) (by omega) (by omega)).trans wc3_4
  have wc4_6 : W4 (n + 6) = eNa 60 := (wd4 (n + 6) (by omega) (by omega)).trans wc3_6
  have wc4_8 : W4 (n + 8) = eNa 60 := wk4
  have gg4 : ∀ d, d ≠ n + 2 → d ≠ n + 4 → d ≠ n + 6 → d ≠ n + 8 → ad4 d = ad d := fun d d2 d4 d6 d8 => (ag4 d d8).trans (gg3 d d2 d4 d6)
  refine r_aload_n F dX6_init_36 rfl ?_
  refine r_bipush (v := 60) F dX6_init_37 (by decide) ?_
  refine r_newI (n' := 60) F G (zin ka_int) (by decide) (by decide) (by decide) (by decide) (by decide) dX6_init_39 (fun q39 hq39 => ?_)
  refine r_putFq (v := some q39) (ci := 7) (k := 9) (id := 709) (C := RX6) (T := TX6) (N := 13) (ty := (.array .int)) (ty0 := tyX6) F G rfl (by decide) (by decide) rfl (zinL inG7) (zin kf_X6_24) (fun _ h9 => h9) tyX6_ok nmX6 rfl hnm rfl pd7_9 rfl rfl dX6_init_41 (zA.na (hH.al an4 ea4 hkn) hq39) ?_
  obtain ⟨ad5, W5, hH5, ea5, ag5, wn5, wk5, wd5⟩ := ar_fld (mm := 60) (id := 709) (k := n + 10) hH an4 ea4 hkn (by decide) (fun h9 => hfr10 (by show (W (n + 10)).1; rw [← wo4 (n + 10) (by omega) (by omega) (by omega) (by omega) (by omega)]; exact h9)) (by omega) (by omega) hk10 (by decide) hq39
  refine zgen (P := zH t0 X S0 ad5 W5) hH5 (fun S hH => ?_)
  clear hH5
  rw [wn4] at wn5
  have an5 : oa W5 n := oa_eq wn5 trivial
  have wo5 : ∀ d, d ≠ n → d ≠ n + 2 → d ≠ n + 4 → d ≠ n + 6 → d ≠ n + 8 → d ≠ n + 10 → W5 d = W d := fun d d0 d2 d4 d6 d8 d10 => (wd5 d d0 d10).trans (wo4 d d0 d2 d4 d6 d8)
  have wc5_2 : W5 (n + 2) = eNa 60 := (wd5 (n + 2) (by omega) (by omega)).trans wc4_2
  have wc5_4 : W5 (n + 4) = eNa 60 := (wd5 (n + 4) (by omega) (by omega)).trans wc4_4
  have wc5_6 : W5 (n + 6) = eNa 60 := (wd5 (n + 6) (by omega) (by omega)).trans wc4_6
  have wc5_8 : W5 (n + 8) = eNa 60 := (wd5 (n + 8) (by omega) (by omega)).trans wc4_8
  have wc5_10 : W5 (n + 10) = eNa 60 := wk5
  have gg5 : ∀ d, d ≠ n + 2 → d ≠ n + 4 → d ≠ n + 6 → d ≠ n + 8 → d ≠ n + 10 → ad5 d = ad d := fun d d2 d4 d6 d8 d10 => (ag5 d d10).trans (gg4 d d2 d4 d6 d8)
  refine r_aload_n F dX6_init_44 rfl ?_
  refine r_aload_n F dX6_init_45 rfl ?_
  refine r_putFq (v := (some (ad b))) (ci := 7) (k := 0) (id := 700) (C := RX6) (T := TX6) (N := 13) (ty := (.object "ObjectLinker$Unit")) (ty0 := tyX6) F G rfl (by decide) (by decide) rfl (zinL inG7) (zin kf_X6_27) (fun _ h9 => h9) tyX6_ok nmX6 rfl hnm rfl pd7_0 rfl rfl dX6_init_46 (hH.al an5 ea5 hkn) ?_
  obtain ⟨W6, hH6, wn6, wd6⟩ := rf_fld (id := 700) (x2 := (some (ad b))) hH an5 ea5 hkn (by decide) (some b) (by show _ = some (ad5 b); rw [gg5 b (by omega) (by omega) (by omega) (by omega) (by omega)]) (fun d hd => by cases hd; exact Or.inr ⟨oa_eq (wo5 b (by omega) (by omega) (by omega) (by omega) (by omega) (by omega)) hb, hbe⟩)
  refine zgen (P := zH t0 X S0 ad5 W6) hH6 (fun S hH => ?_)
  clear hH6
  rw [wn5] at wn6
  have an6 : oa W6 n := oa_eq wn6 trivial
  have wo6 : ∀ d, d ≠ n → d ≠ n + 2 → d ≠ n + 4 → d ≠ n + 6 → d ≠ n + 8 → d ≠ n + 10 → W6 d = W d := fun d d0 d2 d4 d6 d8 d10 => (wd6 d d0).trans (wo5 d d0 d2 d4 d6 d8 d10)
  have wc6_2 : W6 (n + 2) = eNa 60 := (wd6 (n + 2) (by omega)).trans wc5_2
  have wc6_4 : W6 (n + 4) = eNa 60 := (wd6 (n + 4) (by omega)).trans wc5_4
  have wc6_6 : W6 (n + 6) = eNa 60 := (wd6 (n + 6) (by omega)).trans wc5_6
  have wc6_8 : W6 (n + 8) = eNa 60 := (wd6 (n + 8) (by omega)).trans wc5_8
  have wc6_10 : W6 (n + 10) = eNa 60 := (wd6 (n + 10) (by omega)).trans wc5_10
  refine r_aload_n F dX6_init_49 rfl ?_
  refine r_iload_n F dX6_init_50 rfl ?_
  refine r_putFi (ci := 7) (k := 1) (id := 701) (C := RX6) (T := TX6) (N := 13) (ty := .int) (ty0 := tyX6) F G rfl (by decide) (by decide) rfl (zinL inG7) (zin kf_X6_31) (fun _ h9 => h9) tyX6_ok nmX6 rfl hnm rfl pd7_1 rfl rfl dX6_init_51 (hH.al an6 ea5 hkn) ?_
  obtain ⟨W7, hH7, wn7, wd7⟩ := it_fld (id := 701) hH an6 ea5 hkn (by decide) h
  refine zgen (P := zH t0 X S0 ad5 W7) hH7 (fun S hH => ?_)
  clear hH7
  rw [wn6] at wn7
  have an7 : oa W7 n := oa_eq wn7 trivial
  have wo7 : ∀ d, d ≠ n → d ≠ n + 2 → d ≠ n + 4 → d ≠ n + 6 → d ≠ n + 8 → d ≠ n + 10 → W7 d = W d := fun d d0 d2 d4 d6 d8 d10 => (wd7 d d0).trans (wo6 d d0 d2 d4 d6 d8 d10)
  have wc7_2 : W7 (n + 2) = eNa 60 := (wd7 (n + 2) (by omega)).trans wc6_2
  have wc7_4 : W7 (n + 4) = eNa 60 := (wd7 (n + 4) (by omega)).trans wc6_4
  have wc7_6 : W7 (n + 6) = eNa 60 := (wd7 (n + 6) (by omega)).trans wc6_6
  have wc7_8 : W7 (n + 8) = eNa 60 := (wd7 (n + 8) (by omega)).trans wc6_8
  have wc7_10 : W7 (n + 10) = eNa 60 := (wd7 (n + 10) (by omega)).trans wc6_10
  refine r_aload_n F dX6_init_54 rfl ?_
  refine r_iload_n F dX6_init_55 rfl ?_
  refine r_putFi (ci := 7) (k := 2) (id := 702) (C := RX6) (T := TX6) (N := 13) (ty := .int) (ty0 := tyX6) F G rfl (by decide) (by decide) rfl (zinL inG7) (zin kf_X6_35) (fun _ h9 => h9) tyX6_ok nmX6 rfl hnm rfl pd7_2 rfl rfl dX6_init_56 (hH.al an7 ea5 hkn) ?_
  obtain ⟨W8, hH8, wn8, wd8⟩ := it_fld (id := 702) hH an7 ea5 hkn (by decide) x
  refine zgen (P := zH t0 X S0 ad5 W8) hH8 (fun S hH => ?_)
  clear hH8
  rw [wn7] at wn8
  have an8 : oa W8 n := oa_eq wn8 trivial
  have wo8 : ∀ d, d ≠ n → d ≠ n + 2 → d ≠ n + 4 → d ≠ n + 6 → d ≠ n + 8 → d ≠ n + 10 → W8 d = W d := fun d d0 d2 d4 d6 d8 d10 => (wd8 d d0).trans (wo7 d d0 d2 d4 d6 d8 d10)
  have wc8_2 : W8 (n + 2) = eNa 60 := (wd8 (n + 2) (by omega)).trans wc7_2
  have wc8_4 : W8 (n + 4) = eNa 60 := (wd8 (n + 4) (by omega)).trans wc7_4
  have wc8_6 : W8 (n + 6) = eNa 60 := (wd8 (n + 6) (by omega)).trans wc7_6
  have wc8_8 : W8 (n + 8) = eNa 60 := (wd8 (n + 8) (by omega)).trans wc7_8
  have wc8_10 : W8 (n + 10) = eNa 60 := (wd8 (n + 10) (by omega)).trans wc7_10
  refine r_aload_n F dX6_init_59 rfl ?_
  refine r_iload F dX6_init_60 rfl ?_
  refine r_putFi (ci := 7) (k := 3) (id := 703) (C := RX6) (T := TX6) (N := 13) (ty := .int) (ty0 := tyX6) F G rfl (by decide) (by decide) rfl (zinL inG7) (zin kf_X6_38) (fun _ h9 => h9) tyX6_ok nmX6 rfl hnm rfl pd7_3 rfl rfl dX6_init_62 (hH.al an8 ea5 hkn) ?_
  obtain ⟨W9, hH9, wn9, wd9⟩ := it_fld (id := 703) hH an8 ea5 hkn (by decide) y
  refine zgen (P := zH t0 X S0 ad5 W9) hH9 (fun S hH => ?_)
  clear hH9
  rw [wn8] at wn9
  have an9 : oa W9 n := oa_eq wn9 trivial
  have wo9 : ∀ d, d ≠ n → d ≠ n + 2 → d ≠ n + 4 → d ≠ n + 6 → d ≠ n + 8 → d ≠ n + 10 → W9 d = W d := fun d d0 d2 d4 d6 d8 d10 => (wd9 d d0).trans (wo8 d d0 d2 d4 d6 d8 d10)
  have wc9_2 : W9 (n + 2) = eNa 60 := (wd9 (n + 2) (by omega)).trans wc8_2
  have wc9_4 : W9 (n + 4) = eNa 60 := (wd9 (n + 4) (by omega)).trans wc8_4
  have wc9_6 : W9 (n + 6) = eNa 60 := (wd9 (n + 6) (by omega)).trans wc8_6
  have wc9_8 : W9 (n + 8) = eNa 60 := (wd9 (n + 8) (by omega)).trans wc8_8
  have wc9_10 : W9 (n + 10) = eNa 60 := (wd9 (n + 10) (by omega)).trans wc8_10
  refine r_aload_n F dX6_init_65 rfl ?_
  refine r_iload F dX6_init_66 rfl ?_
  refine r_putFi (ci := 7) (k := 4) (id := 704) (C := RX6) (T := TX6) (N := 13) (ty := .int) (ty0 := tyX6) F G rfl (by decide) (by decide) rfl (zinL inG7) (zin kf_X6_41) (fun _ h9 => h9) tyX6_ok nmX6 rfl hnm rfl pd7_4 rfl rfl dX6_init_68 (hH.al an9 ea5 hkn) ?_
  obtain ⟨W10, hH10, wn10, wd10⟩ := it_fld (id := 704) hH an9 ea5 hkn (by decide) z
  refine zgen (P := zH t0 X S0 ad5 W10) hH10 (fun S hH => ?_)
  clear hH10
  rw [wn9] at wn10
  have an10 : oa W10 n := oa_eq wn10 trivial
  have wo10 : ∀ d, d ≠ n → d ≠ n + 2 → d ≠ n + 4 → d ≠ n + 6 → d ≠ n + 8 → d ≠ n + 10 → W10 d = W d := fun d d0 d2 d4 d6 d8 d10 => (wd10 d d0).trans (wo9 d d0 d2 d4 d6 d8 d10)
  have wc10_2 : W10 (n + 2) = eNa 60 := (wd10 (n + 2) (by omega)).trans wc9_2
  have wc10_4 : W10 (n + 4) = eNa 60 := (wd10 (n + 4) (by omega)).trans wc9_4
  have wc10_6 : W10 (n + 6) = eNa 60 := (wd10 (n + 6) (by omega)).trans wc9_6
  have wc10_8 : W10 (n + 8) = eNa 60 := (wd10 (n + 8) (by omega)).trans wc9_8
  have wc10_10 : W10 (n + 10) = eNa 60 := (wd10 (n + 10) (by omega)).trans wc9_10
  exact e_vret F hr hlk ⟨ad5, W10, hH, gg5, wo10, wn10, wc10_2, wc10_4, wc10_6, wc10_8, wc10_10⟩ (by first | decide | exact Nat.le_refl _ | omega) (by first | decide | exact Nat.le_of_eq (Nat.zero_add _) | omega) dX6_init_71
set_option maxRecDepth 100000 in
set_option maxHeartbeats 4000000 in
theorem c_SegmentInit {l : Launch} {N0 t0 : Nat} {D : va_G} {cy : Nat → ClassId} {S : zS} {X : Nat → Prop} {S0 : zS} {ad : Nat → Nat} {W : zO} (hH : zH t0 X S0 ad W S) {n a : Nat} (ea : ad n = a) (hkn : kd n = 8) (hev : n % 2 = 0) (hW : W n = eNo) (hfr2 : ¬ oa W (n + 2)) (hk2 : kd (n + 2) = 13) {z : Nat} {x : Int32} (hz : z ≤ 64) : zMv l yX7_init (zws yX7_init cX7_init 3 none) { frames := 1, cells := 1, slots := z, locals := 12 } N0 t0 D cy S [.ref a, .int (nI z), .int x] (fun S' => ∃ (ad' : Nat → Nat) (W' : zO), zH t0 X S0 ad' W' S' ∧ (∀ d, d ≠ n + 2 → ad' d = ad d) ∧ (∀ d, d ≠ n → d ≠ n + 2 → W' d = W d) ∧ W' n = eI (eQ (eNo) 800 (some (n + 2))) 801 (1 <<< (x &&& 31)) ∧ W' (n + 2) = eNa z) 1 z := by
  refine zMv.of (cc := cX7_init) (maxL := 3) (ret := none) (by decide) rfl (Nat.le_of_ble_eq_true rfl) ?_
  intro p e s m args below meth c F G hr hlk hnm
  refine r_aload_n F dX7_init_0 rfl ?_
  refine r_objInit F (zin km_X7_1) (zin ki_Object_init) (zin ko_Object_init) dX7_init_1 (Nat.le_of_ble_eq_true rfl) (Nat.le_of_ble_eq_true rfl) ?_
  have an : oa W n := oa_eq hW trivial
  refine r_aload_n F dX7_init_4 rfl ?_
  refine r_iload_n F dX7_init_5 rfl ?_
  refine r_newB (n' := z) F G (zin ka_byte) (nI_pos (by omega)) (nI_clamp (by omega)) (by show z * 1 ≤ _; omega) (Nat.le_refl _) (Nat.le_of_eq (Nat.zero_add _)) dX7_init_6 (fun q6 hq6 => ?_)
  refine r_putFq (v := some q6) (ci := 8) (k := 0) (id := 800) (C := RX7) (T := TX7) (N := 3) (ty := (.array .byte)) (ty0 := tyX7) F G rfl (by decide) (by decide) rfl (zinL inG8) (zin kf_X7_7) (fun _ h9 => h9) tyX7_ok nmX7 rfl hnm rfl pd8_0 rfl rfl dX7_init_8 (zA.na (hH.al an ea hkn) hq6) ?_
  obtain ⟨ad1, W1, hH1, ea1, ag1, wn1, wk1, wd1⟩ := ar_fld (mm := z) (id := 800) (k := n + 2) hH an ea hkn (by decide) hfr2 (by omega) (by omega) hk2 (by decide) hq6
  refine zgen (P := zH t0 X S0 ad1 W1) hH1 (fun S hH => ?_)
  clear hH1
  rw [hW] at wn1
  have an1 : oa W1 n := oa_eq wn1 trivial
  have wo1 : ∀ d, d ≠ n → d ≠ n + 2 → W1 d = W d := fun d d0 d2 => wd1 d d0 d2
  have wc1_2 : W1 (n + 2) = eNa z := wk1
  have gg1 : ∀ d, d ≠ n + 2 → ad1 d = ad d := ag1
  refine r_aload_n F dX7_init_11 rfl ?_
  refine r_iconst (v := 1) F dX7_init_12 (by decide) ?_
  refine r_iload_n F dX7_init_13 rfl ?_
  refine r_ishl F dX7_init_14 ?_
  refine r_putFi (ci := 8) (k := 1) (id := 801) (C := RX7) (T := TX7) (N := 3) (ty := .int) (ty0 := tyX7) F G rfl (by decide) (by decide) rfl (zinL inG8) (zin kf_X7_13) (fun _ h9 => h9) tyX7_ok nmX7 rfl hnm rfl pd8_1 rfl rfl dX7_init_15 (hH.al an1 ea1 hkn) ?_
  obtain ⟨W2, hH2, wn2, wd2⟩ := it_fld (id := 801) hH an1 ea1 hkn (by decide) (1 <<< (x &&& 31))
  refine zgen (P := zH t0 X S0 ad1 W2) hH2 (fun S hH => ?_)
  clear hH2
  rw [wn1] at wn2
  have an2 : oa W2 n := oa_eq wn2 trivial
  have wo2 : ∀ d, d ≠ n → d ≠ n + 2 → W2 d = W d := fun d d0 d2 => (wd2 d d0).trans (wo1 d d0 d2)
  have wc2_2 : W2 (n + 2) = eNa z := (wd2 (n + 2) (by omega)).trans wc1_2
  exact e_vret F hr hlk ⟨ad1, W2, hH, gg1, wo2, wn2, wc2_2⟩ (by first | decide | exact Nat.le_refl _ | omega) (by first | decide | exact Nat.le_of_eq (Nat.zero_add _) | omega) dX7_init_18
set_option maxRecDepth 100000 in
set_option maxHeartbeats 4000000 in
theorem c_SymbolInitR {l : Launch} {N0 t0 : Nat} {D : va_G} {cy : Nat → ClassId} {S : zS} {X : Nat → Prop} {S0 : zS} {ad : Nat → Nat} {W : zO} (hH : zH t0 X S0 ad W S) {n a : Nat} (ea : ad n = a) (hkn : kd n = 9) (hev : n % 2 = 0) (hW : W n = eNo) {h w x y z : Int32} {b : Nat} (hb : oa W b) (hbe : b % 2 = 0) (hbn : b < n) : zMv l yX8_init (zws yX8_init cX8_init 8 none) { frames := 1, cells := 0, slots := 0, locals := 12 } N0 t0 D cy S [.ref a, .int h, .int w, .int x, .int y, .ref (ad b), .null, .int z] (fun S' => ∃ (ad' : Nat → Nat) (W' : zO), zH t0 X S0 ad' W' S' ∧ (∀ d, ad' d = ad d) ∧ (∀ d, d ≠ n → W' d = W d) ∧ W' n = eI (eQ (eQ (eI (eI (eI (eI (eNo) 900 h) 901 w) 902 x) 903 y) 904 (some b)) 905 none) 906 z) 0 0 := by
  refine zMv.of (cc := cX8_init) (maxL := 8) (ret := none) (by decide) rfl (Nat.le_of_ble_eq_true rfl) ?_
  intro p e s m args below meth c F G hr hlk hnm
  refine r_aload_n F dX8_init_0 rfl ?_
  refine r_objInit F (zin km_X8_1) (zin ki_Object_init) (zin ko_Object_init) dX8_init_1 (Nat.le_of_ble_eq_true rfl) (Nat.le_of_ble_eq_true rfl) ?_
  have an : oa W n := oa_eq hW trivial
  refine r_aload_n F dX8_init_4 rfl ?_
  refine r_iload_n F dX8_init_5 rfl ?_
  refine r_putFi (ci := 9) (k := 0) (id := 900) (C := RX8) (T := TX8) (N := 8) (ty := .int) (ty0 := tyX8) F G rfl (by decide) (by decide) rfl (zinL inG9) (zin kf_X8_7) (fun _ h9 => h9) tyX8_ok nmX8 rfl hnm rfl pd9_0 rfl rfl dX8_init_6 (hH.al an ea hkn) ?_
  obtain ⟨W1, hH1, wn1, wd1⟩ := it_fld (id := 900) hH an ea hkn (by decide) h
  refine zgen (P := zH t0 X S0 ad W1) hH1 (fun S hH => ?_)
  clear hH1
  rw [hW] at wn1
  have an1 : oa W1 n := oa_eq wn1 trivial
  have wo1 : ∀ d, d ≠ n → W1 d = W d := fun d d0 => wd1 d d0
  refine r_aload_n F dX8_init_9 rfl ?_
  refine r_iload_n F dX8_init_10 rfl ?_
  refine r_putFi (ci := 9) (k := 1) (id := 901) (C := RX8) (T := TX8) (N := 8) (ty := .int) (ty0 := tyX8) F G rfl (by decide) (by decide) rfl (zinL inG9) (zin kf_X8_13) (fun _ h9 => h9) tyX8_ok nmX8 rfl hnm rfl pd9_1 rfl rfl dX8_init_11 (hH.al an1 ea hkn) ?_
  obtain ⟨W2, hH2, wn2, wd2⟩ := it_fld (id := 901) hH an1 ea hkn (by decide) w
  refine zgen (P := zH t0 X S0 ad W2) hH2 (fun S hH => ?_)
  clear hH2
  rw [wn1] at wn2
  have an2 : oa W2 n := oa_eq wn2 trivial
  have wo2 : ∀ d, d ≠ n → W2 d = W d := fun d d0 => (wd2 d d0).trans (wo1 d d0)
  refine r_aload_n F dX8_init_14 rfl ?_
  refine r_iload_n F dX8_init_15 rfl ?_
  refine r_putFi (ci := 9) (k := 2) (id := 902) (C := RX8) (T := TX8) (N := 8) (ty := .int) (ty0 := tyX8) F G rfl (by decide) (by decide) rfl (zinL inG9) (zin kf_X8_16) (fun _ h9 => h9) tyX8_ok nmX8 rfl hnm rfl pd9_2 rfl rfl dX8_init_16 (hH.al an2 ea hkn) ?_
  obtain ⟨W3, hH3, wn3, wd3⟩ := it_fld (id := 902) hH an2 ea hkn (by decide) x
  refine zgen (P := zH t0 X S0 ad W3) hH3 (fun S hH => ?_)
  clear hH3
  rw [wn2] at wn3
  have an3 : oa W3 n := oa_eq wn3 trivial
  have wo3 : ∀ d, d ≠ n → W3 d = W d := fun d d0 => (wd3 d d0).trans (wo2 d d0)
  refine r_aload_n F dX8_init_19 rfl ?_
  refine r_iload F dX8_init_20 rfl ?_
  refine r_putFi (ci := 9) (k := 3) (id := 903) (C := RX8) (T := TX8) (N := 8) (ty := .int) (ty0 := tyX8) F G rfl (by decide) (by decide) rfl (zinL inG9) (zin kf_X8_19) (fun _ h9 => h9) tyX8_ok nmX8 rfl hnm rfl pd9_3 rfl rfl dX8_init_22 (hH.al an3 ea hkn) ?_
  obtain ⟨W4, hH4, wn4, wd4⟩ := it_fld (id := 903) hH an3 ea hkn (by decide) y
  refine zgen (P := zH t0 X S0 ad W4) hH4 (fun S hH => ?_)
  clear hH4
  rw [wn3] at wn4
  have an4 : oa W4 n := oa_eq wn4 trivial
  have wo4 : ∀ d, d ≠ n → W4 d = W d := fun d d0 => (wd4 d d0).trans (wo3 d d0)
  refine r_aload_n F dX8_init_25 rfl ?_
  refine r_aload F dX8_init_26 rfl ?_
  refine r_putFq (v := (some (ad b))) (ci := 9) (k := 4) (id := 904) (C := RX8) (T := TX8) (N := 8) (ty := (.object "ObjectLinker$Routine")) (ty0 := tyX8) F G rfl (by decide) (by decide) rfl (zinL inG9) (zin kf_X8_22) (fun _ h9 => h9) tyX8_ok nmX8 rfl hnm rfl pd9_4 rfl rfl dX8_init_28 (hH.al an4 ea hkn) ?_
  obtain ⟨W5, hH5, wn5, wd5⟩ := rf_fld (id := 904) (x2 := (some (ad b))) hH an4 ea hkn (by decide) (some b) rfl (fun d hd => by cases hd; exact Or.inr ⟨oa_eq (wo4 b (by omega)) hb, hbe⟩)
  refine zgen (P := zH t0 X S0 ad W5) hH5 (fun S hH => ?_)
  clear hH5
  rw [wn4] at wn5
  have an5 : oa W5 n := oa_eq wn5 trivial
  have wo5 : ∀ d, d ≠ n → W5 d = W d := fun d d0 => (wd5 d d0).trans (wo4 d d0)
  refine r_aload_n F dX8_init_31 rfl ?_
  refine r_aloadQ (x := none) F dX8_init_32 rfl ?_
  refine r_putFq (v := none) (ci := 9) (k := 5) (id := 905) (C := RX8) (T := TX8) (N := 8) (ty := (.object "ObjectLinker$Segment")) (ty0 := tyX8) F G rfl (by decide) (by decide) rfl (zinL inG9) (zin kf_X8_26) (fun _ h9 => h9) tyX8_ok nmX8 rfl hnm rfl pd9_5 rfl rfl dX8_init_34 (hH.al an5 ea hkn) ?_
  obtain ⟨W6, hH6, wn6, wd6⟩ := rf_fld (id := 905) (x2 := none) hH an5 ea hkn (by decide) none rfl (fun d hd => by cases hd)
  refine zgen (P := zH t0 X S0 ad W6) hH6 (fun S hH => ?_)
  clear hH6
  rw [wn5] at wn6
  have an6 : oa W6 n := oa_eq wn6 trivial
  have wo6 : ∀ d, d ≠ n → W6 d = W d := fun d d0 => (wd6 d d0).trans (wo5 d d0)
  refine r_aload_n F dX8_init_37 rfl ?_
  refine r_iload F dX8_init_38 rfl ?_
  refine r_putFi (ci := 9) (k := 6) (id := 906) (C := RX8) (T := TX8) (N := 8) (ty := .int) (ty0 := tyX8) F G rfl (by decide) (by decide) rfl (zinL inG9) (zin kf_X8_30) (fun _ h9 => h9) tyX8_ok nmX8 rfl hnm rfl pd9_6 rfl rfl dX8_init_40 (hH.al an6 ea hkn) ?_
  obtain ⟨W7, hH7, wn7, wd7⟩ := it_fld (id := 906) hH an6 ea hkn (by decide) z
  refine zgen (P := zH t0 X S0 ad W7) hH7 (fun S hH => ?_)
  clear hH7
  rw [wn6] at wn7
  have an7 : oa W7 n := oa_eq wn7 trivial
  have wo7 : ∀ d, d ≠ n → W7 d = W d := fun d d0 => (wd7 d d0).trans (wo6 d d0)
  exact e_vret F hr hlk ⟨ad, W7, hH, fun _ => rfl, wo7, wn7⟩ (by first | decide | exact Nat.le_refl _ | omega) (by first | decide | exact Nat.le_of_eq (Nat.zero_add _) | omega) dX8_init_43
set_option maxRecDepth 100000 in
set_option maxHeartbeats 4000000 in
theorem c_SymbolInitG {l : Launch} {N0 t0 : Nat} {D : va_G} {cy : Nat → ClassId} {S : zS} {X : Nat → Prop} {S0 : zS} {ad : Nat → Nat} {W : zO} (hH : zH t0 X S0 ad W S) {n a : Nat} (ea : ad n = a) (hkn : kd n = 9) (hev : n % 2 = 0) (hW : W n = eNo) {h w x y z : Int32} {b : Nat} (hb : oa W b) (hbe : b % 2 = 0) (hbn : b < n) : zMv l yX8_init (zws yX8_init cX8_init 8 none) { frames := 1, cells := 0, slots := 0, locals := 12 } N0 t0 D cy S [.ref a, .int h, .int w, .int x, .int y, .null, .ref (ad b), .int z] (fun S' => ∃ (ad' : Nat → Nat) (W' : zO), zH t0 X S0 ad' W' S' ∧ (∀ d, ad' d = ad d) ∧ (∀ d, d ≠ n → W' d = W d) ∧ W' n = eI (eQ (eQ (eI (eI (eI (eI (eNo) 900 h) 901 w) 902 x) 903 y) 904 none) 905 (some b)) 906 z) 0 0 := by
  refine zMv.of (cc := cX8_init) (maxL := 8) (ret := none) (by decide) rfl (Nat.le_of_ble_eq_true rfl) ?_
  intro p e s m args below meth c F G hr hlk hnm
  refine r_aload_n F dX8_init_0 rfl ?_
  refine r_objInit F (zin km_X8_1) (zin ki_Object_init) (zin ko_Object_init) dX8_init_1 (Nat.le_of_ble_eq_true rfl) (Nat.le_of_ble_eq_true rfl) ?_
  have an : oa W n := oa_eq hW trivial
  refine r_aload_n F dX8_init_4 rfl ?_
  refine r_iload_n F dX8_init_5 rfl ?_
  refine r_putFi (ci := 9) (k := 0) (id := 900) (C := RX8) (T := TX8) (N := 8) (ty := .int) (ty0 := tyX8) F G rfl (by decide) (by decide) rfl (zinL inG9) (zin kf_X8_7) (fun _ h9 => h9) tyX8_ok nmX8 rfl hnm rfl pd9_0 rfl rfl dX8_init_6 (hH.al an ea hkn) ?_
  obtain ⟨W1, hH1, wn1, wd1⟩ := it_fld (id := 900) hH an ea hkn (by decide) h
  refine zgen (P := zH t0 X S0 ad W1) hH1 (fun S hH => ?_)
  clear hH1
  rw [hW] at wn1
  have an1 : oa W1 n := oa_eq wn1 trivial
  have wo1 : ∀ d, d ≠ n → W1 d = W d := fun d d0 => wd1 d d0
  refine r_aload_n F dX8_init_9 rfl ?_
  refine r_iload_n F dX8_init_10 rfl ?_
  refine r_putFi (ci := 9) (k := 1) (id := 901) (C := RX8) (T := TX8) (N := 8) (ty := .int) (ty0 := tyX8) F G rfl (by decide) (by decide) rfl (zinL inG9) (zin kf_X8_13) (fun _ h9 => h9) tyX8_ok nmX8 rfl hnm rfl pd9_1 rfl rfl dX8_init_11 (hH.al an1 ea hkn) ?_
  obtain ⟨W2, hH2, wn2, wd2⟩ := it_fld (id := 901) hH an1 ea hkn (by decide) w
  refine zgen (P := zH t0 X S0 ad W2) hH2 (fun S hH => ?_)
  clear hH2
  rw [wn1] at wn2
  have an2 : oa W2 n := oa_eq wn2 trivial
  have wo2 : ∀ d, d ≠ n → W2 d = W d := fun d d0 => (wd2 d d0).trans (wo1 d d0)
  refine r_aload_n F dX8_init_14 rfl ?_
  refine r_iload_n F dX8_init_15 rfl ?_
  refine r_putFi (ci := 9) (k := 2) (id := 902) (C := RX8) (T := TX8) (N := 8) (ty := .int) (ty0 := tyX8) F G rfl (by decide) (by decide) rfl (zinL inG9) (zin kf_X8_16) (fun _ h9 => h9) tyX8_ok nmX8 rfl hnm rfl pd9_2 rfl rfl dX8_init_16 (hH.al an2 ea hkn) ?_
  obtain ⟨W3, hH3, wn3, wd3⟩ := it_fld (id := 902) hH an2 ea hkn (by decide) x
  refine zgen (P := zH t0 X S0 ad W3) hH3 (fun S hH => ?_)
  clear hH3
  rw [wn2] at wn3
  have an3 : oa W3 n := oa_eq wn3 trivial
  have wo3 : ∀ d, d ≠ n → W3 d = W d := fun d d0 => (wd3 d d0).trans (wo2 d d0)
  refine r_aload_n F dX8_init_19 rfl ?_
  refine r_iload F dX8_init_20 rfl ?_
  refine r_putFi (ci := 9) (k := 3) (id := 903) (C := RX8) (T := TX8) (N := 8) (ty := .int) (ty0 := tyX8) F G rfl (by decide) (by decide) rfl (zinL inG9) (zin kf_X8_19) (fun _ h9 => h9) tyX8_ok nmX8 rfl hnm rfl pd9_3 rfl rfl dX8_init_22 (hH.al an3 ea hkn) ?_
  obtain ⟨W4, hH4, wn4, wd4⟩ := it_fld (id := 903) hH an3 ea hkn (by decide) y
  refine zgen (P := zH t0 X S0 ad W4) hH4 (fun S hH => ?_)
  clear hH4
  rw [wn3] at wn4
  have an4 : oa W4 n := oa_eq wn4 trivial
  have wo4 : ∀ d, d ≠ n → W4 d = W d := fun d d0 => (wd4 d d0).trans (wo3 d d0)
  refine r_aload_n F dX8_init_25 rfl ?_
  refine r_aloadQ (x := none) F dX8_init_26 rfl ?_
  refine r_putFq (v := none) (ci := 9) (k := 4) (id := 904) (C := RX8) (T := TX8) (N := 8) (ty := (.object "ObjectLinker$Routine")) (ty0 := tyX8) F G rfl (by decide) (by decide) rfl (zinL inG9) (zin kf_X8_22) (fun _ h9 => h9) tyX8_ok nmX8 rfl hnm rfl pd9_4 rfl rfl dX8_init_28 (hH.al an4 ea hkn) ?_
  obtain ⟨W5, hH5, wn5, wd5⟩ := rf_fld (id := 904) (x2 := none) hH an4 ea hkn (by decide) none rfl (fun d hd => by cases hd)
  refine zgen (P := zH t0 X S0 ad W5) hH5 (fun S hH => ?_)
  clear hH5
  rw [wn4] at wn5
  have an5 : oa W5 n := oa_eq wn5 trivial
  have wo5 : ∀ d, d ≠ n → W5 d = W d := fun d d0 => (wd5 d d0).trans (wo4 d d0)
  refine r_aload_n F dX8_init_31 rfl ?_
  refine r_aload F dX8_init_32 rfl ?_
  refine r_putFq (v := (some (ad b))) (ci := 9) (k := 5) (id := 905) (C := RX8) (T := TX8) (N := 8) (ty := (.object "ObjectLinker$Segment")) (ty0 := tyX8) F G rfl (by decide) (by decide) rfl (zinL inG9) (zin kf_X8_26) (fun _ h9 => h9) tyX8_ok nmX8 rfl hnm rfl pd9_5 rfl rfl dX8_init_34 (hH.al an5 ea hkn) ?_
  obtain ⟨W6, hH6, wn6, wd6⟩ := rf_fld (id := 905) (x2 := (some (ad b))) hH an5 ea hkn (by decide) (some b) rfl (fun d hd => by cases hd; exact Or.inr ⟨oa_eq (wo5 b (by omega)) hb, hbe⟩)
  refine zgen (P := zH t0 X S0 ad W6) hH6 (fun S hH => ?_)
  clear hH6
  rw [wn5] at wn6
  have an6 : oa W6 n := oa_eq wn6 trivial
  have wo6 : ∀ d, d ≠ n → W6 d = W d := fun d d0 => (wd6 d d0).trans (wo5 d d0)
  refine r_aload_n F dX8_init_37 rfl ?_
  refine r_iload F dX8_init_38 rfl ?_
  refine r_putFi (ci := 9) (k := 6) (id := 906) (C := RX8) (T := TX8) (N := 8) (ty := .int) (ty0 := tyX8) F G rfl (by decide) (by decide) rfl (zinL inG9) (zin kf_X8_30) (fun _ h9 => h9) tyX8_ok nmX8 rfl hnm rfl pd9_6 rfl rfl dX8_init_40 (hH.al an6 ea hkn) ?_
  obtain ⟨W7, hH7, wn7, wd7⟩ := it_fld (id := 906) hH an6 ea hkn (by decide) z
  refine zgen (P := zH t0 X S0 ad W7) hH7 (fun S hH => ?_)
  clear hH7
  rw [wn6] at wn7
  have an7 : oa W7 n := oa_eq wn7 trivial
  have wo7 : ∀ d, d ≠ n → W7 d = W d := fun d d0 => (wd7 d d0).trans (wo6 d d0)
  exact e_vret F hr hlk ⟨ad, W7, hH, fun _ => rfl, wo7, wn7⟩ (by first | decide | exact Nat.le_refl _ | omega) (by first | decide | exact Nat.le_of_eq (Nat.zero_add _) | omega) dX8_init_43
set_option maxRecDepth 100000 in
set_option maxHeartbeats 4000000 in
theorem c_SymbolInitN {l : Launch} {N0 t0 : Nat} {D : va_G} {cy : Nat → ClassId} {S : zS} {X : Nat → Prop} {S0 : zS} {ad : Nat → Nat} {W : zO} (hH : zH t0 X S0 ad W S) {n a : Nat} (ea : ad n = a) (hkn : kd n = 9) (hev : n % 2 = 0) (hW : W n = eNo) {h w x y z : Int32} : zMv l yX8_init (zws yX8_init cX8_init 8 none) { frames := 1, cells := 0, slots := 0, locals := 12 } N0 t0 D cy S [.ref a, .int h, .int w, .int x, .int y, .null, .null, .int z] (fun S' => ∃ (ad' : Nat → Nat) (W' : zO), zH t0 X S0 ad' W' S' ∧ (∀ d, ad' d = ad d) ∧ (∀ d, d ≠ n → W' d = W d) ∧ W' n = eI (eQ (eQ (eI (eI (eI (eI (eNo) 900 h) 901 w) 902 x) 903 y) 904 none) 905 none) 906 z) 0 0 := by
  refine zMv.of (cc := cX8_init) (maxL := 8) (ret := none) (by decide) rfl (Nat.le_of_ble_eq_true rfl) ?_
  intro p e s m args below meth c F G hr hlk hnm
  refine r_aload_n F dX8_init_0 rfl ?_
  refine r_objInit F (zin km_X8_1) (zin ki_Object_init) (zin ko_Object_init) dX8_init_1 (Nat.le_of_ble_eq_true rfl) (Nat.le_of_ble_eq_true rfl) ?_
  have an : oa W n := oa_eq hW trivial
  refine r_aload_n F dX8_init_4 rfl ?_
  refine r_iload_n F dX8_init_5 rfl ?_
  refine r_putFi (ci := 9) (k := 0) (id := 900) (C := RX8) (T := TX8) (N := 8) (ty := .int) (ty0 := tyX8) F G rfl (by decide) (by decide) rfl (zinL inG9) (zin kf_X8_7) (fun _ h9 => h9) tyX8_ok nmX8 rfl hnm rfl pd9_0 rfl rfl dX8_init_6 (hH.al an ea hkn) ?_
  obtain ⟨W1, hH1, wn1, wd1⟩ := it_fld (id := 900) hH an ea hkn (by decide) h
  refine zgen (P := zH t0 X S0 ad W1) hH1 (fun S hH => ?_)
  clear hH1
  rw [hW] at wn1
  have an1 : oa W1 n := oa_eq wn1 trivial
  have wo1 : ∀ d, d ≠ n → W1 d = W d := fun d d0 => wd1 d d0
  refine r_aload_n F dX8_init_9 rfl ?_
  refine r_iload_n F dX8_init_10 rfl ?_
  refine r_putFi (ci := 9) (k := 1) (id := 901) (C := RX8) (T := TX8) (N := 8) (ty := .int) (ty0 := tyX8) F G rfl (by decide) (by decide) rfl (zinL inG9) (zin kf_X8_13) (fun _ h9 => h9) tyX8_ok nmX8 rfl hnm rfl pd9_1 rfl rfl dX8_init_11 (hH.al an1 ea hkn) ?_
  obtain ⟨W2, hH2, wn2, wd2⟩ := it_fld (id := 901) hH an1 ea hkn (by decide) w
  refine zgen (P := zH t0 X S0 ad W2) hH2 (fun S hH => ?_)
  clear hH2
  rw [wn1] at wn2
  have an2 : oa W2 n := oa_eq wn2 trivial
  have wo2 : ∀ d, d ≠ n → W2 d = W d := fun d d0 => (wd2 d d0).trans (wo1 d d0)
  refine r_aload_n F dX8_init_14 rfl ?_
  refine r_iload_n F dX8_init_15 rfl ?_
  refine r_putFi (ci := 9) (k := 2) (id := 902) (C := RX8) (T := TX8) (N := 8) (ty := .int) (ty0 := tyX8) F G rfl (by decide) (by decide) rfl (zinL inG9) (zin kf_X8_16) (fun _ h9 => h9) tyX8_ok nmX8 rfl hnm rfl pd9_2 rfl rfl dX8_init_16 (hH.al an2 ea hkn) ?_
  obtain ⟨W3, hH3, wn3, wd3⟩ := it_fld (id := 902) hH an2 ea hkn (by decide) x
  refine zgen (P := zH t0 X S0 ad W3) hH3 (fun S hH => ?_)
  clear hH3
  rw [wn2] at wn3
  have an3 : oa W3 n := oa_eq wn3 trivial
  have wo3 : ∀ d, d ≠ n → W3 d = W d := fun d d0 => (wd3 d d0).trans (wo2 d d0)
  refine r_aload_n F dX8_init_19 rfl ?_
  refine r_iload F dX8_init_20 rfl ?_
  refine r_putFi (ci := 9) (k := 3) (id := 903) (C := RX8) (T := TX8) (N := 8) (ty := .int) (ty0 := tyX8) F G rfl (by decide) (by decide) rfl (zinL inG9) (zin kf_X8_19) (fun _ h9 => h9) tyX8_ok nmX8 rfl hnm rfl pd9_3 rfl rfl dX8_init_22 (hH.al an3 ea hkn) ?_
  obtain ⟨W4, hH4, wn4, wd4⟩ := it_fld (id := 903) hH an3 ea hkn (by decide) y
  refine zgen (P := zH t0 X S0 ad W4) hH4 (fun S hH => ?_)
  clear hH4
  rw [wn3] at wn4
  have an4 : oa W4 n := oa_eq wn4 trivial
  have wo4 : ∀ d, d ≠ n → W4 d = W d := fun d d0 => (wd4 d d0).trans (wo3 d d0)
  refine r_aload_n F dX8_init_25 rfl ?_
  refine r_aloadQ (x := none) F dX8_init_26 rfl ?_
  refine r_putFq (v := none) (ci := 9) (k := 4) (id := 904) (C := RX8) (T := TX8) (N := 8) (ty := (.object "ObjectLinker$Routine")) (ty0 := tyX8) F G rfl (by decide) (by decide) rfl (zinL inG9) (zin kf_X8_22) (fun _ h9 => h9) tyX8_ok nmX8 rfl hnm rfl pd9_4 rfl rfl dX8_init_28 (hH.al an4 ea hkn) ?_
  obtain ⟨W5, hH5, wn5, wd5⟩ := rf_fld (id := 904) (x2 := none) hH an4 ea hkn (by decide) none rfl (fun d hd => by cases hd)
  refine zgen (P := zH t0 X S0 ad W5) hH5 (fun S hH => ?_)
  clear hH5
  rw [wn4] at wn5
  have an5 : oa W5 n := oa_eq wn5 trivial
  have wo5 : ∀ d, d ≠ n → W5 d = W d := fun d d0 => (wd5 d d0).trans (wo4 d d0)
  refine r_aload_n F dX8_init_31 rfl ?_
  refine r_aloadQ (x := none) F dX8_init_32 rfl ?_
  refine r_putFq (v := none) (ci := 9) (k := 5) (id := 905) (C := RX8) (T := TX8) (N := 8) (ty := (.object "ObjectLinker$Segment")) (ty0 := tyX8) F G rfl (by decide) (by decide) rfl (zinL inG9) (zin kf_X8_26) (fun _ h9 => h9) tyX8_ok nmX8 rfl hnm rfl pd9_5 rfl rfl dX8_init_34 (hH.al an5 ea hkn) ?_
  obtain ⟨W6, hH6, wn6, wd6⟩ := rf_fld (id := 905) (x2 := none) hH an5 ea hkn (by decide) none rfl (fun d hd => by cases hd)
  refine zgen (P := zH t0 X S0 ad W6) hH6 (fun S hH => ?_)
  clear hH6
  rw [wn5] at wn6
  have an6 : oa W6 n := oa_eq wn6 trivial
  have wo6 : ∀ d, d ≠ n → W6 d = W d := fun d d0 => (wd6 d d0).trans (wo5 d d0)
  refine r_aload_n F dX8_init_37 rfl ?_
  refine r_iload F dX8_init_38 rfl ?_
  refine r_putFi (ci := 9) (k := 6) (id := 906) (C := RX8) (T := TX8) (N := 8) (ty := .int) (ty0 := tyX8) F G rfl (by decide) (by decide) rfl (zinL inG9) (zin kf_X8_30) (fun _ h9 => h9) tyX8_ok nmX8 rfl hnm rfl pd9_6 rfl rfl dX8_init_40 (hH.al an6 ea hkn) ?_
  obtain ⟨W7, hH7, wn7, wd7⟩ := it_fld (id := 906) hH an6 ea hkn (by decide) z
  refine zgen (P := zH t0 X S0 ad W7) hH7 (fun S hH => ?_)
  clear hH7
  rw [wn6] at wn7
  have an7 : oa W7 n := oa_eq wn7 trivial
  have wo7 : ∀ d, d ≠ n → W7 d = W d := fun d d0 => (wd7 d d0).trans (wo6 d d0)
  exact e_vret F hr hlk ⟨ad, W7, hH, fun _ => rfl, wo7, wn7⟩ (by first | decide | exact Nat.le_refl _ | omega) (by first | decide | exact Nat.le_of_eq (Nat.zero_add _) | omega) dX8_init_43
