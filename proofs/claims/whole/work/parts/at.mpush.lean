/-- x is pushed at h; the upper one is taken -/
abbrev mPu (M : mKt) (h : Nat) (x : Int64) : mKt := (va_up M.1 406 (nI (h + 1)), M.2.1, M.2.2.1, vp_updL M.2.2.2.1 h x, M.2.2.2.2)
abbrev mHt (M : mKt) (h : Nat) : mKt := (va_up M.1 406 (nI h), M.2)
set_option maxRecDepth 100000 in
set_option maxHeartbeats 4000000 in
theorem c_mpush {l : Launch} {N0 t0 : Nat} {D : va_G} {cy : Nat → ClassId} {S : zS} {X : Nat → Prop} {S0 : zS} {ad : Nat → Nat} {W : zO} {M : mKt} (hw : wr W) (a14 : oa W 14) (hH : zH t0 X S0 ad (mW W M) S) {h : Nat} {x : Int64} (hh : M.1 406 = nI h) (hb : h < 2720) : zMv l yX3_push (zws yX3_push cX3_push 3 none) { frames := 0, cells := 0, slots := 0, locals := 0 } N0 t0 D cy S [.ref (ad 14), .long x] (fun S' => zH t0 X S0 ad (mW W (mPu M h x)) S') 0 0 := by
  refine zMv.of (cc := cX3_push) (maxL := 3) (ret := none) (by decide) rfl (Nat.le_of_ble_eq_true rfl) ?_
  intro p e s m args below meth c F G hr hlk hnm
  have b14 : oa (mW W M) 14 := mW_a.mpr a14
  have hwM : wr (mW W M) := mW_wr hw
  have A0 : zA S (ad 14) 4 := hH.al b14 rfl rfl
  have Q50 : zq S 400 (ad 14) = some (ad 50) := hH.qS b14 rfl (by decide) (hwM.q b14 (by decide) rfl) rfl
  have b50 : oa (mW W M) 50 := hwM.a b14 (id := 400) (by decide) rfl
  have n50 : onn (mW W M) 50 = 2720 := hwM.n b14 (id := 400) (by decide) rfl (by decide)
  have I6 : zi S 406 (ad 14) = M.1 406 := (hH.i b14 rfl (by decide)).trans rfl
  rw [hh] at I6
  refine r_aload_n F dX3_push_0 rfl ?_
  refine r_getiS (ci := 4) (k := 6) (id := 406) (C := RX3) (T := TX3) (N := 12) F G rfl (by decide) (by decide) rfl (zinL inG4) (zin kf_X3_71) (fun _ h9 => h9) dX3_push_1 A0 I6 ?_
  refine r_aload_n F dX3_push_4 rfl ?_
  refine r_getS (ci := 4) (k := 0) (id := 400) (C := RX3) (T := TX3) (N := 12) F G rfl (by decide) (by decide) rfl (zinL inG4) (zin kf_X3_9) (fun _ h9 => h9) dX3_push_5 A0 Q50 ?_
  refine v_alen (n := 0) (j := 2) F G hH b50 rfl rfl rfl rfl dX3_push_8 ?_
  rw [n50]
  refine r_icmp_ge (tgt := 32) F dX3_push_9 (by decide) (fun h9 => absurd h9 (by rw [nI_leI (by omega) (by omega)]; omega)) (fun _ => ?_)
  refine r_aload_n F dX3_push_12 rfl ?_
  refine r_getS (ci := 4) (k := 0) (id := 400) (C := RX3) (T := TX3) (N := 12) F G rfl (by decide) (by decide) rfl (zinL inG4) (zin kf_X3_9) (fun _ h9 => h9) dX3_push_13 A0 Q50 ?_
  refine r_aload_n F dX3_push_16 rfl ?_
  refine r_getiS (ci := 4) (k := 6) (id := 406) (C := RX3) (T := TX3) (N := 12) F G rfl (by decide) (by decide) rfl (zinL inG4) (zin kf_X3_71) (fun _ h9 => h9) dX3_push_17 A0 I6 ?_
  refine r_lload_n F dX3_push_20 rfl ?_
  refine v_last F G hH b50 rfl rfl (by rw [n50]; exact hb) (by rw [n50]; decide) dX3_push_21 (fun S hH => ?_)
  rw [show orj (mW W M) 50 = M.2.2.2.1 from rfl, mW_pj] at hH
  clear A0 Q50 I6
  have b14 : oa (mW W (M.1, M.2.1, M.2.2.1, vp_updL M.2.2.2.1 h x, M.2.2.2.2)) 14 := mW_a.mpr a14
  have A0 : zA S (ad 14) 4 := hH.al b14 rfl rfl
  have I6 : zi S 406 (ad 14) = nI h := (hH.i b14 rfl (by decide)).trans ((rfl : oi (mW W (M.1, M.2.1, M.2.2.1, vp_updL M.2.2.2.1 h x, M.2.2.2.2)) 14 406 = M.1 406).trans hh)
  refine r_aload_n F dX3_push_22 rfl ?_
  refine r_dup F dX3_push_23 rfl ?_
  refine r_getiS (ci := 4) (k := 6) (id := 406) (C := RX3) (T := TX3) (N := 12) F G rfl (by decide) (by decide) rfl (zinL inG4) (zin kf_X3_71) (fun _ h9 => h9) dX3_push_24 A0 I6 ?_
  refine r_iconst (v := 1) F dX3_push_27 (by decide) ?_
  refine r_iadd F dX3_push_28 ?_
  rw [show nI h + 1 = nI (h + 1) from nI_add h 1]
  refine r_puti (ci := 4) (k := 6) (id := 406) (C := RX3) (T := TX3) (N := 12) (ty := .int) (ty0 := tyX3) F G rfl (by decide) (by decide) rfl (zinL inG4) (zin kf_X3_71) (fun _ h9 => h9) tyX3_ok nmX3 rfl pd4_6 rfl rfl dX3_push_29 A0 ?_
  refine zgen (P := zH t0 X S0 ad (mW W (mPu M h x))) (by have h9 := hH.pi (id := 406) b14 rfl rfl (by decide) (nI (h + 1)); rw [mW_pi] at h9; exact h9) (fun S hH => ?_)
  exact e_vret F hr hlk hH (by decide) (by decide) dX3_push_32
set_option maxRecDepth 100000 in
set_option maxHeartbeats 4000000 in
theorem c_mpop {l : Launch} {N0 t0 : Nat} {D : va_G} {cy : Nat → ClassId} {S : zS} {X : Nat → Prop} {S0 : zS} {ad : Nat → Nat} {W : zO} {M : mKt} (hw : wr W) (a14 : oa W 14) (hH : zH t0 X S0 ad (mW W M) S) {h : Nat} (hh : M.1 406 = nI (h + 1)) (hb : h < 2720) : zMl l yX3_pop (zws yX3_pop cX3_pop 1 (some .long)) { frames := 0, cells := 0, slots := 0, locals := 0 } N0 t0 D cy S [.ref (ad 14)] (fun r S' => r = M.2.2.2.1 h ∧ zH t0 X S0 ad (mW W (mHt M h)) S') 0 0 := by
  refine zMl.of (cc := cX3_pop) (maxL := 1) (ret := (some .long)) (by decide) rfl (Nat.le_of_ble_eq_true rfl) ?_
  intro p e s m args below meth c F G hr hlk hnm
  have b14 : oa (mW W M) 14 := mW_a.mpr a14
  have hwM : wr (mW W M) := mW_wr hw
  have A0 : zA S (ad 14) 4 := hH.al b14 rfl rfl
  have Q50 : zq S 400 (ad 14) = some (ad 50) := hH.qS b14 rfl (by decide) (hwM.q b14 (by decide) rfl) rfl
  have b50 : oa (mW W M) 50 := hwM.a b14 (id := 400) (by decide) rfl
  have n50 : onn (mW W M) 50 = 2720 := hwM.n b14 (id := 400) (by decide) rfl (by decide)
  have I6 : zi S 406 (ad 14) = M.1 406 := (hH.i b14 rfl (by decide)).trans rfl
  rw [hh] at I6
  refine r_aload_n F dX3_pop_0 rfl ?_
  refine r_getiS (ci := 4) (k := 6) (id := 406) (C := RX3) (T := TX3) (N := 12) F G rfl (by decide) (by decide) rfl (zinL inG4) (zin kf_X3_71) (fun _ h9 => h9) dX3_pop_1 A0 I6 ?_
  refine r_if_gt (tgt := 9) F dX3_pop_4 (by decide) (fun _ => ?_) (fun h9 => absurd (by rw [nl0, nI_ltI (by omega) (by omega)]; omega) h9)
  refine r_aload_n F dX3_pop_9 rfl ?_
  refine r_dup F dX3_pop_10 rfl ?_
  refine r_getiS (ci := 4) (k := 6) (id := 406) (C := RX3) (T := TX3) (N := 12) F G rfl (by decide) (by decide) rfl (zinL inG4) (zin kf_X3_71) (fun _ h9 => h9) dX3_pop_11 A0 I6 ?_
  refine r_iconst (v := 1) F dX3_pop_14 (by decide) ?_
  refine r_isub F dX3_pop_15 ?_
  rw [show nI (h + 1) - 1 = nI h from by rw [nl1, nI_sub (by omega), Nat.add_sub_cancel]]
  refine r_puti (ci := 4) (k := 6) (id := 406) (C := RX3) (T := TX3) (N := 12) (ty := .int) (ty0 := tyX3) F G rfl (by decide) (by decide) rfl (zinL inG4) (zin kf_X3_71) (fun _ h9 => h9) tyX3_ok nmX3 rfl pd4_6 rfl rfl dX3_pop_16 A0 ?_
  refine zgen (P := zH t0 X S0 ad (mW W (mHt M h))) (by have h9 := hH.pi (id := 406) b14 rfl rfl (by decide) (nI h); rw [mW_pi] at h9; exact h9) (fun S hH => ?_)
  clear A0 Q50 I6
  have b14 : oa (mW W (mHt M h)) 14 := mW_a.mpr a14
  have hwM : wr (mW W (mHt M h)) := mW_wr hw
  have A0 : zA S (ad 14) 4 := hH.al b14 rfl rfl
  have I6 : zi S 406 (ad 14) = nI h := (hH.i b14 rfl (by decide)).trans (va_up_self M.1 406 (nI h))
  have Q50 : zq S 400 (ad 14) = some (ad 50) := hH.qS b14 rfl (by decide) (hwM.q b14 (by decide) rfl) rfl
  have b50 : oa (mW W (mHt M h)) 50 := hwM.a b14 (id := 400) (by decide) rfl
  have n50 : onn (mW W (mHt M h)) 50 = 2720 := hwM.n b14 (id := 400) (by decide) rfl (by decide)
  refine r_aload_n F dX3_pop_19 rfl ?_
  refine r_getS (ci := 4) (k := 0) (id := 400) (C := RX3) (T := TX3) (N := 12) F G rfl (by decide) (by decide) rfl (zinL inG4) (zin kf_X3_9) (fun _ h9 => h9) dX3_pop_20 A0 Q50 ?_
  refine r_aload_n F dX3_pop_23 rfl ?_
  refine r_getiS (ci := 4) (k := 6) (id := 406) (C := RX3) (T := TX3) (N := 12) F G rfl (by decide) (by decide) rfl (zinL inG4) (zin kf_X3_71) (fun _ h9 => h9) dX3_pop_24 A0 I6 ?_
  refine v_lald F G hH b50 rfl rfl (by rw [n50]; exact hb) (by rw [n50]; decide) dX3_pop_27 ?_
  exact e_lret F hr hlk ⟨rfl, hH⟩ (by decide) (by decide) dX3_pop_28
