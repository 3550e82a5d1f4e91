theorem sOK.of {v : zV} (hv : vRg v) (hD : vD v) (hn : nB v 8) : kEq v ∧ sOK v (wdF v 48).2 := by
  have hK : kEq v := kEq.of (fun z hz h9 => hn.2.2.2.2.1 (by decide) z hz h9)
  have h1 := hn.1 (by decide)
  have h2 := hn.2.1 (by decide)
  have h6 := hn.2.2.2.2.2.1 (by decide)
  refine ⟨hK, hv, hD, fun f hf ht => ⟨?_, fun k hk => ?_⟩, (wdF_D hv hD h1 48 (Nat.le_refl _)).2, wdF_th hv hD hK h1 48 (Nat.le_refl _)⟩
  · refine cOK.of ?_
    cases hw : wpl v f with
    | none => rfl
    | some k => exact absurd ⟨ht, (by rw [if_pos rfl]; exact hw)⟩ (h2 f k hf)
  · have hg : gW v f (kw v f k) (v.1 1210 (60 * f + k)) := Classical.byContradiction (fun h9 => h1 f k hf ⟨ht, (by rw [if_neg (by decide)]; exact ⟨hk, (by rw [if_pos rfl]; exact h9)⟩)⟩)
    refine ⟨hg, fun hw g hfo => ?_⟩
    obtain ⟨j, q1, q2, q3⟩ := hg.2.2.2.2.1 (Or.inl hw)
    have h16 := (rg_1204 hv (k := f / 8) (by omega)).2
    have ek : ka v f k = j := by
      show (v.1 1210 (60 * f + k)).toNatClampNeg = j
      rw [q2, nI_clamp (by omega)]
    rw [ek] at hfo ⊢
    have hy : 16 * (f / 8) + j < 96 := by omega
    have ht9 : (16 * (f / 8) + j) % 16 < cn v 1204 ((16 * (f / 8) + j) / 16) := by rw [show (16 * (f / 8) + j) / 16 = f / 8 by omega]; omega
    refine ⟨⟨fO_lt hv hD hy ht9 hfo, fO_th hv hD hK hy ht9 q3 hfo⟩, Classical.byContradiction (fun h9 => h6 f k hf ⟨ht, (by rw [if_neg (by decide)]; exact ⟨hk, (by rw [if_neg (by decide)]; exact ⟨hw, j, g, q2, q1, hfo, h9⟩)⟩)⟩)⟩
theorem cW.of {v : zV} {W : zO} (h : LK v W) (a14 : oa W 14) : cW v W (wdF v 48).2 := by
  obtain ⟨h1, ⟨l1, l2, l3, l4, l5, l6, l7, l8, l9, l10, l11⟩, h3, h4, h5⟩ := h
  exact ⟨l1, l2, l4, l6, h3, l11, a14⟩
theorem bL.m {W : zO} {M : mKt} {L : List Int32} {k c : Nat} (h : bL W c L k) (hc : c = 44 ∨ c = 46 ∨ c = 48) : bL (mW W M) c L k := by
  have e1 : mW W M c = W c := mW_n ⟨by omega, by omega, by omega, by omega, by omega, by omega⟩
  have e2 : mW W M (c + 1) = W (c + 1) := mW_n ⟨by omega, by omega, by omega, by omega, by omega, by omega⟩
  exact h.same e1 e2
theorem LK.m {v : zV} {W : zO} {M : mKt} (h : LK v W) : LK v (mW W M) := by
  obtain ⟨h1, ⟨l1, l2, l3, l4, l5, l6, l7, l8, l9, l10, l11⟩, h3, h4, k, h5⟩ := h
  have hn : ∀ c, c ≠ 14 ∧ c ≠ 50 ∧ c ≠ 52 ∧ c ≠ 54 ∧ c ≠ 56 ∧ c ≠ 58 → mW W M c = W c := fun c hc => mW_n hc
  refine ⟨h1, ⟨l1.ext l11 (mW_wr l1.1) (fun c hc _ => hn _ ⟨by omega, by omega, by omega, by omega, by omega, by omega⟩), fun y hy ht => ?_, l3.same (hn _ (by decide)) (hn _ (by decide)) (hn _ (by decide)), ⟨l4.1.same (hn _ (by decide)) (hn _ (by decide)), fun f hf ht => ?_⟩, fun f hf ht => ?_, fun g hg ht => ?_, l7.same (hn _ (by decide)) (hn _ (by decide)), l8.same (hn _ (by decide)) (hn _ (by decide)), mW_a.mpr l9, mW_a.mpr l10, l11⟩, fun f hf ht => ?_, ?_, k, h5.m (Or.inl rfl)⟩
  · show (mW W M (900 + 2 * y)).2.2.1 907 = _
    rw [hn _ ⟨by omega, by omega, by omega, by omega, by omega, by omega⟩]
    exact l2 y hy ht
  · show (mW W M (200 + 12 * f)).2.1 712 = _
    rw [hn _ ⟨by omega, by omega, by omega, by omega, by omega, by omega⟩]
    exact l4.2 f hf ht
  · show (mW W M (200 + 12 * f)).2.1 711 = _
    rw [hn _ ⟨by omega, by omega, by omega, by omega, by omega, by omega⟩]
    exact l5 f hf ht
  · show (mW W M (800 + 4 * g)).2.1 802 = _
    rw [hn _ ⟨by omega, by omega, by omega, by omega, by omega, by omega⟩]
    exact l6 g hg ht
  · obtain ⟨E, G, B, x1, x2, x3⟩ := h3 f hf ht
    refine ⟨E, G, B, ?_, ?_, ?_⟩
    · show (mW W M (200 + 12 * f + 6)).2.2.2.2.2.1 = _
      rw [hn _ ⟨by omega, by omega, by omega, by omega, by omega, by omega⟩]
      exact x1
    · show (mW W M (200 + 12 * f + 8)).2.2.2.2.2.1 = _
      rw [hn _ ⟨by omega, by omega, by omega, by omega, by omega, by omega⟩]
      exact x2
    · show (mW W M (200 + 12 * f + 10)).2.2.2.2.2.1 = _
      rw [hn _ ⟨by omega, by omega, by omega, by omega, by omega, by omega⟩]
      exact x3
  · show (mW W M 10).2.1 307 = _
    rw [hn _ (by decide)]
    exact h4
theorem Rep.run {v v1 : zV} {W : zO} {M : mKt} (hR : Rep v W) (hO : cn v 1201 0 ≤ 6) (hU : rU v v1) (m1 : M.2.1 = v1.2 1229 0) (m2 : M.1 410 = v1.1 1230 0) (m3 : M.1 411 = v1.1 1231 0) (m4 : ∀ k, k < 1024 → mBy M k = v1.1 1228 k) : Rep v1 (mW W M) := by
  have hB : Bld v (mW W M) := hR.bld.ext hO (mW_wr hR.1) (fun c hc _ => mW_n ⟨by omega, by omega, by omega, by omega, by omega, by omega⟩)
  obtain ⟨y1, y2, y3, y4, y5, y6, y7, y8, y9, y10, y11, y12, y13, y14, y15⟩ := hR
  have hL : vL v v1 := hU.L vL.rf
  have c1 : cn v1 1201 0 = cn v 1201 0 := hL.c (by omega)
  refine ⟨hB.1, mW_a.mpr y2, ?_, fun o ho => ?_, fun f hf ht => ?_, fun g hg ht => ?_, fun y hy ht => ?_, fun c hc => ?_, ?_, ?_, ?_, m2, m3, m4, y15.same (fun d h1 h2 => mW_n ⟨by omega, by omega, by omega, by omega, by omega, by omega⟩)⟩
  · rw [c1]; exact y3.same (mW_n (by decide)) (mW_n (by decide))
  · rw [c1] at ho
    exact (hB.2.1 o ho).same (fun id hid => hL id o (by omega)) (fun _ _ => rfl)
  · rw [hL.c (by omega)] at ht
    exact (hB.2.2.1 f hf ht).same (fun id hid => hL id f (by omega)) (fun k hk => ⟨hL 1209 _ (by omega), hL 1210 _ (by omega)⟩) (fun _ _ => rfl)
  · rw [hL.c (by omega)] at ht
    exact (hB.2.2.2.1 g hg ht).same (hL 1211 g (by omega)) (hL 1212 g (by omega)) (fun k _ => hL 1213 _ (by omega)) rfl rfl
  · rw [hL.c (by omega)] at ht
    exact (hB.2.2.2.2 y hy ht).same (fun id hid => hL id y (by omega)) rfl
  · have h9 := y8 c (mW_a.mp hc)
    unfold rpN
    rw [c1, hL.c (id := 1202) (by omega), hL.c (id := 1203) (by omega), hL.c (id := 1204) (by omega)]
    exact h9
  · show (mW W M 2).2.1 1106 = _
    rw [mW_n (by decide), hU.1 1219 0 (by omega)]
    exact y9
  · show (mW W M 2).2.1 1107 = _
    rw [mW_n (by decide), hU.1 1220 0 (by omega)]
    exact y10
  · exact (show va_up (W 14).2.2.2.1 409 M.2.1 409 = M.2.1 from va_up_self _ _ _).trans m1
set_option maxRecDepth 100000 in
set_option maxHeartbeats 4000000 in
theorem c_run {l : Launch} {N0 t0 : Nat} {D : va_G} {cy : Nat → ClassId} {S : zS} (hl : l.stackTraces = false) {X : Nat → Prop} {S0 : zS} {ad : Nat → Nat} {W : zO} (hH : zH t0 X S0 ad W S) {v v0 : zV} (hR : Rep v W) (hv : vRg v) (hK : v.1 1219 0 = 1 → vL v0 v ∧ LK v0 W ∧ vRg v0 ∧ vA v0 ∧ vD v0 ∧ vB v0) (h01 : v.1 1219 0 = 0 ∨ v.1 1219 0 = 1) (a14 : oa W 14) {o f fu : Int32} {x y : Int64} : zTi l yX11_run (zws yX11_run cX11_run 9 (some .int)) { frames := 9, cells := 4, slots := 24, locals := 181 } N0 t0 D cy S [.ref (ad 2), .int o, .int f, .long x, .long y, .int fu] (fun r S' => v.1 1219 0 = 1 ∧ ∃ (i j n : Nat) (R : aR) (M' : mKt), i < cn v 1201 0 ∧ o = nI i ∧ j < cn v 1202 i ∧ f = nI j ∧ n ≤ 2000 ∧ fu = nI n ∧ aRn v0 (wdF v0 48).2 n (aBe v0 (8 * i + j) x y) R ∧ r = nI R.1 ∧ zH t0 X S0 ad (mW W M') S' ∧ M'.2.1 = R.2.1 ∧ M'.1 410 = nI (n - R.2.2.1) ∧ M'.1 411 = nI R.2.2.2.1 ∧ ∀ k, k < 1024 → mBy M' k = R.2.2.2.2 k) (fun E S' => S' = S ∧ ((¬ (gT v 1202 o f ∧ pIn fu 0 2000) ∧ E = zIAE) ∨ ((gT v 1202 o f ∧ pIn fu 0 2000) ∧ v.1 1219 0 = 0 ∧ E = zISE))) 4 24 := by
  refine zTi.of (cc := cX11_run) (maxL := 9) (ret := (some .int)) (by decide) rfl (Nat.le_of_ble_eq_true rfl) ?_
  intro p e s m args below meth c F G hr hlk hnm htb
  have a2 := hR.2.1
  have hw := hR.1
  have A0 : zA S (ad 2) 11 := hH.al a2 rfl rfl
  have I6 : zi S 1106 (ad 2) = v.1 1219 0 := (hH.i a2 rfl (by decide)).trans hR.2.2.2.2.2.2.2.2.1
  refine r_aload_n F dX11_run_0 rfl ?_
  refine r_iload_n F dX11_run_1 rfl ?_
  refine r_iload_n F dX11_run_2 rfl ?_
  refine t_Vq (ci := 11) F G htb hlk (c_rAt hl hH hR hv rfl) (cwV 2 F.2.2.2.2 (zgV km_X11_91 ki_X11_routineAt ke_X11_X11_routineAt kn_X11 ko_X11_routineAt) rfl rfl rfl ⟨rfl, hd_yX11_routineAt⟩ ⟨Nat.le_of_ble_eq_true rfl, Nat.le_of_ble_eq_true rfl⟩) rfl (by decide) A0 rfl rfl (Nat.le_of_ble_eq_true rfl) dX11_run_3 ⟨Nat.le_of_ble_eq_true rfl, Nat.le_of_ble_eq_true rfl⟩ (fun E S' h => ⟨h.2.2, Or.inl ⟨fun h9 => h.1 h9.1, h.2.1⟩⟩) (Nat.le_of_ble_eq_true rfl) (Nat.le_of_ble_eq_true rfl) (fun r3 S3 h3 => ?_)
  obtain ⟨h3a, i, j, hi, eo, hj, ef, er⟩ := h3
  have h3c := h3a.symm
  subst h3c
  subst er
  have hgT : gT v 1202 o f := ⟨i, j, hi, eo, hj, ef⟩
  refine r_astore (x := ad (200 + 12 * (8 * i + j))) F dX11_run_6 (by decide) ?_
  refine r_iload F dX11_run_8 rfl ?_
  refine r_sipush (v := 2000) F dX11_run_10 (by decide) ?_
  refine t_Sv F G htb hlk (k_requireWithin hl _ _) (va_cwS 2 F.2.2.2.2 (zgS km_X11_80 ks_X11_requireWithin kn_X11 ko_X11_requireWithin) rfl rfl rfl hd_yX11_requireWithin ⟨Nat.le_of_ble_eq_true rfl, Nat.le_of_ble_eq_true rfl⟩) rfl rfl (Nat.le_of_ble_eq_true rfl) dX11_run_13 ⟨Nat.le_of_ble_eq_true rfl, Nat.le_of_ble_eq_true rfl⟩ (fun E S' h => ⟨h.2.2, Or.inl ⟨fun h9 => h.1 h9.2, h.2.1⟩⟩) (Nat.le_of_ble_eq_true rfl) (Nat.le_of_ble_eq_true rfl) (fun S13 h13 => ?_)
  obtain ⟨h13a, h13b⟩ := h13
  have h13c := h13b.symm
  subst h13c
  refine r_aload_n F dX11_run_16 rfl ?_
  refine r_getiS (ci := 11) (k := 6) (id := 1106) (C := RX11) (T := TX11) (N := 8) F G rfl (by decide) (by decide) rfl (zinL inG11) (zin kf_X11_51) (fun _ h9 => h9) dX11_run_17 A0 I6 ?_
  refine t_Sv F G htb hlk (k_requireState hl _) (va_cwS 1 F.2.2.2.2 (zgS km_X11_150 ks_X11_requireState kn_X11 ko_X11_requireState) rfl rfl rfl hd_yX11_requireState ⟨Nat.le_of_ble_eq_true rfl, Nat.le_of_ble_eq_true rfl⟩) rfl rfl (Nat.le_of_ble_eq_true rfl) dX11_run_20 ⟨Nat.le_of_ble_eq_true rfl, Nat.le_of_ble_eq_true rfl⟩ (fun E S' h => ⟨h.2.2, Or.inr ⟨⟨hgT, h13a⟩, h.1, h.2.1⟩⟩) (Nat.le_of_ble_eq_true rfl) (Nat.le_of_ble_eq_true rfl) (fun S20 h20 => ?_)
  obtain ⟨h20a, h20b⟩ := h20
  have h20c := h20b.symm
  subst h20c
  have hl1 : v.1 1219 0 = 1 := h01.resolve_left (fun h9 => h20a h9)
  obtain ⟨hL, hLK, hv0, hA0, hD0, hB0⟩ := hK hl1
  obtain ⟨hKE, hs⟩ := sOK.of hv0 hD0 hLK.1
  have hW := cW.of hLK a14
  have a10 := hLK.2.1.2.2.2.2.2.2.2.2.1
  have h34 := hLK.2.1.2.2.2.2.2.2.2.1
  have h1024 : aS v0 24 ≤ 1024 := hLK.1.2.2.2.2.2.2 (by decide)
  have hO6 := (rg_1201 hv (k := 0) (by omega)).2
  have hf8 := (rg_1202 hv (k := i) (by omega)).2
  have hf9 : tF v0 (8 * i + j) := ⟨by omega, by rw [show (8 * i + j) / 8 = i by omega, ← hL.c (id := 1202) (k := i) (by omega)]; omega⟩
  obtain ⟨n, hn1, en⟩ : ∃ n, n < 2001 ∧ fu = nI n := nI_of9 (Int32.not_lt.mp h13a.1) (by have h9 := h13a.2; rw [Int32.le_iff_toInt_le] at h9; rw [Int32.lt_iff_toInt_lt, nI_toInt (by omega)]; have h8 : fu.toInt ≤ 2000 := h9; omega) (by omega)
  have hn2 : n ≤ 2000 := by omega
  subst en
  have Q14 : zq S 1105 (ad 2) = some (ad 14) := hH.qS a2 rfl (by decide) (hw.q a2 (by decide) rfl) rfl
  have Q10 : zq S 1103 (ad 2) = some (ad 10) := hH.qS a2 rfl (by decide) (hw.q a2 (by decide) rfl) rfl
  have hM0 : nZ t0 X S0 ad W ((W 14).2.1, (W 14).2.2.2.1 409, (W 14).2.2.1 405, orj W 50, orq W 52, ori W 54, ori W 56, ori W 58) S := ⟨hw, a14, by rw [mW_me]; exact hH⟩
  refine r_aload_n F dX11_run_23 rfl ?_
  refine r_getS (ci := 11) (k := 5) (id := 1105) (C := RX11) (T := TX11) (N := 8) F G rfl (by decide) (by decide) rfl (zinL inG11) (zin kf_X11_47) (fun _ h9 => h9) dX11_run_24 A0 Q14 ?_
  refine r_aload_n F dX11_run_27 rfl ?_
  refine r_getS (ci := 11) (k := 3) (id := 1103) (C := RX11) (T := TX11) (N := 8) F G rfl (by decide) (by decide) rfl (zinL inG11) (zin kf_X11_33) (fun _ h9 => h9) dX11_run_28 A0 Q10 ?_
  refine c_Vv (ci := 4) F G (c_mprep hM0 hW hv0 a10 h34 hB0 h1024) (cwV 1 F.2.2.2.2 (zgV km_X11_211 ki_X3_prepare ke_X3_X3_prepare kn_X3 ko_X3_prepare) rfl rfl rfl ⟨rfl, hd_yX3_prepare⟩ ⟨Nat.le_of_ble_eq_true rfl, Nat.le_of_ble_eq_true rfl⟩) rfl (by decide) hM0.A rfl rfl (Nat.le_of_ble_eq_true rfl) dX11_run_31 ⟨Nat.le_of_ble_eq_true rfl, Nat.le_of_ble_eq_true rfl⟩ (fun S31 h31 => ?_)
  obtain ⟨M1, hM, i1, i2, i3, i4, i5, i6, i7, i8⟩ := h31
  clear A0
  have a2m : oa (mW W M1) 2 := mW_a.mpr a2
  have A0 : zA S31 (ad 2) 11 := hM.2.2.al a2m rfl rfl
  have Q14b : zq S31 1105 (ad 2) = some (ad 14) := hM.2.2.qS a2m rfl (by decide) (hM.w.q a2m (by decide) rfl) rfl
  refine r_aload_n F dX11_run_34 rfl ?_
  refine r_getS (ci := 11) (k := 5) (id := 1105) (C := RX11) (T := TX11) (N := 8) F G rfl (by decide) (by decide) rfl (zinL inG11) (zin kf_X11_47) (fun _ h9 => h9) dX11_run_35 A0 Q14b ?_
  refine r_aload F dX11_run_38 rfl ?_
  refine r_lload_n F dX11_run_40 rfl ?_
  refine r_lload F dX11_run_41 rfl ?_
  refine r_iload F dX11_run_43 rfl ?_
  refine c_Vi (ci := 4) F G (c_mperform hM hW hs hA0 hKE hf9 hn2 i1 i2 i3 i4 i5 i6 i7 i8) (cwV 4 F.2.2.2.2 (zgV km_X11_214 ki_X3_perform ke_X3_X3_perform kn_X3 ko_X3_perform) rfl rfl rfl ⟨rfl, hd_yX3_perform⟩ ⟨Nat.le_of_ble_eq_true rfl, Nat.le_of_ble_eq_true rfl⟩) rfl (by decide) hM.A rfl rfl (Nat.le_of_ble_eq_true rfl) dX11_run_45 ⟨Nat.le_of_ble_eq_true rfl, Nat.le_of_ble_eq_true rfl⟩ (fun r45 S45 h45 => ?_)
  obtain ⟨R9, M2, hM2, q1, q2, q3, q4, q5, q6, q7⟩ := h45
  exact x_iret F hr hlk ⟨hl1, i, j, n, R9, M2, hi, eo, hj, ef, hn2, rfl, q1, q2, hM2.2.2, q3, q4, q5, q6⟩ (by decide) (by decide) dX11_run_48
