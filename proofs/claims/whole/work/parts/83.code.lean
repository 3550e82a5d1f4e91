theorem oI_n {W : zO} {c id d : Nat} {x : Int32} (h : d ≠ c) : oI W c id x d = W d := va_up_ne _ _ h
theorem oRi_n {W : zO} {c d : Nat} {f : Nat → Int32} (h : d ≠ c) : oRi W c f d = W d := va_up_ne _ _ h
theorem Rep.rtn {v v' : zV} {W W' : zO} (h : Rep v W) (hO : cn v 1201 0 ≤ 6) {F : Nat} (hF : F < 48) (hth : F % 8 < cn v 1202 (F / 8)) (hW : ∀ d, d ≠ 200 + 12 * F → d ≠ 200 + 12 * F + 2 → d ≠ 200 + 12 * F + 4 → W' d = W d) (hwr : wr W') (hal : ∀ c, oa W' c ↔ oa W c) (hv : ∀ id k, (id = 1208 ∧ k = F) ∨ ((id = 1209 ∨ id = 1210) ∧ 60 * F ≤ k ∧ k < 60 * F + 60) ∨ v'.1 id k = v.1 id k) (hv2 : v'.2 = v.2) (hnew : rpR v' W' F) : Rep v' W' := by
  have hs : ∀ id k, id ≠ 1208 → id ≠ 1209 → id ≠ 1210 → v'.1 id k = v.1 id k := fun id k a1 a2 a3 => by
    rcases hv id k with q | q | q
    · exact absurd q.1 a1
    · rcases q.1 with q | q
      · exact absurd q a2
      · exact absurd q a3
    · exact q
  have hc : ∀ id k, id ≠ 1208 → id ≠ 1209 → id ≠ 1210 → cn v' id k = cn v id k := fun id k a1 a2 a3 => by
    unfold cn
    rw [hs id k a1 a2 a3]
  obtain ⟨h1, h2, h3, h4, h5, h6, h7, h8, h9, h10, h11, h12, h13, h14, h15⟩ := h
  refine ⟨hwr, (hal 2).mpr h2, ?_, fun o ho => ?_, fun f hf hf2 => ?_, fun g hg hg2 => ?_, fun y hy hy2 => ?_, fun c hc2 => ?_, ?_, ?_, ?_, ?_, ?_, fun k hk => ?_, h15.same (fun d d1 d2 => hW d (by omega) (by omega) (by omega))⟩
  · rw [hc 1201 0 (by decide) (by decide) (by decide)]
    exact h3.same (hW 4 (by omega) (by omega) (by omega)) (hW 5 (by omega) (by omega) (by omega))
  · rw [hc 1201 0 (by decide) (by decide) (by decide)] at ho
    exact (h4 o ho).same (fun id hid => hs id o (by omega) (by omega) (by omega)) (fun k hk => hW _ (by omega) (by omega) (by omega))
  · rw [hc 1202 _ (by decide) (by decide) (by decide)] at hf2
    by_cases e : f = F
    · rw [e]
      exact hnew
    · refine (h5 f hf hf2).same (fun id hid => ?_) (fun k hk => ⟨?_, ?_⟩) (fun k hk => hW _ (by omega) (by omega) (by omega))
      · rcases hv id f with q | q | q
        · exact absurd q.2 e
        · omega
        · exact q
      · rcases hv 1209 (60 * f + k) with q | q | q
        · omega
        · omega
        · exact q
      · rcases hv 1210 (60 * f + k) with q | q | q
        · omega
        · omega
        · exact q
  · rw [hc 1203 _ (by decide) (by decide) (by decide)] at hg2
    exact (h6 g hg hg2).same (hs _ _ (by decide) (by decide) (by decide)) (hs _ _ (by decide) (by decide) (by decide)) (fun k hk => hs _ _ (by decide) (by decide) (by decide)) (hW _ (by omega) (by omega) (by omega)) (hW _ (by omega) (by omega) (by omega))
  · rw [hc 1204 _ (by decide) (by decide) (by decide)] at hy2
    exact (h7 y hy hy2).same (fun id hid => hs id y (by omega) (by omega) (by omega)) (hW _ (by omega) (by omega) (by omega))
  · have h9 := h8 c ((hal c).mp hc2)
    unfold rpN at h9 ⊢
    rw [hc 1201 _ (by decide) (by decide) (by decide), hc 1202 _ (by decide) (by decide) (by decide), hc 1203 _ (by decide) (by decide) (by decide), hc 1204 _ (by decide) (by decide) (by decide)]
    exact h9
  · show (W' 2).2.1 1106 = _
    rw [hW 2 (by omega) (by omega) (by omega), hs _ _ (by decide) (by decide) (by decide)]
    exact h9
  · show (W' 2).2.1 1107 = _
    rw [hW 2 (by omega) (by omega) (by omega), hs _ _ (by decide) (by decide) (by decide)]
    exact h10
  · show (W' 14).2.2.2.1 409 = _
    rw [hW 14 (by omega) (by omega) (by omega), hv2]
    exact h11
  · show (W' 14).2.1 410 = _
    rw [hW 14 (by omega) (by omega) (by omega), hs _ _ (by decide) (by decide) (by decide)]
    exact h12
  · show (W' 14).2.1 411 = _
    rw [hW 14 (by omega) (by omega) (by omega), hs _ _ (by decide) (by decide) (by decide)]
    exact h13
  · show (W' 58).2.2.2.2.2.1 k = _
    rw [hW 58 (by omega) (by omega) (by omega), hs _ _ (by decide) (by decide) (by decide)]
    exact h14 k hk
set_option maxRecDepth 100000 in
set_option maxHeartbeats 4000000 in
theorem c_append {l : Launch} {N0 t0 : Nat} {D : va_G} {cy : Nat → ClassId} {S : zS} {X : Nat → Prop} {S0 : zS} {ad : Nat → Nat} {W : zO} (hH : zH t0 X S0 ad W S) (hw : wr W) {B a n : Nat} {w x : Int32} (hc : oa W B) (ea : ad B = a) (hk : kd B = 7) (hk2 : kd (B + 2) = 14) (hk4 : kd (B + 4) = 14) (hn : oi W B 710 = nI n) (hn60 : n < 60) : zMv l yX6_append (zws yX6_append cX6_append 3 none) { frames := 0, cells := 0, slots := 0, locals := 0 } N0 t0 D cy S [.ref a, .int w, .int x] (fun S' => zH t0 X S0 ad (oI (oRi (oRi W (B + 2) (upd (ori W (B + 2)) n w)) (B + 4) (upd (ori (oRi W (B + 2) (upd (ori W (B + 2)) n w)) (B + 4)) n x)) B 710 (nI (n + 1))) S') 0 0 := by
  refine zMv.of (cc := cX6_append) (maxL := 3) (ret := none) (by decide) rfl (Nat.le_of_ble_eq_true rfl) ?_
  intro p e s m args below meth c F G hr hlk hnm
  have b2 : oa W (B + 2) := hw.a hc (id := 705) (by decide) hk
  have b4 : oa W (B + 4) := hw.a hc (id := 706) (by decide) hk
  have n2 : onn W (B + 2) = 60 := hw.n hc (id := 705) (by decide) hk (by decide)
  have n4 : onn W (B + 4) = 60 := hw.n hc (id := 706) (by decide) hk (by decide)
  have A0 : zA S a 7 := hH.al hc ea hk
  have Q1 : zq S 705 a = some (ad (B + 2)) := hH.qS hc ea (by rw [hk]; decide) (hw.q hc (by decide) hk) rfl
  have I1 : zi S 710 a = nI n := (hH.i hc ea (by rw [hk]; decide)).trans hn
  refine r_aload_n F dX6_append_0 rfl ?_
  refine r_getS (ci := 7) (k := 5) (id := 705) (C := RX6) (T := TX6) (N := 13) F G rfl (by decide) (by decide) rfl (zinL inG7) (zin kf_X6_9) (fun _ h9 => h9) dX6_append_1 A0 Q1 ?_
  refine r_aload_n F dX6_append_4 rfl ?_
  refine r_getiS (ci := 7) (k := 10) (id := 710) (C := RX6) (T := TX6) (N := 13) F G rfl (by decide) (by decide) rfl (zinL inG7) (zin kf_X6_44) (fun _ h9 => h9) dX6_append_5 A0 I1 ?_
  refine r_iload_n F dX6_append_8 rfl ?_
  refine v_iast F G hH b2 rfl hk2 (by rw [n2]; exact hn60) (by rw [n2]; decide) dX6_append_9 (fun S hH => ?_)
  have hw1 : wr (oRi W (B + 2) (upd (ori W (B + 2)) n w)) := hw.Ri b2
  have c1 : oa (oRi W (B + 2) (upd (ori W (B + 2)) n w)) B := oaU b2 b2 hc
  have c14 : oa (oRi W (B + 2) (upd (ori W (B + 2)) n w)) (B + 4) := oaU b2 b2 b4
  have e4 : (oRi W (B + 2) (upd (ori W (B + 2)) n w)) (B + 4) = W (B + 4) := va_up_ne _ _ (by omega)
  have e1 : (oRi W (B + 2) (upd (ori W (B + 2)) n w)) B = W B := va_up_ne _ _ (by omega)
  have A1 : zA S a 7 := hH.al c1 ea hk
  have Q2 : zq S 706 a = some (ad (B + 4)) := hH.qS c1 ea (by rw [hk]; decide) (hw1.q c1 (by decide) hk) rfl
  have I2 : zi S 710 a = nI n := (hH.i c1 ea (by rw [hk]; decide)).trans (by show ((oRi W (B + 2) (upd (ori W (B + 2)) n w)) B).2.1 710 = _; rw [e1]; exact hn)
  have n14 : onn (oRi W (B + 2) (upd (ori W (B + 2)) n w)) (B + 4) = 60 := by show ((oRi W (B + 2) (upd (ori W (B + 2)) n w)) (B + 4)).2.2.2.2.1 = 60; rw [e4]; exact n4
  refine r_aload_n F dX6_append_10 rfl ?_
  refine r_getS (ci := 7) (k := 6) (id := 706) (C := RX6) (T := TX6) (N := 13) F G rfl (by decide) (by decide) rfl (zinL inG7) (zin kf_X6_15) (fun _ h9 => h9) dX6_append_11 A1 Q2 ?_
  refine r_aload_n F dX6_append_14 rfl ?_
  refine r_getiS (ci := 7) (k := 10) (id := 710) (C := RX6) (T := TX6) (N := 13) F G rfl (by decide) (by decide) rfl (zinL inG7) (zin kf_X6_44) (fun _ h9 => h9) dX6_append_15 A1 I2 ?_
  refine r_iload_n F dX6_append_18 rfl ?_
  refine v_iast F G hH c14 rfl hk4 (by rw [n14]; exact hn60) (by rw [n14]; decide) dX6_append_19 (fun S hH => ?_)
  have c2 : oa (oRi (oRi W (B + 2) (upd (ori W (B + 2)) n w)) (B + 4) (upd (ori (oRi W (B + 2) (upd (ori W (B + 2)) n w)) (B + 4)) n x)) B := oaU c14 c14 c1
  have e2 : (oRi (oRi W (B + 2) (upd (ori W (B + 2)) n w)) (B + 4) (upd (ori (oRi W (B + 2) (upd (ori W (B + 2)) n w)) (B + 4)) n x)) B = W B := (va_up_ne _ _ (by omega)).trans e1
  have A2 : zA S a 7 := hH.al c2 ea hk
  have I3 : zi S 710 a = nI n := (hH.i c2 ea (by rw [hk]; decide)).trans (by show ((oRi (oRi W (B + 2) (upd (ori W (B + 2)) n w)) (B + 4) (upd (ori (oRi W (B + 2) (upd (ori W (B + 2)) n w)) (B + 4)) n x)) B).2.1 710 = _; rw [e2]; exact hn)
  refine r_aload_n F dX6_append_20 rfl ?_
  refine r_dup F dX6_append_21 rfl ?_
  refine r_getiS (ci := 7) (k := 10) (id := 710) (C := RX6) (T := TX6) (N := 13) F G rfl (by decide) (by decide) rfl (zinL inG7) (zin kf_X6_44) (fun _ h9 => h9) dX6_append_22 A2 I3 ?_
  refine r_iconst (v := 1) F dX6_append_25 (by decide) ?_
  refine r_iadd F dX6_append_26 ?_
  rw [show nI n + 1 = nI (n + 1) from nI_add n 1]
  refine r_puti (ci := 7) (k := 10) (id := 710) (C := RX6) (T := TX6) (N := 13) (ty := .int) (ty0 := tyX6) F G rfl (by decide) (by decide) rfl (zinL inG7) (zin kf_X6_44) (fun _ h9 => h9) tyX6_ok nmX6 rfl pd7_10 rfl rfl dX6_append_27 A2 ?_
  exact e_vret F hr hlk (hH.pi c2 ea hk (by decide) _) (by decide) (by decide) dX6_append_30
theorem Rep.app {v : zV} {W : zO} (h : Rep v W) (hO : cn v 1201 0 ≤ 6) {F n : Nat} {w x : Int32} (hF : F < 48) (hth : F % 8 < cn v 1202 (F / 8)) (hn : v.1 1208 F = nI n) (hn60 : n < 60) : Rep (u1 (u1 (u1 v 1209 (60 * F + n) w) 1210 (60 * F + n) x) 1208 F (nI (n + 1))) (oI (oRi (oRi W (200 + 12 * F + 2) (upd (ori W (200 + 12 * F + 2)) n w)) (200 + 12 * F + 4) (upd (ori (oRi W (200 + 12 * F + 2) (upd (ori W (200 + 12 * F + 2)) n w)) (200 + 12 * F + 4)) n x)) (200 + 12 * F) 710 (nI (n + 1))) := by
  have hr := h.2.2.2.2.1 F hF hth
  have hk := kd_r F hF
  have b2 : oa W (200 + 12 * F + 2) := h.1.a hr.1 (id := 705) (by decide) hk.1
  have b4 : oa W (200 + 12 * F + 4) := h.1.a hr.1 (id := 706) (by decide) hk.1
  have c1 : oa (oRi W (200 + 12 * F + 2) (upd (ori W (200 + 12 * F + 2)) n w)) (200 + 12 * F + 4) := (oaRi b2).mpr b4
  have c2 : oa (oRi (oRi W (200 + 12 * F + 2) (upd (ori W (200 + 12 * F + 2)) n w)) (200 + 12 * F + 4) (upd (ori (oRi W (200 + 12 * F + 2) (upd (ori W (200 + 12 * F + 2)) n w)) (200 + 12 * F + 4)) n x)) (200 + 12 * F) := (oaRi c1).mpr ((oaRi b2).mpr hr.1)

  refine h.rtn hO hF hth (fun d d1 d2 d3 => (va_up_ne _ _ d1).trans ((va_up_ne _ _ d3).trans (va_up_ne _ _ d2))) (((h.1.Ri b2).Ri c1).I c2) (fun d => (oaI c2).trans ((oaRi c1).trans (oaRi b2))) (fun id k => ?_) rfl ?_
  · by_cases e1 : id = 1208 ∧ k = F
    · exact Or.inl e1
    · by_cases e2 : id = 1210 ∧ k = 60 * F + n
      · exact Or.inr (Or.inl ⟨Or.inr e2.1, by omega, by omega⟩)
      · by_cases e3 : id = 1209 ∧ k = 60 * F + n
        · exact Or.inr (Or.inl ⟨Or.inl e3.1, by omega, by omega⟩)
        · refine Or.inr (Or.inr ?_)
          show z2 (z2 (z2 v.1 1209 (60 * F + n) w) 1210 (60 * F + n) x) 1208 F (nI (n + 1)) id k = _
          unfold z2
          rw [if_neg e1, if_neg e2, if_neg e3]
  · obtain ⟨g1, g2, g3, g4, g5, g6, g7, g8, g9⟩ := hr
    have w0 : (oI (oRi (oRi W (200 + 12 * F + 2) (upd (ori W (200 + 12 * F + 2)) n w)) (200 + 12 * F + 4) (upd (ori (oRi W (200 + 12 * F + 2) (upd (ori W (200 + 12 * F + 2)) n w)) (200 + 12 * F + 4)) n x)) (200 + 12 * F) 710 (nI (n + 1))) (200 + 12 * F) = eI (W (200 + 12 * F)) 710 (nI (n + 1)) := (va_up_self _ _ _).trans (congrArg (fun e => eI e 710 (nI (n + 1))) ((va_up_ne _ _ (by omega)).trans (va_up_ne _ _ (by omega))))
    have w2 : (oI (oRi (oRi W (200 + 12 * F + 2) (upd (ori W (200 + 12 * F + 2)) n w)) (200 + 12 * F + 4) (upd (ori (oRi W (200 + 12 * F + 2) (upd (ori W (200 + 12 * F + 2)) n w)) (200 + 12 * F + 4)) n x)) (200 + 12 * F) 710 (nI (n + 1))) (200 + 12 * F + 2) = eRi (W (200 + 12 * F + 2)) (upd (ori W (200 + 12 * F + 2)) n w) := (va_up_ne _ _ (by omega)).trans ((va_up_ne _ _ (by omega)).trans (va_up_self _ _ _))
    have w4 : (oI (oRi (oRi W (200 + 12 * F + 2) (upd (ori W (200 + 12 * F + 2)) n w)) (200 + 12 * F + 4) (upd (ori (oRi W (200 + 12 * F + 2) (upd (ori W (200 + 12 * F + 2)) n w)) (200 + 12 * F + 4)) n x)) (200 + 12 * F) 710 (nI (n + 1))) (200 + 12 * F + 4) = eRi (W (200 + 12 * F + 4)) (upd (ori W (200 + 12 * F + 4)) n x) := (va_up_ne _ _ (by omega)).trans ((va_up_self _ _ _).trans (by
      show eRi (va_up W (200 + 12 * F + 2) _ (200 + 12 * F + 4)) (upd (va_up W (200 + 12 * F + 2) _ (200 + 12 * F + 4)).2.2.2.2.2.1 n x) = _
      rw [va_up_ne _ _ (by omega)]))
    unfold rpR oa oq oi ori
    rw [w0, w2, w4]
    refine ⟨g1, g2, g3, g4, g5, g6, (z2_s _ _ _ _).symm, fun k hk2 => ?_, fun k hk2 => ?_⟩
    · show (if k = n then w else ori W (200 + 12 * F + 2) k) = z2 v.1 1209 (60 * F + n) w 1209 (60 * F + k)
      by_cases e : k = n
      · rw [if_pos e, e, z2_s]
      · rw [if_neg e, z2_n _ _ (Or.inr (by omega))]
        exact g8 k hk2
    · show (if k = n then x else ori W (200 + 12 * F + 4) k) = z2 (z2 v.1 1209 (60 * F + n) w) 1210 (60 * F + n) x 1210 (60 * F + k)
      by_cases e : k = n
      · rw [if_pos e, e, z2_s]
      · rw [if_neg e, z2_n _ _ (Or.inr (by omega))]
        exact g9 k hk2
set_option maxRecDepth 100000 in
set_option maxHeartbeats 4000000 in
theorem c_code {l : Launch} {N0 t0 : Nat} {D : va_G} {cy : Nat → ClassId} {S : zS} (hl : l.stackTraces = false) {X : Nat → Prop} {S0 : zS} {ad : Nat → Nat} {W : zO} (hH : zH t0 X S0 ad W S) {v : zV} (hR : Rep v W) (hv : vRg v) {a : Nat} {o w b x : Int32} (ea : ad 2 = a) : zTi l yX11_code (zws yX11_code cX11_code 6 (some .int)) { frames := 9, cells := 4, slots := 24, locals := 146 } N0 t0 D cy S [.ref a, .int o, .int w, .int b, .int x] (fun r S' => (gT v 1202 o w ∧ pIn b 0 35) ∧ ∃ i j, i < cn v 1201 0 ∧ o = nI i ∧ j < cn v 1202 i ∧ w = nI j ∧ ¬ v.1 1208 (8 * i + j) = 60 ∧ r = v.1 1208 (8 * i + j) ∧ ∃ W', zH t0 X S0 ad W' S' ∧ Rep (vCod v (8 * i + j) b x) W' ∧ ∀ d, 44 ≤ d → d < 50 → W' d = W d) (fun E S' => S' = S ∧ ((¬ (gT v 1202 o w ∧ pIn b 0 35) ∧ E = zIAE) ∨ ((gT v 1202 o w ∧ pIn b 0 35) ∧ (∃ i j, i < cn v 1201 0 ∧ o = nI i ∧ j < cn v 1202 i ∧ w = nI j ∧ v.1 1208 (8 * i + j) = 60) ∧ E = zISE))) 4 24 := by
  refine zTi.of (cc := cX11_code) (maxL := 6) (ret := (some .int)) (by decide) rfl (Nat.le_of_ble_eq_true rfl) ?_
  intro p e s m args below meth c F G hr hlk hnm htb
  subst ea
  obtain ⟨A0, Q0, L0, L1, L2⟩ := hR.lin hH
  have hn := (rg_1201 hv (k := 0) (by decide)).2
  refine r_aload_n F dX11_code_0 rfl ?_
  refine r_iload_n F dX11_code_1 rfl ?_
  refine r_iload_n F dX11_code_2 rfl ?_
  refine t_Vq (ci := 11) F G htb hlk (c_rAt hl hH hR hv rfl) (cwV 2 F.2.2.2.2 (zgV km_X11_91 ki_X11_routineAt ke_X11_X11_routineAt kn_X11 ko_X11_routineAt) rfl rfl rfl ⟨rfl, hd_yX11_routineAt⟩ ⟨Nat.le_of_ble_eq_true rfl, Nat.le_of_ble_eq_true rfl⟩) rfl (by decide) A0 rfl rfl (Nat.le_of_ble_eq_true rfl) dX11_code_3 ⟨Nat.le_of_ble_eq_true rfl, Nat.le_of_ble_eq_true rfl⟩ (fun E S' h => ⟨h.2.2, Or.inl ⟨fun q => h.1 q.1, h.2.1⟩⟩) (Nat.le_of_ble_eq_true rfl) (Nat.le_of_ble_eq_true rfl) (fun r3 S3 h3 => ?_)
  obtain ⟨h3a, i, j, hi, ei, hj, ej, h3b⟩ := h3
  have h3c := h3a.symm
  subst h3c
  subst ei
  subst ej
  subst h3b
  have hi6 : i < 6 := by omega
  have hj8 : j < 8 := by have := (rg_1202 hv hi6).2; omega
  have hth : (8 * i + j) % 8 < cn v 1202 ((8 * i + j) / 8) := by rw [show (8 * i + j) / 8 = i by omega]; omega
  have hF : (8 * i + j) < 48 := by omega
  have hr0 := hR.2.2.2.2.1 (8 * i + j) hF hth
  have hk := kd_r (8 * i + j) hF
  have hg := rg_1208 hv hF
  have g1 : gT v 1202 (nI i) (nI j) := ⟨i, j, hi, rfl, hj, rfl⟩
  have R0 : zA S (ad (200 + 12 * (8 * i + j))) 7 := hH.al hr0.1 rfl hk.1
  have I0 : zi S 710 (ad (200 + 12 * (8 * i + j))) = nI (cn v 1208 (8 * i + j)) := (hH.i hr0.1 rfl (by rw [hk.1]; decide)).trans (hr0.2.2.2.2.2.2.1.trans hg.1)
  refine r_astore (x := ad (200 + 12 * (8 * i + j))) F dX11_code_6 (by decide) ?_
  refine r_iload_n F dX11_code_8 rfl ?_
  refine r_bipush (v := 35) F dX11_code_9 (by decide) ?_
  refine t_Sv F G htb hlk (k_requireWithin hl _ _) (va_cwS 2 F.2.2.2.2 (zgS km_X11_80 ks_X11_requireWithin kn_X11 ko_X11_requireWithin) rfl rfl rfl hd_yX11_requireWithin ⟨Nat.le_of_ble_eq_true rfl, Nat.le_of_ble_eq_true rfl⟩) rfl rfl (Nat.le_of_ble_eq_true rfl) dX11_code_11 ⟨Nat.le_of_ble_eq_true rfl, Nat.le_of_ble_eq_true rfl⟩ (fun E S' h => ⟨h.2.2, Or.inl ⟨fun q => h.1 q.2, h.2.1⟩⟩) (Nat.le_of_ble_eq_true rfl) (Nat.le_of_ble_eq_true rfl) (fun S11 h11 => ?_)
  obtain ⟨h11a, h11b⟩ := h11
  have h11c := h11b.symm
  subst h11c
  refine r_aload F dX11_code_14 rfl ?_
  refine r_getiS (ci := 7) (k := 10) (id := 710) (C := RX6) (T := TX6) (N := 13) F G rfl (by decide) (by decide) rfl (zinL inG7) (zin kf_X11_97) (fun _ h9 => h9) dX11_code_16 R0 I0 ?_
  refine r_bipush (v := 60) F dX11_code_19 (by decide) ?_
  refine t_Sv F G htb hlk (k_requireRoom hl _ _) (va_cwS 2 F.2.2.2.2 (zgS km_X11_65 ks_X11_requireRoom kn_X11 ko_X11_requireRoom) rfl rfl rfl hd_yX11_requireRoom ⟨Nat.le_of_ble_eq_true rfl, Nat.le_of_ble_eq_true rfl⟩) rfl rfl (Nat.le_of_ble_eq_true rfl) dX11_code_21 ⟨Nat.le_of_ble_eq_true rfl, Nat.le_of_ble_eq_true rfl⟩ (fun E S' h => ⟨h.2.2, Or.inr ⟨⟨g1, h11a⟩, ⟨i, j, hi, rfl, hj, rfl, by have h9 := h.1; have h8 := hg.2; rw [nl60, nI_leI (by omega) (by omega)] at h9; rw [hg.1, nl60, show cn v 1208 (8 * i + j) = 60 by omega]⟩, h.2.1⟩⟩) (Nat.le_of_ble_eq_true rfl) (Nat.le_of_ble_eq_true rfl) (fun S21 h21 => ?_)
  obtain ⟨h21a, h21b⟩ := h21
  have h21c := h21b.symm
  subst h21c
  have h60 : cn v 1208 (8 * i + j) < 60 := by have h8 := hg.2; rw [nl60, nI_leI (by omega) (by omega)] at h21a; omega
  refine r_aload_n F dX11_code_24 rfl ?_
  refine r_iconst (v := 0) F dX11_code_25 (by decide) ?_
  refine r_puti (ci := 11) (k := 6) (id := 1106) (C := RX11) (T := TX11) (N := 8) (ty := .boolean) (ty0 := tyX11) F G rfl (by decide) (by decide) rfl (zinL inG11) (zin kf_X11_51) (fun _ h9 => h9) tyX11_ok nmX11 rfl pd11_6 rfl rfl dX11_code_26 A0 ?_
  refine zgen (P := zH t0 X S0 ad (oI W 2 1106 0)) (hH.pi (id := 1106) hR.2.1 rfl rfl (by decide) 0) (fun S hH => ?_)
  have hR1 : Rep (u1 (u1 v 1200 0 0) 1219 0 0) (oI W 2 1106 0) := hR.unl
  have hr1 := hR1.2.2.2.2.1 (8 * i + j) hF hth
  have R1 : zA S (ad (200 + 12 * (8 * i + j))) 7 := hH.al hr1.1 rfl hk.1
  refine r_aload F dX11_code_29 rfl ?_
  refine r_iload_n F dX11_code_31 rfl ?_
  refine r_iload F dX11_code_32 rfl ?_
  refine c_Vv (ci := 7) F G (c_append hH hR1.1 hr1.1 rfl hk.1 hk.2.1 hk.2.2.1 (n := cn v 1208 (8 * i + j)) (hr1.2.2.2.2.2.2.1.trans hg.1) h60) (cwV 2 F.2.2.2.2 (zgV km_X11_99 ki_X6_append ke_X6_X6_append kn_X6 ko_X6_append) rfl rfl rfl ⟨rfl, hd_yX6_append⟩ ⟨Nat.le_of_ble_eq_true rfl, Nat.le_of_ble_eq_true rfl⟩) rfl (by decide) R1 rfl rfl (Nat.le_of_ble_eq_true rfl) dX11_code_34 ⟨Nat.le_of_ble_eq_true rfl, Nat.le_of_ble_eq_true rfl⟩ (fun S34 hH4 => ?_)
  have hR2 := hR1.app (w := b) (x := x) hn hF hth hg.1 h60
  have hr2 := hR2.2.2.2.2.1 (8 * i + j) hF hth
  have R2 : zA S34 (ad (200 + 12 * (8 * i + j))) 7 := hH4.al hr2.1 rfl hk.1
  have I2 : zi S34 710 (ad (200 + 12 * (8 * i + j))) = nI (cn v 1208 (8 * i + j) + 1) := (hH4.i hr2.1 rfl (by rw [hk.1]; decide)).trans (hr2.2.2.2.2.2.2.1.trans (z2_s _ _ _ _))
  refine r_aload F dX11_code_37 rfl ?_
  refine r_getiS (ci := 7) (k := 10) (id := 710) (C := RX6) (T := TX6) (N := 13) F G rfl (by decide) (by decide) rfl (zinL inG7) (zin kf_X11_97) (fun _ h9 => h9) dX11_code_39 R2 I2 ?_
  refine r_iconst (v := 1) F dX11_code_42 (by decide) ?_
  refine r_isub F dX11_code_43 ?_
  have e9 : v.1 1208 (8 * i + j) + 1 = nI (cn v 1208 (8 * i + j) + 1) := by rw [hg.1]; exact nI_add _ 1
  have e8 : nI (cn v 1208 (8 * i + j) + 1) - 1 = v.1 1208 (8 * i + j) := by rw [← e9]; exact Int32.add_sub_cancel _ _
  refine x_iret F hr hlk ⟨⟨g1, h11a⟩, i, j, hi, rfl, hj, rfl, fun h9 => by rw [hg.1, nl60, nI_eq (by omega) (by omega)] at h9; omega, e8, _, hH4, ?_, fun d q1 q2 => (oI_n (by omega)).trans ((oRi_n (by omega)).trans ((oRi_n (by omega)).trans (oI_n (by omega))))⟩ (by decide) (by decide) dX11_code_44
  show Rep (u1 (u1 (u1 (u1 (u1 v 1200 0 0) 1219 0 0) 1209 (60 * (8 * i + j) + cn v 1208 (8 * i + j)) b) 1210 (60 * (8 * i + j) + cn v 1208 (8 * i + j)) x) 1208 (8 * i + j) (v.1 1208 (8 * i + j) + 1)) _
  rw [e9]
  exact hR2
