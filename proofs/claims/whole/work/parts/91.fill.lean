/-- a byte of a long, as putBytes takes it -/
def pby (w : Int64) (k : Nat) : Int32 := vp_nar .byte (((w.toUInt64 >>> ((8 * nI k : Int32).toInt64.toUInt64 &&& Int64.toUInt64 63)).toInt64).toInt32.toInt8.toInt32)
def pB (f : Nat → Int32) (t : Nat) (w : Int64) : Nat → Nat → Int32
  | 0 => f
  | k + 1 => upd (pB f t w k) (t + k) (pby w k)
theorem nI_sub {a b : Nat} (h : b ≤ a) : nI a - nI b = nI (a - b) := by
  have e : nI a = nI (a - b) + nI b := by rw [nI_add]; congr 1; omega
  rw [e, Int32.add_sub_cancel]
theorem bz_b (w : BitVec 64) (n : Nat) (h : n + 8 ≤ 64) : ((w.sshiftRight n).signExtend 32).signExtend 8 = ((w >>> n).signExtend 32).signExtend 8 := by
  apply BitVec.eq_of_getLsbD_eq
  intro i hi
  have h1 : n + i < 64 := by omega
  have h2 : ¬ 64 ≤ i := by omega
  have h3 : i < 32 := by omega
  have h4 : i < 64 := by omega
  simp only [BitVec.getLsbD_signExtend, if_pos h3, if_pos h4]
  rw [BitVec.getLsbD_sshiftRight, BitVec.getLsbD_ushiftRight, if_pos h1]
  simp [h2]
theorem bz_n1 : ∀ k, k < 8 → (((8 * nI k : Int32).toInt64 &&& 63).toBitVec.smod 64).toNat = 8 * k := by decide
theorem bz_n2 : ∀ k, k < 8 → (((8 * nI k : Int32).toInt64.toUInt64 &&& Int64.toUInt64 63).toBitVec % 64).toNat = 8 * k := by decide
theorem bz_k (w : Int64) {k : Nat} (hk : k < 8) : vp_nar .byte ((w >>> ((8 * nI k : Int32).toInt64 &&& 63)).toInt32.toInt8.toInt32) = pby w k := by
  unfold pby
  congr 2
  apply Int8.toBitVec_inj.mp
  rw [Int32.toBitVec_toInt8, Int32.toBitVec_toInt8, Int64.toBitVec_toInt32, Int64.toBitVec_toInt32, Int64.toBitVec_shiftRight]
  show BitVec.signExtend 8 (BitVec.signExtend 32 (w.toBitVec.sshiftRight (((8 * nI k : Int32).toInt64 &&& 63).toBitVec.smod 64).toNat)) = BitVec.signExtend 8 (BitVec.signExtend 32 (w.toUInt64 >>> ((8 * nI k : Int32).toInt64.toUInt64 &&& Int64.toUInt64 63)).toBitVec)
  rw [UInt64.toBitVec_shiftRight, BitVec.ushiftRight_eq', bz_n1 k hk, bz_n2 k hk]
  exact bz_b _ _ (by omega)
theorem pB_at {f : Nat → Int32} {t : Nat} {w : Int64} {n k : Nat} : pB f t w n k = if t ≤ k ∧ k < t + n then pby w (k - t) else f k := by
  induction n with
  | zero => rw [if_neg (by omega)]; rfl
  | succ n ih =>
    show (if k = t + n then pby w n else pB f t w n k) = _
    by_cases e : k = t + n
    · subst e
      rw [if_pos rfl, if_pos ⟨by omega, by omega⟩, Nat.add_sub_cancel_left]
    · rw [if_neg e, ih]
      by_cases h : t ≤ k ∧ k < t + n
      · rw [if_pos h, if_pos ⟨h.1, by omega⟩]
      · rw [if_neg h, if_neg (by omega)]
theorem vFil_at {v : zV} {b : Nat} {w : Int64} {n k : Nat} (hn : n ≤ 8) : (vFil v b w n).1 1213 k = if b ≤ k ∧ k < b + n then pby w (k - b) else v.1 1213 k := by
  induction n with
  | zero => rw [if_neg (by omega)]; rfl
  | succ n ih =>
    show z2 (vFil v b w n).1 1213 (b + n) _ 1213 k = _
    by_cases e : k = b + n
    · subst e
      rw [z2_s, if_pos ⟨by omega, by omega⟩, Nat.add_sub_cancel_left]
      exact bz_k w (by omega)
    · rw [z2_n _ _ (Or.inr e), ih (by omega)]
      by_cases h : b ≤ k ∧ k < b + n
      · rw [if_pos h, if_pos ⟨h.1, by omega⟩]
      · rw [if_neg h, if_neg (by omega)]
theorem vFil_2 {v : zV} {b : Nat} {w : Int64} (n : Nat) : (vFil v b w n).2 = v.2 := by
  induction n with
  | zero => rfl
  | succ n ih => exact ih
/-- bytes of a segment change -/
theorem Rep.fil {v : zV} {W : zO} (h : Rep v W) (hO : cn v 1201 0 ≤ 6) {g t q : Nat} {w : Int64} (hg : g < 24) (hth : g % 4 < cn v 1203 (g / 4)) (hs64 : ∀ k, k < 24 → cn v 1211 k ≤ 64) (htq : t + q ≤ cn v 1211 g) (hq8 : q ≤ 8) : Rep (vFil v (64 * g + t) w q) (oRi W (800 + 4 * g + 2) (pB (ori W (800 + 4 * g + 2)) t w q)) := by
  have hg0 := h.2.2.2.2.2.1 g hg hth
  have hkg := kd_g g hg
  have hs64g := hs64 g hg
  have b2 : oa W (800 + 4 * g + 2) := h.1.a hg0.1 (id := 800) (by decide) hkg.1
  have hW : ∀ d, d ≠ 800 + 4 * g + 2 → oRi W (800 + 4 * g + 2) (pB (ori W (800 + 4 * g + 2)) t w q) d = W d := fun d hd => va_up_ne _ _ hd
  have hWs : oRi W (800 + 4 * g + 2) (pB (ori W (800 + 4 * g + 2)) t w q) (800 + 4 * g + 2) = eRi (W (800 + 4 * g + 2)) (pB (ori W (800 + 4 * g + 2)) t w q) := va_up_self _ _ _
  have hs : ∀ id k, id ≠ 1213 → (vFil v (64 * g + t) w q).1 id k = v.1 id k := fun id k hid => vFil_ne hid k q
  have hc : ∀ id k, id ≠ 1213 → cn (vFil v (64 * g + t) w q) id k = cn v id k := fun id k hid => by
    unfold cn
    rw [hs id k hid]
  have hb : ∀ k, k < 64 * g ∨ 64 * g + 64 ≤ k → (vFil v (64 * g + t) w q).1 1213 k = v.1 1213 k := fun k hk => by
    rw [vFil_at hq8, if_neg (by omega)]
  refine h.mk2 (h.1.Ri b2) (hW 2 (by omega)) (hW 4 (by omega)) (hW 5 (by omega)) (hW 14 (by omega)) (hW 58 (by omega)) (fun d d1 d2 => hW d (by omega)) (fun id k hid => hs id k (by omega)) (vFil_2 q) (fun o ho => ?_) (fun f hf hf2 => ?_) (fun g2 hg2 hg3 => ?_) (fun y hy hy2 => ?_) (fun c hc2 => ?_)
  · exact (h.2.2.2.1 o ho).same (fun id hid => hs id o (by omega)) (fun k hk => hW _ (by omega))
  · rw [hc 1202 _ (by decide)] at hf2
    exact (h.2.2.2.2.1 f hf hf2).same (fun id hid => hs id f (by omega)) (fun k hk => ⟨hs _ _ (by decide), hs _ _ (by decide)⟩) (fun k hk => hW _ (by omega))
  · rw [hc 1203 _ (by decide)] at hg3
    by_cases e : g2 = g
    · subst e
      unfold rpG oa oi onn ori
      rw [hW (800 + 4 * g2) (by omega), hWs, hc 1211 _ (by decide), hs 1212 _ (by decide)]
      refine ⟨hg0.1, hg0.2.1, hg0.2.2.1, fun k hk => ?_⟩
      show pB (ori W (800 + 4 * g2 + 2)) t w q k = _
      rw [pB_at, vFil_at hq8]
      by_cases h9 : t ≤ k ∧ k < t + q
      · rw [if_pos h9, if_pos (by omega), show 64 * g2 + k - (64 * g2 + t) = k - t by omega]
      · rw [if_neg h9, if_neg (by omega)]
        exact hg0.2.2.2 k hk
    · exact (h.2.2.2.2.2.1 g2 hg2 hg3).same (hs _ _ (by decide)) (hs _ _ (by decide)) (fun k hk => hb _ (by have h9 := hs64 g2 hg2; omega)) (hW _ (by omega)) (hW _ (by omega))
  · rw [hc 1204 _ (by decide)] at hy2
    exact (h.2.2.2.2.2.2.1 y hy hy2).same (fun id hid => hs id y (by omega)) (hW _ (by omega))
  · have h9 := h.2.2.2.2.2.2.2.1 c ((oaRi b2).mp hc2)
    unfold rpN at h9 ⊢
    rw [hc 1201 _ (by decide), hc 1202 _ (by decide), hc 1203 _ (by decide), hc 1204 _ (by decide)]
    exact h9
theorem oRi_two {W : zO} {c : Nat} {f g h : Nat → Int32} (e : g = h) : oRi (oRi W c f) c g = oRi W c h := by
  subst e
  show va_up (va_up W c (eRi (W c) f)) c (eRi (va_up W c (eRi (W c) f) c) g) = va_up W c (eRi (W c) g)
  funext b
  by_cases hb : b = c
  · subst hb
    rw [va_up_self, va_up_self, va_up_self]
  · rw [va_up_ne _ _ hb, va_up_ne _ _ hb, va_up_ne _ _ hb]
theorem oRi_id {W : zO} {c : Nat} {f : Nat → Int32} (e : f = ori W c) : oRi W c f = W := by
  subst e
  funext b
  show va_up W c (W c) b = W b
  by_cases hb : b = c
  · subst hb
    rw [va_up_self]
  · rw [va_up_ne _ _ hb]
set_option maxRecDepth 100000 in
set_option maxHeartbeats 4000000 in
theorem c_putBytes {l : Launch} {N0 t0 : Nat} {D : va_G} {cy : Nat → ClassId} {S : zS} {X : Nat → Prop} {S0 : zS} {ad : Nat → Nat} {W : zO} (hH : zH t0 X S0 ad W S) {d a t q : Nat} {w : Int64} (hd : oa W d) (ea : ad d = a) (hk : kd d = 13) (hN : onn W d < 2 ^ 31) (htq : t + q ≤ onn W d) : zMv l yX11_putBytes (zws yX11_putBytes cX11_putBytes 6 none) { frames := 0, cells := 0, slots := 0, locals := 0 } N0 t0 D cy S [.ref a, .int (nI t), .int (nI q), .long w] (fun S' => zH t0 X S0 ad (oRi W d (pB (ori W d) t w q)) S') 0 0 := by
  refine zMv.of (cc := cX11_putBytes) (maxL := 6) (ret := none) (by decide) rfl (Nat.le_of_ble_eq_true rfl) ?_
  intro p e s m args below meth c F G hr hlk hnm
  refine r_iconst (v := 0) F dX11_putBytes_0 (by decide) ?_
  refine r_istore F dX11_putBytes_1 (by decide) ?_
  refine z_loop (fun n S9 lv => ∃ k, k + n = q ∧ zH t0 X S0 ad (oRi W d (pB (ori W d) t w k)) S9 ∧ lv = [(5, .int (nI k)), (0, .ref a), (1, .int (nI t)), (2, .int (nI q)), (3, .long w)]) q ?_ ⟨0, by omega, (oRi_id rfl).symm ▸ hH, rfl⟩
  clear hH
  rintro n S lv ⟨k, hn9, hH, rfl⟩ ih
  refine r_iload F dX11_putBytes_3 rfl ?_
  refine r_iload_n F dX11_putBytes_5 rfl ?_
  refine r_icmp_ge (tgt := 30) F dX11_putBytes_6 (by decide) (fun c6 => ?_) (fun c6 => ?_)
  · have hkq : k = q := by rw [nI_leI (by omega) (by omega)] at c6; omega
    subst hkq
    exact e_vret F hr hlk hH (by decide) (by decide) dX11_putBytes_30
  · have hkq : k < q := by rw [nI_leI (by omega) (by omega)] at c6; omega
    refine r_aload_n F dX11_putBytes_9 rfl ?_
    refine r_iload_n F dX11_putBytes_10 rfl ?_
    refine r_iload F dX11_putBytes_11 rfl ?_
    refine r_iadd F dX11_putBytes_13 ?_
    rw [nI_add]
    refine r_lload_n F dX11_putBytes_14 rfl ?_
    refine r_bipush (v := 8) F dX11_putBytes_15 (by decide) ?_
    refine r_iload F dX11_putBytes_17 rfl ?_
    refine r_imul F dX11_putBytes_19 ?_
    refine r_lushr F dX11_putBytes_20 ?_
    refine r_l2i F dX11_putBytes_21 ?_
    refine r_i2b F dX11_putBytes_22 ?_
    refine v_bast F G hH (d := d) (n := t + k) ((oaRi hd).mpr hd) ea hk (by show t + k < (va_up W d _ d).2.2.2.2.1; rw [va_up_self]; show t + k < onn W d; omega) (by show (va_up W d _ d).2.2.2.2.1 < _; rw [va_up_self]; exact hN) dX11_putBytes_23 (fun S hH => ?_)
    have e1 : oRi (oRi W d (pB (ori W d) t w k)) d (upd (ori (oRi W d (pB (ori W d) t w k)) d) (t + k) (pby w k)) = (oRi W d (pB (ori W d) t w (k + 1))) := oRi_two (by show upd (va_up W d _ d).2.2.2.2.2.1 _ _ = _; rw [va_up_self]; rfl)
    have hH2 : zH t0 X S0 ad (oRi W d (pB (ori W d) t w (k + 1))) S := e1 ▸ hH
    refine r_iinc F dX11_putBytes_24 rfl (by decide) ?_
    refine r_goto (tgt := 3) F dX11_putBytes_27 (by decide) ?_
    exact ih (n - 1) _ _ (by omega) ⟨k + 1, by omega, hH2, by rw [show nI k + Int32.ofInt 1 = nI (k + 1) from nI_add k 1]; rfl⟩
set_option maxRecDepth 100000 in
set_option maxHeartbeats 4000000 in
theorem c_fill {l : Launch} {N0 t0 : Nat} {D : va_G} {cy : Nat → ClassId} {S : zS} (hl : l.stackTraces = false) {X : Nat → Prop} {S0 : zS} {ad : Nat → Nat} {W : zO} (hH : zH t0 X S0 ad W S) {v : zV} (hR : Rep v W) (hv : vRg v) {a : Nat} {o f x : Int32} {w : Int64} (ea : ad 2 = a) : zTv l yX11_fill (zws yX11_fill cX11_fill 7 none) { frames := 8, cells := 2, slots := 12, locals := 123 } N0 t0 D cy S [.ref a, .int o, .int f, .int x, .long w] (fun S' => (gT v 1203 o f ∧ ¬ x < 0 ∧ ∃ i j, i < cn v 1201 0 ∧ o = nI i ∧ j < cn v 1203 i ∧ f = nI j ∧ x < v.1 1211 (4 * i + j)) ∧ ∃ i j t, i < cn v 1201 0 ∧ o = nI i ∧ j < cn v 1203 i ∧ f = nI j ∧ x = nI t ∧ t < cn v 1211 (4 * i + j) ∧ ∃ W', zH t0 X S0 ad W' S' ∧ Rep (vFil (u1 (u1 v 1200 0 0) 1219 0 0) (64 * (4 * i + j) + t) w (min 8 (cn v 1211 (4 * i + j) - t))) W' ∧ ∀ d, 44 ≤ d → d < 50 → W' d = W d) (fun E S' => S' = S ∧ ¬ (gT v 1203 o f ∧ ¬ x < 0 ∧ ∃ i j, i < cn v 1201 0 ∧ o = nI i ∧ j < cn v 1203 i ∧ f = nI j ∧ x < v.1 1211 (4 * i + j)) ∧ E = zIAE) 2 12 := by
  refine zTv.of (cc := cX11_fill) (maxL := 7) (ret := none) (by decide) rfl (Nat.le_of_ble_eq_true rfl) ?_
  intro p e s m args below meth c F G hr hlk hnm htb
  subst ea
  obtain ⟨A0, Q0, L0, L1, L2⟩ := hR.lin hH
  have hn0 := (rg_1201 hv (k := 0) (by decide)).2
  refine r_aload_n F dX11_fill_0 rfl ?_
  refine r_iload_n F dX11_fill_1 rfl ?_
  refine t_Vq (ci := 11) F G htb hlk (c_unitAt hl hH hR hv rfl) (cwV 1 F.2.2.2.2 (zgV km_X11_76 ki_X11_unitAt ke_X11_X11_unitAt kn_X11 ko_X11_unitAt) rfl rfl rfl ⟨rfl, hd_yX11_unitAt⟩ ⟨Nat.le_of_ble_eq_true rfl, Nat.le_of_ble_eq_true rfl⟩) rfl (by decide) A0 rfl rfl (Nat.le_of_ble_eq_true rfl) dX11_fill_2 ⟨Nat.le_of_ble_eq_true rfl, Nat.le_of_ble_eq_true rfl⟩ (fun E S' h => ⟨h.2.2, fun ⟨⟨i2, j2, q1, q2, q3, q4⟩, q5⟩ => h.1 ⟨i2, q1, q2⟩, h.2.1⟩) (Nat.le_of_ble_eq_true rfl) (Nat.le_of_ble_eq_true rfl) (fun r2 S2 h2 => ?_)
  obtain ⟨h2a, i, hi, ei, h2b⟩ := h2
  have h2c := h2a.symm
  subst h2c
  subst ei
  subst h2b
  have hi6 : i < 6 := by omega
  have hg := rg_1203 hv hi6
  obtain ⟨n, en⟩ : ∃ n, cn v 1203 i = n := ⟨_, rfl⟩
  have hn : v.1 1203 i = nI n := by rw [← en]; exact hg.1
  have hnM := hg.2
  rw [en] at hnM
  have hk := kd_u i hi6
  have hU := hR.2.2.2.1 i hi
  have U0 : zA S (ad (100 + 8 * i)) 10 := hH.al hU.1 rfl hk.1
  have Q1 : zq S 1001 (ad (100 + 8 * i)) = some (ad ((100 + 8 * i) + 4)) := hH.qS hU.1 rfl (by rw [hk.1]; decide) (hR.1.q hU.1 (by decide) hk.1) rfl
  have M0 : zA S (ad ((100 + 8 * i) + 4)) 0 := hU.2.2.1.al hH hk.2.2.2.1 rfl
  have M1 : zi S 2 (ad ((100 + 8 * i) + 4)) = nI n := by rw [← en]; exact hU.2.2.1.z hH hk.2.2.2.1 rfl
  refine r_iload_n F dX11_fill_5 rfl ?_
  refine c_Vq (ci := 10) F G (c_segmentAt hH hR.1 hU.1 rfl hk.1 hU.2.2.1 hk.2.2.2.1 hk.2.2.2.2.1 (fun j hj => (kd_g (4 * i + j) (by have := (rg_1203 hv hi6).2; omega)).1) (by have := (rg_1203 hv hi6).2; omega)) (cwV 1 F.2.2.2.2 (zgV km_X11_113 ki_X9_segmentAt ke_X9_X9_segmentAt kn_X9 ko_X9_segmentAt) rfl rfl rfl ⟨rfl, hd_yX9_segmentAt⟩ ⟨Nat.le_of_ble_eq_true rfl, Nat.le_of_ble_eq_true rfl⟩) rfl (by decide) U0 rfl rfl (Nat.le_of_ble_eq_true rfl) dX11_fill_6 ⟨Nat.le_of_ble_eq_true rfl, Nat.le_of_ble_eq_true rfl⟩ (fun r6 S6 h6 => ?_)
  obtain ⟨h6a, h6⟩ := h6
  have h6c := h6a.symm
  subst h6c
  rcases h6 with ⟨j, hj, ej, h6r⟩ | ⟨h6n, h6r⟩
  · subst ej
    subst h6r
    have hj4 : j < 4 := by have := (rg_1203 hv hi6).2; omega
    have gt : gT v 1203 (nI i) (nI j) := ⟨i, j, hi, rfl, hj, rfl⟩
    have hthg : (4 * i + j) % 4 < cn v 1203 ((4 * i + j) / 4) := by rw [show (4 * i + j) / 4 = i by omega]; omega
    have hg0 := hR.2.2.2.2.2.1 (4 * i + j) (by omega) hthg
    have hkg := kd_g (4 * i + j) (by omega)
    have hsz := rg_1211 hv (k := (4 * i + j)) (by omega)
    have b2 : oa W ((800 + 4 * (4 * i + j)) + 2) := hR.1.a hg0.1 (id := 800) (by decide) hkg.1
    have T0 : zA S (ad (800 + 4 * (4 * i + j))) 8 := hH.al hg0.1 rfl hkg.1
    have T1 : zq S 800 (ad (800 + 4 * (4 * i + j))) = some (ad ((800 + 4 * (4 * i + j)) + 2)) := hH.qS hg0.1 rfl (by rw [hkg.1]; decide) (hR.1.q hg0.1 (by decide) hkg.1) rfl
    have hs2 := hsz.2
    refine r_astore (x := ad (800 + 4 * (4 * i + j))) F dX11_fill_9 (by decide) ?_
    refine r_aload F dX11_fill_11 rfl ?_
    refine r_ifnull F dX11_fill_13 ?_
    refine r_iload_n F dX11_fill_16 rfl ?_
    refine r_if_lt (tgt := 34) F dX11_fill_17 (by decide) (fun c17 => ?_) (fun c17 => ?_)
    · refine r_iconst (v := 0) F dX11_fill_34 (by decide) ?_
      refine t_Sv F G htb hlk (k_require hl _) (va_cwS 1 F.2.2.2.2 (zgS km_X11_102 ks_X11_require kn_X11 ko_X11_require) rfl rfl rfl hd_yX11_require ⟨Nat.le_of_ble_eq_true rfl, Nat.le_of_ble_eq_true rfl⟩) rfl rfl (Nat.le_of_ble_eq_true rfl) dX11_fill_35 ⟨Nat.le_of_ble_eq_true rfl, Nat.le_of_ble_eq_true rfl⟩ (fun E S' h => ⟨h.2.2, fun q => q.2.1 c17, h.2.1⟩) (Nat.le_of_ble_eq_true rfl) (Nat.le_of_ble_eq_true rfl) (fun S35 h35 => ?_)
      exact absurd rfl h35.1
    · refine r_iload_n F dX11_fill_20 rfl ?_
      refine r_aload F dX11_fill_21 rfl ?_
      refine r_getS (ci := 8) (k := 0) (id := 800) (C := RX7) (T := TX7) (N := 3) F G rfl (by decide) (by decide) rfl (zinL inG8) (zin kf_X11_117) (fun _ h9 => h9) dX11_fill_23 T0 T1 ?_
      refine v_alen (n := 0) (j := 0) F G hH b2 rfl hkg.2 rfl rfl dX11_fill_26 ?_
      rw [hg0.2.2.1]
      refine r_icmp_ge (tgt := 34) F dX11_fill_27 (by decide) (fun c27 => ?_) (fun c27 => ?_)
      · refine r_iconst (v := 0) F dX11_fill_34 (by decide) ?_
        refine t_Sv F G htb hlk (k_require hl _) (va_cwS 1 F.2.2.2.2 (zgS km_X11_102 ks_X11_require kn_X11 ko_X11_require) rfl rfl rfl hd_yX11_require ⟨Nat.le_of_ble_eq_true rfl, Nat.le_of_ble_eq_true rfl⟩) rfl rfl (Nat.le_of_ble_eq_true rfl) dX11_fill_35 ⟨Nat.le_of_ble_eq_true rfl, Nat.le_of_ble_eq_true rfl⟩ (fun E S' h => ⟨h.2.2, fun q => by obtain ⟨_, _, i2, j2, q1, q2, q3, q4, q5⟩ := q; have q6 := (nI_eq (by omega) (by omega)).mp q2; subst q6; have q7 := (nI_eq (by omega) (by omega)).mp q4; subst q7; rw [← hsz.1] at c27; exact absurd q5 (Int32.not_lt.mpr c27), h.2.1⟩) (Nat.le_of_ble_eq_true rfl) (Nat.le_of_ble_eq_true rfl) (fun S35 h35 => ?_)
        exact absurd rfl h35.1
      · refine r_iconst (v := 1) F dX11_fill_30 (by decide) ?_
        refine r_goto (tgt := 35) F dX11_fill_31 (by decide) ?_
        refine t_Sv F G htb hlk (k_require hl _) (va_cwS 1 F.2.2.2.2 (zgS km_X11_102 ks_X11_require kn_X11 ko_X11_require) rfl rfl rfl hd_yX11_require ⟨Nat.le_of_ble_eq_true rfl, Nat.le_of_ble_eq_true rfl⟩) rfl rfl (Nat.le_of_ble_eq_true rfl) dX11_fill_35 ⟨Nat.le_of_ble_eq_true rfl, Nat.le_of_ble_eq_true rfl⟩ (fun E S' h => absurd h.1 (by decide)) (Nat.le_of_ble_eq_true rfl) (Nat.le_of_ble_eq_true rfl) (fun S35 h35 => ?_)
        obtain ⟨h35a, h35b⟩ := h35
        have h35c := h35b.symm
        subst h35c
        obtain ⟨t, ht, et⟩ := nI_of c17
        subst et
        have htl : t < cn v 1211 (4 * i + j) := by rw [nI_leI (by omega) (by omega)] at c27; omega
        refine r_aload_n F dX11_fill_38 rfl ?_
        refine r_iconst (v := 0) F dX11_fill_39 (by decide) ?_
        refine r_puti (ci := 11) (k := 6) (id := 1106) (C := RX11) (T := TX11) (N := 8) (ty := .boolean) (ty0 := tyX11) F G rfl (by decide) (by decide) rfl (zinL inG11) (zin kf_X11_51) (fun _ h9 => h9) tyX11_ok nmX11 rfl pd11_6 rfl rfl dX11_fill_40 A0 ?_
        refine zgen (P := zH t0 X S0 ad (oI W 2 1106 0)) (hH.pi (id := 1106) hR.2.1 rfl rfl (by decide) 0) (fun S hH => ?_)
        have hR1 : Rep (u1 (u1 v 1200 0 0) 1219 0 0) (oI W 2 1106 0) := hR.unl
        obtain ⟨W1, eW⟩ : ∃ W1, W1 = (oI W 2 1106 0) := ⟨_, rfl⟩
        rw [← eW] at hH hR1
        have hg1 := hR1.2.2.2.2.2.1 (4 * i + j) (by omega) hthg
        have b21 : oa W1 ((800 + 4 * (4 * i + j)) + 2) := hR1.1.a hg1.1 (id := 800) (by decide) hkg.1
        have Y0 : zA S (ad (800 + 4 * (4 * i + j))) 8 := hH.al hg1.1 rfl hkg.1
        have Y1 : zq S 800 (ad (800 + 4 * (4 * i + j))) = some (ad ((800 + 4 * (4 * i + j)) + 2)) := hH.qS hg1.1 rfl (by rw [hkg.1]; decide) (hR1.1.q hg1.1 (by decide) hkg.1) rfl
        have n21 : onn W1 ((800 + 4 * (4 * i + j)) + 2) = cn v 1211 (4 * i + j) := hg1.2.2.1
        refine r_aload F dX11_fill_43 rfl ?_
        refine r_getS (ci := 8) (k := 0) (id := 800) (C := RX7) (T := TX7) (N := 3) F G rfl (by decide) (by decide) rfl (zinL inG8) (zin kf_X11_117) (fun _ h9 => h9) dX11_fill_45 Y0 Y1 ?_
        refine r_iload_n F dX11_fill_48 rfl ?_
        refine r_bipush (v := 8) F dX11_fill_49 (by decide) ?_
        refine r_aload F dX11_fill_51 rfl ?_
        refine r_getS (ci := 8) (k := 0) (id := 800) (C := RX7) (T := TX7) (N := 3) F G rfl (by decide) (by decide) rfl (zinL inG8) (zin kf_X11_117) (fun _ h9 => h9) dX11_fill_53 Y0 Y1 ?_
        refine v_alen (n := 0) (j := 0) F G hH b21 rfl hkg.2 rfl rfl dX11_fill_56 ?_
        rw [n21]
        refine r_iload_n F dX11_fill_57 rfl ?_
        refine r_isub F dX11_fill_58 ?_
        refine r_mmin F (zin km_X11_121) (zin ks_J9_min_7cf53) (zin kn_J9) (zin ko_J9_min_7cf53) (Nat.le_of_ble_eq_true rfl) (Nat.le_of_ble_eq_true rfl) (Nat.le_of_ble_eq_true rfl) (Nat.le_of_ble_eq_true rfl) dX11_fill_59 ?_
        rw [show (if nI (cn v 1211 (4 * i + j)) - nI t < 8 then nI (cn v 1211 (4 * i + j)) - nI t else (8 : Int32)) = nI (min 8 (cn v 1211 (4 * i + j) - t)) by
          rw [nI_sub (by omega), nl8]
          by_cases h9 : cn v 1211 (4 * i + j) - t < 8
          · rw [if_pos ((nI_ltI (by omega) (by omega)).mpr h9), show min 8 (cn v 1211 (4 * i + j) - t) = cn v 1211 (4 * i + j) - t by omega]
          · rw [if_neg (fun h8 => h9 ((nI_ltI (by omega) (by omega)).mp h8)), show min 8 (cn v 1211 (4 * i + j) - t) = 8 by omega]]
        refine r_lload F dX11_fill_62 rfl ?_
        refine c_Sv F G (c_putBytes hH (d := (800 + 4 * (4 * i + j)) + 2) (q := min 8 (cn v 1211 (4 * i + j) - t)) b21 rfl hkg.2 (by rw [n21]; omega) (by rw [n21]; omega)) (va_cwS 4 F.2.2.2.2 (zgS km_X11_127 ks_X11_putBytes kn_X11 ko_X11_putBytes) rfl rfl rfl hd_yX11_putBytes ⟨Nat.le_of_ble_eq_true rfl, Nat.le_of_ble_eq_true rfl⟩) rfl rfl (Nat.le_of_ble_eq_true rfl) dX11_fill_64 ⟨Nat.le_of_ble_eq_true rfl, Nat.le_of_ble_eq_true rfl⟩ (fun S64 hH4 => ?_)
        have hR4 := hR1.fil hn0 (g := (4 * i + j)) (t := t) (q := min 8 (cn v 1211 (4 * i + j) - t)) (w := w) (by omega) hthg (fun k hk => (rg_1211 hv hk).2) (by show t + _ ≤ cn v 1211 (4 * i + j); omega) (by omega)
        exact x_vret F hr hlk ⟨⟨gt, c17, i, j, hi, rfl, hj, rfl, by rw [hsz.1]; exact (nI_ltI (by omega) (by omega)).mpr htl⟩, i, j, t, hi, rfl, hj, rfl, rfl, htl, _, hH4, hR4, fun d q1 q2 => (oRi_n (by omega)).trans (by rw [eW]; exact oI_n (by omega))⟩ (Nat.le_of_ble_eq_true rfl) (Nat.le_of_ble_eq_true rfl) dX11_fill_67
  · subst h6r
    refine r_astoreQ (x := none) F dX11_fill_9 (by decide) ?_
    refine r_aloadQ (x := none) F dX11_fill_11 rfl ?_
    refine r_ifnullN (tgt := 34) F dX11_fill_13 (by decide) ?_
    refine r_iconst (v := 0) F dX11_fill_34 (by decide) ?_
    refine t_Sv F G htb hlk (k_require hl _) (va_cwS 1 F.2.2.2.2 (zgS km_X11_102 ks_X11_require kn_X11 ko_X11_require) rfl rfl rfl hd_yX11_require ⟨Nat.le_of_ble_eq_true rfl, Nat.le_of_ble_eq_true rfl⟩) rfl rfl (Nat.le_of_ble_eq_true rfl) dX11_fill_35 ⟨Nat.le_of_ble_eq_true rfl, Nat.le_of_ble_eq_true rfl⟩ (fun E S' h => ⟨h.2.2, fun q => by obtain ⟨⟨i2, j2, q1, q2, q3, q4⟩, -⟩ := q; have q5 := (nI_eq (by omega) (by omega)).mp q2; subst q5; exact h6n j2 q3 q4, h.2.1⟩) (Nat.le_of_ble_eq_true rfl) (Nat.le_of_ble_eq_true rfl) (fun S35 h35 => ?_)
    exact absurd rfl h35.1
