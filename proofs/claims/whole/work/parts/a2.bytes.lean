theorem fits_bv (x : Int32) : fits .byte (.int (bv x)) = true := by
  have h : ∀ b : Int8, fits .byte (.int b.toInt32) = true := fun b => by
    have h1 := b.le_toInt
    have h2 := b.toInt_le
    simp only [fits, Bool.and_eq_true, decide_eq_true_eq, Int32.le_iff_toInt_le, Int8.toInt_toInt32]
    exact ⟨h1, h2⟩
  unfold bv
  rw [vp_nar_byte]
  exact h _
theorem bv2 (x : Int32) : bv (bv x) = bv x := by
  unfold bv
  simp [vp_nar_byte]
theorem i_and127 (y : Int32) : y &&& 127 = nI (y.toInt % 128).toNat := by
  apply Int32.toBitVec_inj.mp
  rw [Int32.toBitVec_and, show (nI (y.toInt % 128).toNat).toBitVec = BitVec.ofNat 32 (y.toInt % 128).toNat from Int32.toBitVec_ofNat']
  apply BitVec.eq_of_toNat_eq
  rw [BitVec.toNat_and, show (127 : Int32).toBitVec.toNat = 2 ^ 7 - 1 from rfl, Nat.and_two_pow_sub_one_eq_mod, BitVec.toNat_ofNat]
  have h : y.toInt = y.toBitVec.toInt := rfl
  rw [h, BitVec.toInt_eq_toNat_cond]
  have h2 := y.toBitVec.isLt
  split <;> omega
theorem i_or128 : ∀ n, n < 128 → nI n ||| 128 = nI (n + 128) := by decide
theorem i_c128 (y : Int32) : (y &&& 127) ||| 128 = nI ((y.toInt % 128).toNat + 128) := by
  rw [i_and127, i_or128 _ (by omega)]
theorem i_shr7 (y : Int32) : (y >>> ((7 : Int32) &&& 31)).toInt = y.toInt / 128 := by
  show (y >>> ((7 : Int32) &&& 31)).toBitVec.toInt = y.toBitVec.toInt / 128
  rw [Int32.toBitVec_shiftRight]
  show (y.toBitVec.sshiftRight (((7 : Int32) &&& 31).toBitVec.smod 32).toNat).toInt = _
  rw [show (((7 : Int32) &&& 31).toBitVec.smod 32).toNat = 7 by decide, BitVec.toInt_sshiftRight, Int.shiftRight_eq_div_pow]
  rfl
theorem i_ushr7 {r : Nat} (h : r < 2 ^ 31) : ((nI r).toUInt32 >>> ((7 : Int32).toUInt32 &&& Int32.toUInt32 31)).toInt32 = nI (r / 128) := by
  apply Int32.toBitVec_inj.mp
  apply BitVec.eq_of_toNat_eq
  have h3 : (nI (r / 128)).toBitVec = BitVec.ofNat 32 (r / 128) := Int32.toBitVec_ofNat'
  have h2 : (nI r).toBitVec = BitVec.ofNat 32 r := Int32.toBitVec_ofNat'
  rw [h3]
  show ((nI r).toUInt32 >>> ((7 : Int32).toUInt32 &&& Int32.toUInt32 31)).toNat = _
  rw [show (7 : Int32).toUInt32 &&& Int32.toUInt32 31 = 7 from by decide, UInt32.toNat_shiftRight]
  show (nI r).toBitVec.toNat >>> _ = _
  rw [h2, BitVec.toNat_ofNat, BitVec.toNat_ofNat, Nat.mod_eq_of_lt (show r < 2 ^ 32 by omega), Nat.mod_eq_of_lt (show r / 128 < 2 ^ 32 by omega), show UInt32.toNat 7 % 32 = 7 from rfl, Nat.shiftRight_eq_div_pow]
/-- how long a row is behind a put; behind j puts -/
def pk (k n : Nat) : Nat := if n = k then 2 * k else k
def gk (k n : Nat) : Nat → Nat
  | 0 => k
  | j + 1 => pk (gk k n j) (n + j)
theorem pkk_le (k n : Nat) : k ≤ pk k n := by
  unfold pk
  split <;> omega
theorem gk_mono {k n a : Nat} : ∀ b, a ≤ b → gk k n a ≤ gk k n b
  | 0, h => by rw [Nat.le_zero.mp h]; exact Nat.le_refl _
  | b + 1, h => by
    rcases Nat.lt_or_ge a (b + 1) with h1 | h1
    · exact Nat.le_trans (gk_mono b (by omega)) (pkk_le _ _)
    · rw [show a = b + 1 by omega]; exact Nat.le_refl _
theorem gk_le (k n j : Nat) : k ≤ gk k n j := gk_mono (a := 0) j (Nat.zero_le j)
theorem gk_add (k n a : Nat) : ∀ b, gk (gk k n a) (n + a) b = gk k n (a + b)
  | 0 => rfl
  | b + 1 => by
    show pk (gk (gk k n a) (n + a) b) (n + a + b) = pk (gk k n (a + b)) (n + (a + b))
    rw [gk_add k n a b, Nat.add_assoc]
/-- Bytes c holds L in a row of k places -/
def bL (W : zO) (c : Nat) (L : List Int32) (k : Nat) : Prop := (c = 44 ∨ c = 46 ∨ c = 48) ∧ oa W c ∧ oq W c 100 = some (c + 1) ∧ (∀ j, j ≠ 100 → oq W c j = none) ∧ oa W (c + 1) ∧ oi W c 101 = nI L.length ∧ onn W (c + 1) = k ∧ L.length ≤ k ∧ (∃ e, e ≤ 9 ∧ k = 128 * 2 ^ e) ∧ aB L ∧ ∀ i, i < L.length → ori W (c + 1) i = L.getD i 0
theorem bL.k {W : zO} {c : Nat} {L : List Int32} {k : Nat} (h : bL W c L k) : kd c = 1 ∧ kd (c + 1) = 13 ∧ c % 2 = 0 ∧ c < 60 := by
  rcases h.1 with e | e | e <;> subst e <;> decide
theorem bL.b {W : zO} {c : Nat} {L : List Int32} {k : Nat} (h : bL W c L k) : 128 ≤ k ∧ k ≤ 65536 := by
  obtain ⟨e, he, ek⟩ := h.2.2.2.2.2.2.2.2.1
  have h1 := Nat.pow_le_pow_right (show 0 < 2 by decide) he
  have h2 := Nat.pow_le_pow_right (show 0 < 2 by decide) (Nat.zero_le e)
  omega
theorem bL.same {W W' : zO} {c : Nat} {L : List Int32} {k : Nat} (h : bL W c L k) (h1 : W' c = W c) (h2 : W' (c + 1) = W (c + 1)) : bL W' c L k := by
  unfold bL oa oq oi onn ori
  rw [h1, h2]
  exact h
/-- what an op on Bytes c leaves -/
def bO (t0 : Nat) (X : Nat → Prop) (S0 : zS) (ad : Nat → Nat) (W : zO) (c : Nat) (L : List Int32) (k : Nat) (S : zS) : Prop := ∃ (ad' : Nat → Nat) (W' : zO), zH t0 X S0 ad' W' S ∧ (∀ d, d ≠ c + 1 → ad' d = ad d) ∧ (∀ d, d ≠ c → d ≠ c + 1 → W' d = W d) ∧ bL W' c L k
theorem bO.tr {t0 : Nat} {X : Nat → Prop} {S0 : zS} {ad ad1 : Nat → Nat} {W W1 : zO} {c : Nat} {L : List Int32} {k : Nat} {S : zS} (ka : ∀ d, d ≠ c + 1 → ad1 d = ad d) (kw : ∀ d, d ≠ c → d ≠ c + 1 → W1 d = W d) (h : bO t0 X S0 ad1 W1 c L k S) : bO t0 X S0 ad W c L k S := by
  obtain ⟨ad2, W2, h1, h2, h3, h4⟩ := h
  exact ⟨ad2, W2, h1, fun d hd => (h2 d hd).trans (ka d hd), fun d a b => (h3 d a b).trans (kw d a b), h4⟩
/-- the row of Bytes c moves to q -/
theorem zH.grow {t0 : Nat} {X : Nat → Prop} {S0 S : zS} {ad : Nat → Nat} {W : zO} {c k : Nat} {L : List Int32} (hH : zH t0 X S0 ad W S) (hB : bL W c L k) {q n : Nat} (hq : q ∉ zL S) (f : Nat → Int32) : zH t0 X S0 (va_up ad (c + 1) q) (va_up (va_up W c (W c)) (c + 1) (True, fun _ => 0, fun _ => none, fun _ => 0, n, f, fun _ => 0, fun _ => none)) (zPq (zRi (zNa S q 13 n) q f) 100 (ad c) (some q)) := by
  obtain ⟨k1, k2, k3, k4⟩ := hB.k
  have hc := hB.2.1
  have hac := hH.al hc rfl k1
  have hq2 : ad c ≠ q := fun e => hq (e ▸ hac.1)
  have hlt : kd c < 13 := by rw [k1]; decide
  refine hH.two hc k3 (e := W c) hc trivial (Or.inl hq) (zfr.pq (zfr.ri (zfr.na zfr.rf hq) (fun h => absurd h hq)) (fun _ => Or.inl rfl)) (by rw [k2]; exact zA.naq (S := S) (j := 13) (n := n)) ⟨fun _ => ⟨fun id => hH.i hc rfl hlt, fun id => ?_, fun id => hH.l hc rfl hlt⟩, fun h9 => absurd hlt (Nat.not_lt.mpr h9)⟩ ⟨fun h9 => absurd h9 (by rw [k2]; decide), fun _ => ⟨va_up_self _ _ _, va_up_self _ _ _, va_up_self _ _ _, fun i => ?_⟩⟩ ⟨fun id d hd => ?_, fun i d hd => ?_⟩ ⟨fun _ _ h1 => (by cases h1), fun _ _ h1 => (by cases h1)⟩
  · by_cases e : id = 100
    · subst e
      show z2 _ 100 (ad c) (some q) 100 (ad c) = ((W c).2.2.1 100).map _
      rw [z2_s, show (W c).2.2.1 100 = some (c + 1) from hB.2.2.1]
      show some q = some (va_up ad (c + 1) q (c + 1))
      rw [va_up_self]
    · show z2 _ 100 (ad c) (some q) id (ad c) = ((W c).2.2.1 id).map _
      rw [z2_n _ _ (Or.inl e), show (W c).2.2.1 id = none from hB.2.2.2.1 id e]
      exact (hH.q hc rfl hlt).trans (by rw [show oq W c id = none from hB.2.2.2.1 id e]; rfl)
  · show va_up (zrq S) q (fun _ => none) q i = _
    rw [va_up_self]
    rfl
  · have hd2 := (hH.cl hc).1 id d hd
    rcases hd2 with e | ⟨e1, e2⟩
    · exact Or.inl e
    · refine Or.inr ⟨?_, e2⟩
      show (va_up (va_up W c (W c)) (c + 1) _ d).1
      by_cases h1 : d = c + 1
      · rw [h1, va_up_self]; exact trivial
      · rw [va_up_ne _ _ h1]
        by_cases h2 : d = c
        · rw [h2, va_up_self]; exact hc
        · rw [va_up_ne _ _ h2]; exact e1
  · have hd2 := (hH.cl hc).2 i d hd
    refine ⟨?_, hd2.2⟩
    show (va_up (va_up W c (W c)) (c + 1) _ d).1
    rw [va_up_ne _ _ (by have := hd2.2; omega)]
    by_cases h2 : d = c
    · rw [h2, va_up_self]; exact hc
    · rw [va_up_ne _ _ h2]; exact hd2.1
set_option maxRecDepth 100000 in
set_option maxHeartbeats 4000000 in
theorem k_copyOfB {l : Launch} {N0 t0 : Nat} {D : va_G} {cy : Nat → ClassId} {S : zS} {q k n : Nat} (hq : zA S q 13) (hk : zn S q = k) (hkn : k < n) (hn : n ≤ 65536) (hel : ∀ i : Nat, i < k → fits .byte (.int (zri S q i)) = true) : zMq l yJ7_copyOf_9075b (zws yJ7_copyOf_9075b cJ7_copyOf_9075b 3 (some (.array .byte))) { frames := 1, cells := 1, slots := n, locals := 24 } N0 t0 D cy S [.ref q, .int (nI n)] (fun r S' => ∃ q1, q1 ∉ zL S ∧ r = some q1 ∧ S' = zRi (zNa S q1 13 n) q1 (fun i => if i < k then zri S q i else 0)) 1 n := by
  refine zMq.of (cc := cJ7_copyOf_9075b) (maxL := 3) (ret := (some (.array .byte))) (by decide) rfl (Nat.le_of_ble_eq_true rfl) ?_
  intro p e s m args below meth c F G hr hlk hnm
  refine r_iload_n F dJ7_copyOf_9075b_0 rfl ?_
  refine r_aload_n F dJ7_copyOf_9075b_1 rfl ?_
  refine r_alen (j := 0) F G hq rfl rfl dJ7_copyOf_9075b_2 ?_
  refine r_icmp_ne (tgt := 14) F dJ7_copyOf_9075b_3 (by decide) (fun _ => ?_) (fun h9 => absurd h9 (by rw [hk]; exact fun h9 => absurd ((nI_eq (by omega) (by omega)).mp h9) (by omega)))
  refine r_iload_n F dJ7_copyOf_9075b_14 rfl ?_
  refine r_newB (n' := n) F G (zin ka_byte) (nI_pos (by omega)) (nI_clamp (by omega)) (by show n * 1 ≤ _; omega) (Nat.le_refl _) (Nat.le_of_eq (Nat.zero_add n)) dJ7_copyOf_9075b_15 (fun q1 hq1 => ?_)
  have nq : q ≠ q1 := fun e9 => hq1 (e9 ▸ hq.1)
  have e1 : zn (zNa S q1 13 n) q = k := (va_up_ne _ _ nq).trans hk
  have e2 : zri (zNa S q1 13 n) q = zri S q := va_up_ne _ _ nq
  have e3 : zri (zNa S q1 13 n) q1 = fun _ => 0 := va_up_self _ _ _
  have a1 : zA (zNa S q1 13 n) q 13 := zA.na hq hq1
  have a2 : zA (zNa S q1 13 n) q1 13 := zA.naq
  have e4 : zn (zNa S q1 13 n) q1 = n := va_up_self _ _ _
  refine r_astore_n F dJ7_copyOf_9075b_17 (by decide) ?_
  refine r_aload_n F dJ7_copyOf_9075b_18 rfl ?_
  refine r_iconst (v := 0) F dJ7_copyOf_9075b_19 (by decide) ?_
  refine r_aload_n F dJ7_copyOf_9075b_20 rfl ?_
  refine r_iconst (v := 0) F dJ7_copyOf_9075b_21 (by decide) ?_
  refine r_aload_n F dJ7_copyOf_9075b_22 rfl ?_
  refine r_alen (j := 0) F G a1 rfl rfl dJ7_copyOf_9075b_23 ?_
  refine r_iload_n F dJ7_copyOf_9075b_24 rfl ?_
  refine r_mmin F (zin km_J7_304) (zin ks_J9_min_7cf53) (zin kn_J9) (zin ko_J9_min_7cf53) (Nat.le_of_ble_eq_true rfl) (Nat.le_of_ble_eq_true rfl) (Nat.le_refl _) (Nat.le_of_eq (Nat.zero_add n)) dJ7_copyOf_9075b_25 ?_
  rw [e1, show (if nI n < nI k then nI n else nI k) = nI k from if_neg (by rw [nI_ltI (by omega) (by omega)]; omega)]
  refine r_copyb F G (zin km_J7_150) (zin kj_J10_arraycopy) (zin ks_J10_arraycopy) (zin kn_J10) a1 a2 (by decide) (by decide) (nI_pos (by omega)) (by rw [e1, nI_clamp (by omega)]; exact Nat.le_of_eq (Nat.zero_add k)) (by rw [e4, nI_clamp (by omega)]; show 0 + k ≤ n; omega) (fun i hi => ?_) (Nat.le_of_ble_eq_true rfl) (Nat.le_of_ble_eq_true rfl) dJ7_copyOf_9075b_28 ?_
  · rw [nI_clamp (by omega)] at hi
    rw [e2, show (0 : Int32).toNatClampNeg + i = i from Nat.zero_add i]
    exact hel i hi
  refine r_aload_n F dJ7_copyOf_9075b_31 rfl ?_
  have e5 : va_cpy (zri (zNa S q1 13 n) q) (zri (zNa S q1 13 n) q1) (0 : Int32).toNatClampNeg (0 : Int32).toNatClampNeg (nI k).toNatClampNeg = (fun i => if i < k then zri S q i else 0) := by
    rw [e2, e3, nI_clamp (by omega)]
    funext i
    show (if 0 ≤ i ∧ i < 0 + k then zri S q (0 + (i - 0)) else 0) = _
    by_cases h9 : i < k
    · rw [if_pos ⟨Nat.zero_le i, by omega⟩, if_pos h9, Nat.sub_zero, Nat.zero_add]
    · rw [if_neg (by omega), if_neg h9]
  rw [e5]
  exact e_aret (v := some q1) F hr (Or.inr ⟨_, rfl⟩) hlk ⟨q1, hq1, rfl, rfl⟩ (Nat.le_refl _) (Nat.le_of_eq (Nat.zero_add n)) dJ7_copyOf_9075b_32
set_option maxRecDepth 100000 in
set_option maxHeartbeats 4000000 in
theorem c_bput {l : Launch} {N0 t0 : Nat} {D : va_G} {cy : Nat → ClassId} {S : zS} {X : Nat → Prop} {S0 : zS} {ad : Nat → Nat} {W : zO} (hH : zH t0 X S0 ad W S) {bc k a : Nat} {L : List Int32} (hB : bL W bc L k) (ea : ad bc = a) {x : Int32} (hlim : L.length < 40000) : zMv l yX0_put (zws yX0_put cX0_put 2 none) { frames := 2, cells := (pk k L.length - k), slots := (2 * (pk k L.length - k)), locals := 46 } N0 t0 D cy S [.ref a, .int x] (fun S' => bO t0 X S0 ad W bc (L ++ [bv x]) (pk k L.length) S') (pk k L.length - k) (2 * (pk k L.length - k)) := by
  refine zMv.of (cc := cX0_put) (maxL := 2) (ret := none) (by decide) rfl (Nat.le_of_ble_eq_true rfl) ?_
  intro p e s m args below meth c F G hr hlk hnm
  subst ea
  obtain ⟨k1, k2, k3, k4⟩ := hB.k
  obtain ⟨kb1, kb2⟩ := hB.b
  have A0 : zA S (ad bc) 1 := hH.al hB.2.1 rfl k1
  have E0 : zi S 101 (ad bc) = nI L.length := (hH.i hB.2.1 rfl (by rw [k1]; decide)).trans hB.2.2.2.2.2.1
  have Q0 : zq S 100 (ad bc) = some (ad (bc + 1)) := hH.qS hB.2.1 rfl (by rw [k1]; decide) hB.2.2.1 rfl
  have b0 := hB.2.2.2.2.1
  have hkn := hB.2.2.2.2.2.2.1
  have hle := hB.2.2.2.2.2.2.2.1
  refine z_cut2 (fun cl sl S9 lv9 => ∃ ad1 W1, zH t0 X S0 ad1 W1 S9 ∧ (∀ d, d ≠ bc + 1 → ad1 d = ad d) ∧ (∀ d, d ≠ bc → d ≠ bc + 1 → W1 d = W d) ∧ bL W1 bc L (pk k L.length) ∧ L.length < pk k L.length ∧ cl ≤ pk k L.length - k ∧ sl ≤ 2 * (pk k L.length - k) ∧ lv9 = [(0, .ref (ad bc)), (1, .int x)]) 29 ?_ (fun tail => ?_)
  · rintro cl sl S lv ⟨ad1, W1, hH, ka, kw, hB1, hlt, hcl, hsl, rfl⟩
    clear A0 E0 Q0 b0 hkn
    have hkb := hB1.b
    have ea1 := ka bc (by omega)
    have A0 : zA S (ad bc) 1 := hH.al hB1.2.1 ea1 k1
    have E0 : zi S 101 (ad bc) = nI L.length := (hH.i hB1.2.1 ea1 (by rw [k1]; decide)).trans hB1.2.2.2.2.2.1
    have Q0 : zq S 100 (ad bc) = some (ad1 (bc + 1)) := hH.qS hB1.2.1 ea1 (by rw [k1]; decide) hB1.2.2.1 rfl
    have b0 := hB1.2.2.2.2.1
    have hkn := hB1.2.2.2.2.2.2.1
    refine r_aload_n F dX0_put_29 rfl ?_
    refine r_getS (ci := 1) (k := 0) (id := 100) (C := RX0) (T := TX0) (N := 2) F G rfl (by decide) (by decide) rfl (zinL inG1) (zin kf_X0_7) (fun _ h9 => h9) dX0_put_30 A0 Q0 ?_
    refine r_aload_n F dX0_put_33 rfl ?_
    refine r_getiS (ci := 1) (k := 1) (id := 101) (C := RX0) (T := TX0) (N := 2) F G rfl (by decide) (by decide) rfl (zinL inG1) (zin kf_X0_13) (fun _ h9 => h9) dX0_put_34 A0 E0 ?_
    refine r_iload_n F dX0_put_37 rfl ?_
    refine r_i2b F dX0_put_38 ?_
    refine v_bast F G hH b0 rfl k2 (by rw [hkn]; exact hlt) (by rw [hkn]; omega) dX0_put_39 (fun S hH => ?_)
    rw [show vp_nar .byte x.toInt8.toInt32 = bv x from rfl] at hH
    clear A0 E0 Q0
    have e2c : (oRi W1 (bc + 1) (upd (ori W1 (bc + 1)) L.length (bv x))) bc = W1 bc := va_up_ne _ _ (by omega)
    have e2r : (oRi W1 (bc + 1) (upd (ori W1 (bc + 1)) L.length (bv x))) (bc + 1) = eRi (W1 (bc + 1)) (upd (ori W1 (bc + 1)) L.length (bv x)) := va_up_self _ _ _
    have a2 : oa (oRi W1 (bc + 1) (upd (ori W1 (bc + 1)) L.length (bv x))) bc := by show ((oRi W1 (bc + 1) (upd (ori W1 (bc + 1)) L.length (bv x))) bc).1; rw [e2c]; exact hB1.2.1
    have A0 : zA S (ad bc) 1 := hH.al a2 ea1 k1
    have E0 : zi S 101 (ad bc) = nI L.length := (hH.i a2 ea1 (by rw [k1]; decide)).trans (by show ((oRi W1 (bc + 1) (upd (ori W1 (bc + 1)) L.length (bv x))) bc).2.1 101 = _; rw [e2c]; exact hB1.2.2.2.2.2.1)
    refine r_aload_n F dX0_put_40 rfl ?_
    refine r_dup F dX0_put_41 rfl ?_
    refine r_getiS (ci := 1) (k := 1) (id := 101) (C := RX0) (T := TX0) (N := 2) F G rfl (by decide) (by decide) rfl (zinL inG1) (zin kf_X0_13) (fun _ h9 => h9) dX0_put_42 A0 E0 ?_
    refine r_iconst (v := 1) F dX0_put_45 (by decide) ?_
    refine r_iadd F dX0_put_46 ?_
    rw [show nI L.length + 1 = nI (L.length + 1) from nI_add _ 1]
    refine r_puti (ci := 1) (k := 1) (id := 101) (C := RX0) (T := TX0) (N := 2) (ty := .int) (ty0 := tyX0) F G rfl (by decide) (by decide) rfl (zinL inG1) (zin kf_X0_13) (fun _ h9 => h9) tyX0_ok nmX0 rfl pd1_1 rfl rfl dX0_put_47 A0 ?_
    refine zgen (P := zH t0 X S0 ad1 (oI (oRi W1 (bc + 1) (upd (ori W1 (bc + 1)) L.length (bv x))) bc 101 (nI (L.length + 1)))) (hH.pi a2 ea1 k1 (by decide) _) (fun S hH => ?_)
    have e3c : oI (oRi W1 (bc + 1) (upd (ori W1 (bc + 1)) L.length (bv x))) bc 101 (nI (L.length + 1)) bc = eI (W1 bc) 101 (nI (L.length + 1)) := (va_up_self _ _ _).trans (by rw [e2c])
    have e3r : oI (oRi W1 (bc + 1) (upd (ori W1 (bc + 1)) L.length (bv x))) bc 101 (nI (L.length + 1)) (bc + 1) = eRi (W1 (bc + 1)) (upd (ori W1 (bc + 1)) L.length (bv x)) := (va_up_ne _ _ (by omega)).trans e2r
    have hup : ∀ (g : Nat → Int32) (j : Nat) (w : Int32) (i : Nat), upd g j w i = if i = j then w else g i := fun g j w i => rfl
    refine e_vret F hr hlk ⟨ad1, _, hH, ka, fun d h1 h2 => (va_up_ne _ _ h1).trans ((va_up_ne _ _ h2).trans (kw d h1 h2)), ?_⟩ hcl hsl dX0_put_50
    refine ⟨hB1.1, ?_, ?_, fun j hj => ?_, ?_, ?_, ?_, ?_, hB1.2.2.2.2.2.2.2.2.1, hB1.2.2.2.2.2.2.2.2.2.1.app aB.nil.cons, fun i hi => ?_⟩
    · show (oI (oRi W1 (bc + 1) (upd (ori W1 (bc + 1)) L.length (bv x))) bc 101 (nI (L.length + 1)) bc).1
      rw [e3c]; exact hB1.2.1
    · show (oI (oRi W1 (bc + 1) (upd (ori W1 (bc + 1)) L.length (bv x))) bc 101 (nI (L.length + 1)) bc).2.2.1 100 = _
      rw [e3c]; exact hB1.2.2.1
    · show (oI (oRi W1 (bc + 1) (upd (ori W1 (bc + 1)) L.length (bv x))) bc 101 (nI (L.length + 1)) bc).2.2.1 j = _
      rw [e3c]; exact hB1.2.2.2.1 j hj
    · show (oI (oRi W1 (bc + 1) (upd (ori W1 (bc + 1)) L.length (bv x))) bc 101 (nI (L.length + 1)) (bc + 1)).1
      rw [e3r]; exact b0
    · show (oI (oRi W1 (bc + 1) (upd (ori W1 (bc + 1)) L.length (bv x))) bc 101 (nI (L.length + 1)) bc).2.1 101 = nI (L ++ [bv x]).length
      rw [e3c, List.length_append]; show va_up (W1 bc).2.1 101 (nI (L.length + 1)) 101 = nI (L.length + 1); exact va_up_self _ _ _
    · show (oI (oRi W1 (bc + 1) (upd (ori W1 (bc + 1)) L.length (bv x))) bc 101 (nI (L.length + 1)) (bc + 1)).2.2.2.2.1 = _
      rw [e3r]; exact hkn
    · rw [List.length_append]; exact hlt
    · show (oI (oRi W1 (bc + 1) (upd (ori W1 (bc + 1)) L.length (bv x))) bc 101 (nI (L.length + 1)) (bc + 1)).2.2.2.2.2.1 i = _
      rw [e3r]
      show upd (ori W1 (bc + 1)) L.length (bv x) i = _
      rw [List.length_append] at hi
      have hi2 : i < L.length + 1 := hi
      rw [hup]
      by_cases ei : i = L.length
      · rw [if_pos ei, ei, List.getD_eq_getElem?_getD, List.getElem?_append_right (Nat.le_refl _), Nat.sub_self]
        rfl
      · rw [if_neg ei, List.getD_eq_getElem?_getD, List.getElem?_append_left (by omega), ← List.getD_eq_getElem?_getD]
        exact hB1.2.2.2.2.2.2.2.2.2.2 i (by omega)
  refine r_aload_n F dX0_put_0 rfl ?_
  refine r_getiS (ci := 1) (k := 1) (id := 101) (C := RX0) (T := TX0) (N := 2) F G rfl (by decide) (by decide) rfl (zinL inG1) (zin kf_X0_13) (fun _ h9 => h9) dX0_put_1 A0 E0 ?_
  refine r_aload_n F dX0_put_4 rfl ?_
  refine r_getS (ci := 1) (k := 0) (id := 100) (C := RX0) (T := TX0) (N := 2) F G rfl (by decide) (by decide) rfl (zinL inG1) (zin kf_X0_7) (fun _ h9 => h9) dX0_put_5 A0 Q0 ?_
  refine v_alen (n := 0) (j := 0) F G hH b0 rfl k2 rfl rfl dX0_put_8 ?_
  rw [hkn]
  refine r_icmp_ne (tgt := 29) F dX0_put_9 (by decide) (fun c9 => ?_) (fun c9 => ?_)
  · have hLk : ¬ L.length = k := fun h9 => c9 (by rw [h9])
    have hpk : pk k L.length = k := if_neg hLk
    exact tail _ _ _ _ ⟨ad, W, hH, fun _ _ => rfl, fun _ _ _ => rfl, by rw [hpk]; exact hB, by rw [hpk]; omega, Nat.zero_le _, Nat.zero_le _, rfl⟩
  · have hLk : L.length = k := by have h9 := c9; rw [nI_eq (by omega) (by omega)] at h9; exact h9
    have hpk : pk k L.length = 2 * k := if_pos hLk
    have hk32 : k ≤ 32768 := by
      obtain ⟨e0, he0, ek0⟩ := hB.2.2.2.2.2.2.2.2.1
      rcases Nat.lt_or_ge e0 9 with h9 | h9
      · have := Nat.pow_le_pow_right (show 0 < 2 by decide) (show e0 ≤ 8 by omega)
        omega
      · have := Nat.pow_le_pow_right (show 0 < 2 by decide) h9
        omega
    refine r_aload_n F dX0_put_12 rfl ?_
    refine r_aload_n F dX0_put_13 rfl ?_
    refine r_getS (ci := 1) (k := 0) (id := 100) (C := RX0) (T := TX0) (N := 2) F G rfl (by decide) (by decide) rfl (zinL inG1) (zin kf_X0_7) (fun _ h9 => h9) dX0_put_14 A0 Q0 ?_
    refine r_iconst (v := 2) F dX0_put_17 (by decide) ?_
    refine r_aload_n F dX0_put_18 rfl ?_
    refine r_getiS (ci := 1) (k := 1) (id := 101) (C := RX0) (T := TX0) (N := 2) F G rfl (by decide) (by decide) rfl (zinL inG1) (zin kf_X0_13) (fun _ h9 => h9) dX0_put_19 A0 E0 ?_
    refine r_imul F dX0_put_22 ?_
    rw [show (2 : Int32) * nI L.length = nI (2 * L.length) from nI_mul 2 _]
    refine c_Sq F G (k_copyOfB (q := ad (bc + 1)) (k := k) (n := 2 * L.length) (hH.al b0 rfl k2) ((hH.n b0 rfl (by rw [k2]; decide)).trans hkn) (by omega) (by omega) (fun i hi => by rw [hH.ri b0 rfl (by rw [k2]; decide), hB.2.2.2.2.2.2.2.2.2.2 i (by omega)]; obtain ⟨y, ey⟩ := hB.2.2.2.2.2.2.2.2.2.1.hb i (by omega); rw [ey]; exact fits_bv y)) (va_cwS 2 F.2.2.2.2 (zgS km_X0_17 ks_J7_copyOf_9075b kn_J7 ko_J7_copyOf_9075b) rfl rfl rfl hd_yJ7_copyOf_9075b ⟨Nat.le_of_ble_eq_true rfl, Nat.le_of_ble_eq_true rfl⟩) rfl rfl (Nat.le_of_ble_eq_true rfl) dX0_put_23 ⟨show 0 + 1 ≤ pk k L.length - k by rw [hpk]; omega, show 0 + 2 * L.length ≤ 2 * (pk k L.length - k) by rw [hpk]; omega⟩ (fun r23 S23 h23 => ?_)
    obtain ⟨q1, hq1, rfl, rfl⟩ := h23
    have ap : zA (zRi (zNa S q1 13 (2 * L.length)) q1 (fun i => if i < k then zri S (ad (bc + 1)) i else 0)) (ad bc) 1 := zA.na (S := S) (n := 2 * L.length) A0 hq1
    refine r_putq (v := some q1) (ci := 1) (k := 0) (id := 100) (C := RX0) (T := TX0) (N := 2) (ty := (.array .byte)) (ty0 := tyX0) F G rfl (by decide) (by decide) rfl (zinL inG1) (zin kf_X0_7) (fun _ h9 => h9) tyX0_ok nmX0 rfl pd1_0 rfl rfl dX0_put_26 ap ?_
    have hg := hH.grow hB (q := q1) (n := 2 * L.length) hq1 (fun i => if i < k then zri S (ad (bc + 1)) i else 0)
    have e3c : (va_up (va_up W bc (W bc)) (bc + 1) (True, fun _ => 0, fun _ => none, fun _ => 0, 2 * L.length, fun i => if i < k then zri S (ad (bc + 1)) i else 0, fun _ => 0, fun _ => none)) bc = W bc := (va_up_ne _ _ (by omega)).trans (va_up_self _ _ _)
    have e3r : (va_up (va_up W bc (W bc)) (bc + 1) (True, fun _ => 0, fun _ => none, fun _ => 0, 2 * L.length, fun i => if i < k then zri S (ad (bc + 1)) i else 0, fun _ => 0, fun _ => none)) (bc + 1) = (True, fun _ => 0, fun _ => none, fun _ => 0, 2 * L.length, fun i => if i < k then zri S (ad (bc + 1)) i else 0, fun _ => 0, fun _ => none) := va_up_self _ _ _
    obtain ⟨e0, he0, ek0⟩ := hB.2.2.2.2.2.2.2.2.1
    refine tail _ _ _ _ ⟨_, (va_up (va_up W bc (W bc)) (bc + 1) (True, fun _ => 0, fun _ => none, fun _ => 0, 2 * L.length, fun i => if i < k then zri S (ad (bc + 1)) i else 0, fun _ => 0, fun _ => none)), hg, fun d hd => va_up_ne _ _ hd, fun d h1 h2 => (va_up_ne _ _ h2).trans (va_up_ne _ _ h1), ⟨hB.1, ?_, ?_, fun j hj => ?_, ?_, ?_, ?_, ?_, ⟨e0 + 1, ?_, ?_⟩, hB.2.2.2.2.2.2.2.2.2.1, fun i hi => ?_⟩, by rw [hpk]; omega, by rw [hpk]; omega, by rw [hpk]; omega, rfl⟩
    · show ((va_up (va_up W bc (W bc)) (bc + 1) (True, fun _ => 0, fun _ => none, fun _ => 0, 2 * L.length, fun i => if i < k then zri S (ad (bc + 1)) i else 0, fun _ => 0, fun _ => none)) bc).1
      rw [e3c]; exact hB.2.1
    · show ((va_up (va_up W bc (W bc)) (bc + 1) (True, fun _ => 0, fun _ => none, fun _ => 0, 2 * L.length, fun i => if i < k then zri S (ad (bc + 1)) i else 0, fun _ => 0, fun _ => none)) bc).2.2.1 100 = _
      rw [e3c]; exact hB.2.2.1
    · show ((va_up (va_up W bc (W bc)) (bc + 1) (True, fun _ => 0, fun _ => none, fun _ => 0, 2 * L.length, fun i => if i < k then zri S (ad (bc + 1)) i else 0, fun _ => 0, fun _ => none)) bc).2.2.1 j = _
      rw [e3c]; exact hB.2.2.2.1 j hj
    · show ((va_up (va_up W bc (W bc)) (bc + 1) (True, fun _ => 0, fun _ => none, fun _ => 0, 2 * L.length, fun i => if i < k then zri S (ad (bc + 1)) i else 0, fun _ => 0, fun _ => none)) (bc + 1)).1
      rw [e3r]; exact trivial
    · show ((va_up (va_up W bc (W bc)) (bc + 1) (True, fun _ => 0, fun _ => none, fun _ => 0, 2 * L.length, fun i => if i < k then zri S (ad (bc + 1)) i else 0, fun _ => 0, fun _ => none)) bc).2.1 101 = _
      rw [e3c]; exact hB.2.2.2.2.2.1
    · show ((va_up (va_up W bc (W bc)) (bc + 1) (True, fun _ => 0, fun _ => none, fun _ => 0, 2 * L.length, fun i => if i < k then zri S (ad (bc + 1)) i else 0, fun _ => 0, fun _ => none)) (bc + 1)).2.2.2.2.1 = _
      rw [e3r, hpk, hLk]
    · rw [hpk]; omega
    · rcases Nat.lt_or_ge e0 9 with h9 | h9
      · omega
      · have := Nat.pow_le_pow_right (show 0 < 2 by decide) h9
        omega
    · rw [hpk, Nat.pow_succ]; omega
    · show ((va_up (va_up W bc (W bc)) (bc + 1) (True, fun _ => 0, fun _ => none, fun _ => 0, 2 * L.length, fun i => if i < k then zri S (ad (bc + 1)) i else 0, fun _ => 0, fun _ => none)) (bc + 1)).2.2.2.2.2.1 i = _
      rw [e3r]
      show (if i < k then zri S (ad (bc + 1)) i else 0) = _
      rw [if_pos (by omega), hH.ri b0 rfl (by rw [k2]; decide)]
      exact hB.2.2.2.2.2.2.2.2.2.2 i hi
