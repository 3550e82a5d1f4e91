theorem zwr_iae {o : Nat} {S S1 : zS} {k : Int32} (h : zwr o (fun r S1 => ∃ v : Int32, r = v.toInt64 ∧ False) (fun E S' => E = zIAE ∧ S' = S) k S1) : k = 1 ∧ S = S1 := by
  rcases h with ⟨_, r, S2, ⟨v, _, hf⟩, _⟩ | ⟨e, h⟩ | ⟨_, h⟩
  · exact hf.elim
  · exact ⟨e, h.2.symm⟩
  · exact absurd h.1 (by decide)
theorem zwr_two {o : Nat} {S S1 : zS} {k : Int32} {P : Prop} [Decidable P] (h : zwr o (fun r S1 => ∃ v : Int32, r = v.toInt64 ∧ False) (fun E S' => E = (if P then zISE else zIAE) ∧ S' = S) k S1) : k = (if P then 2 else 1) ∧ S = S1 := by
  rcases h with ⟨_, r, S2, ⟨v, _, hf⟩, _⟩ | ⟨e, h⟩ | ⟨e, h⟩
  · exact hf.elim
  · by_cases hp : P
    · rw [if_pos hp] at h
      exact absurd h.1 (by decide)
    · rw [if_neg hp]
      exact ⟨e, h.2.symm⟩
  · by_cases hp : P
    · rw [if_pos hp]
      exact ⟨e, h.2.symm⟩
    · rw [if_neg hp] at h
      exact absurd h.1 (by decide)
theorem zwr_two' {o : Nat} {S S1 : zS} {k : Int32} {P : Prop} [Decidable P] (h : zwr o (fun r S1 => ∃ v : Int32, r = v.toInt64 ∧ False) (fun E S' => E = (if P then zIAE else zISE) ∧ S' = S) k S1) : k = (if P then 1 else 2) ∧ S = S1 := by
  rcases h with ⟨_, r, S2, ⟨v, _, hf⟩, _⟩ | ⟨e, h⟩ | ⟨e, h⟩
  · exact hf.elim
  · by_cases hp : P
    · rw [if_pos hp]
      exact ⟨e, h.2.symm⟩
    · rw [if_neg hp] at h
      exact absurd h.1 (by decide)
  · by_cases hp : P
    · rw [if_pos hp] at h
      exact absurd h.1 (by decide)
    · rw [if_neg hp]
      exact ⟨e, h.2.symm⟩
theorem z_out {o : Int32} : o < 0 ∨ (0 : Int32) ≤ o := by
  rcases Decidable.em (o < 0) with h | h
  · exact Or.inl h
  · exact Or.inr (Int32.not_lt.mp h)
theorem zA.ne {S : zS} {a b j k : Nat} (ha : zA S a j) (hb : zA S b k) (h : j ≠ k) : a ≠ b := fun e => h (by rw [← ha.2, ← hb.2, e])
/-- a fresh linker, a fresh reference and the row for the answer -/
def z1F (t0 : Nat) (S : zS) (x g o : Nat) : Prop := zA S x 11 ∧ zA S g 12 ∧ (zA S o 15 ∧ zn S o = 1) ∧ zfresh t0 S x ∧ (zi S 1201 g = 0 ∧ zi S 1219 g = 0 ∧ zi S 1220 g = -1) ∧ (zl S 1229 g = 0 ∧ zi S 1230 g = 0 ∧ zi S 1231 g = 0) ∧ ∃ q, zq S 1228 g = some q ∧ zA S q 13 ∧ zn S q = 1024 ∧ zri S q = fun _ => 0
section ZP1
variable {p : Program} {l : Launch} {e : Env} {R : Room} {s : State} {m : MethodId} {args : Array Value} {below : List Frame} {meth : Method} {c : Code} {Q : State → Prop} {N0 t0 : Nat} {D : va_G} {cy : Nat → ClassId} {cells slots : Nat} {z : Cond} {S : zS}
set_option maxRecDepth 100000 in
set_option maxHeartbeats 4000000 in
theorem p1_function (F : CallFix p m c cL_law 8 s args (z :: lw_good) RL) (G : zG N0 t0 D cy s s.heap) (hl : l.stackTraces = false) {b L : Nat} {xs : Nat → Int32} (hX : va_X b L xs s s.heap) (hbl : b < s.heap.size) (hbN : b < N0) (hi : 0 + 8 ≤ L) (hL : L < 2 ^ 31) {x g o : Nat} (hF : z1F t0 S x g o) (hR : 14 ≤ R.frames ∧ 500 ≤ R.locals ∧ cells + 1000 ≤ R.cells ∧ slots + 1000 ≤ R.slots) (K : ∀ (S2 : zS) (c2 s2 : Nat), c2 ≤ cells + 1000 → s2 ≤ slots + 1000 → zW p l e R s m args below meth c Q N0 D cy 8 c2 s2 S2 [(4, .int (nI 0)), (3, .ref o), (2, .ref g), (1, .ref x), (0, .ref b)] 1174 []) : zW p l e R s m args below meth c Q N0 D cy 8 cells slots S [(4, .int (nI 0)), (3, .ref o), (2, .ref g), (1, .ref x), (0, .ref b)] 156 [] := by
  obtain ⟨hx, hg, ⟨ho, hon⟩, ⟨⟨u, hu, hua, hun, hue⟩, hlk, hfp, mm, hmq, hmm, hv0, hv1, hv2, q, hq, hqa, hqn, hqz⟩, ⟨h0, hnl, hpl⟩, ⟨hr0, hr1, hr2⟩, qr, hqr, hqra, hqrn, hqrz⟩ := hF
  obtain ⟨hR1, hR2, hR3, hR4⟩ := hR
  have ho2 : xs (0 + 1) < 0 ∨ zi S 2 u ≤ xs (0 + 1) := by rw [hun]; exact z_out
  refine lc_function (f2 := 3) (lo2 := 80) (mc2 := 0) (ms2 := 0) (J := fun _ => True) (post2 := fun _ S1 r S2 => r = 0 ∧ S2 = zPi S1 1200 g 1) F G hX hbl hbN hi hL hx (k_function_out hl hx hu hua ho2) (fun E S' h => Or.inl h.1) (fun r S' h => h.elim) (fun k S1 h => ?_) (fun k S1 r S2 h h2 => ?_) ⟨by omega, by omega, by omega, by omega, by omega, by omega⟩ (by omega) (by omega) (fun S2 _ => K S2 _ _ (by omega) (by omega))
  · obtain ⟨e1, e2⟩ := zwr_iae h
    subst e2
    exact ⟨hg, m_function_none hg h0⟩
  · obtain ⟨e1, e2⟩ := zwr_iae h
    subst e2
    obtain ⟨e3, e4⟩ := h2
    subst e4
    exact ⟨hg, zi_s.trans e1.symm, fun hk => absurd (e1.symm.trans hk) (by decide), trivial⟩
set_option maxRecDepth 100000 in
set_option maxHeartbeats 4000000 in
theorem p1_code (F : CallFix p m c cL_law 8 s args (z :: lw_good) RL) (G : zG N0 t0 D cy s s.heap) (hl : l.stackTraces = false) {b L : Nat} {xs : Nat → Int32} (hX : va_X b L xs s s.heap) (hbl : b < s.heap.size) (hbN : b < N0) (hi : 0 + 8 ≤ L) (hL : L < 2 ^ 31) {x g o : Nat} (hF : z1F t0 S x g o) (hR : 14 ≤ R.frames ∧ 500 ≤ R.locals ∧ cells + 1000 ≤ R.cells ∧ slots + 1000 ≤ R.slots) (K : ∀ (S2 : zS) (c2 s2 : Nat), c2 ≤ cells + 1000 → s2 ≤ slots + 1000 → zW p l e R s m args below meth c Q N0 D cy 8 c2 s2 S2 [(4, .int (nI 0)), (3, .ref o), (2, .ref g), (1, .ref x), (0, .ref b)] 1174 []) : zW p l e R s m args below meth c Q N0 D cy 8 cells slots S [(4, .int (nI 0)), (3, .ref o), (2, .ref g), (1, .ref x), (0, .ref b)] 248 [] := by
  obtain ⟨hx, hg, ⟨ho, hon⟩, ⟨⟨u, hu, hua, hun, hue⟩, hlk, hfp, mm, hmq, hmm, hv0, hv1, hv2, q, hq, hqa, hqn, hqz⟩, ⟨h0, hnl, hpl⟩, ⟨hr0, hr1, hr2⟩, qr, hqr, hqra, hqrn, hqrz⟩ := hF
  obtain ⟨hR1, hR2, hR3, hR4⟩ := hR
  have ho2 : xs (0 + 1) < 0 ∨ zi S 2 u ≤ xs (0 + 1) := by rw [hun]; exact z_out
  refine lc_code (f2 := 3) (lo2 := 80) (mc2 := 0) (ms2 := 0) (J := fun _ => True) (post2 := fun _ S1 r S2 => r = 0 ∧ S2 = zPi S1 1200 g 1) F G hX hbl hbN hi hL hx (k_code_out hl hx hu hua ho2) (fun E S' h => Or.inl h.1) (fun r S' h => h.elim) (fun k S1 h => ?_) (fun k S1 r S2 h h2 => ?_) ⟨by omega, by omega, by omega, by omega, by omega, by omega⟩ (by omega) (by omega) (fun S2 _ => K S2 _ _ (by omega) (by omega))
  · obtain ⟨e1, e2⟩ := zwr_iae h
    subst e2
    exact ⟨hg, m_code_none hg h0⟩
  · obtain ⟨e1, e2⟩ := zwr_iae h
    subst e2
    obtain ⟨e3, e4⟩ := h2
    subst e4
    exact ⟨hg, zi_s.trans e1.symm, fun hk => absurd (e1.symm.trans hk) (by decide), trivial⟩
set_option maxRecDepth 100000 in
set_option maxHeartbeats 4000000 in
theorem p1_segment (F : CallFix p m c cL_law 8 s args (z :: lw_good) RL) (G : zG N0 t0 D cy s s.heap) (hl : l.stackTraces = false) {b L : Nat} {xs : Nat → Int32} (hX : va_X b L xs s s.heap) (hbl : b < s.heap.size) (hbN : b < N0) (hi : 0 + 8 ≤ L) (hL : L < 2 ^ 31) {x g o : Nat} (hF : z1F t0 S x g o) (hR : 14 ≤ R.frames ∧ 500 ≤ R.locals ∧ cells + 1000 ≤ R.cells ∧ slots + 1000 ≤ R.slots) (K : ∀ (S2 : zS) (c2 s2 : Nat), c2 ≤ cells + 1000 → s2 ≤ slots + 1000 → zW p l e R s m args below meth c Q N0 D cy 8 c2 s2 S2 [(4, .int (nI 0)), (3, .ref o), (2, .ref g), (1, .ref x), (0, .ref b)] 1174 []) : zW p l e R s m args below meth c Q N0 D cy 8 cells slots S [(4, .int (nI 0)), (3, .ref o), (2, .ref g), (1, .ref x), (0, .ref b)] 340 [] := by
  obtain ⟨hx, hg, ⟨ho, hon⟩, ⟨⟨u, hu, hua, hun, hue⟩, hlk, hfp, mm, hmq, hmm, hv0, hv1, hv2, q, hq, hqa, hqn, hqz⟩, ⟨h0, hnl, hpl⟩, ⟨hr0, hr1, hr2⟩, qr, hqr, hqra, hqrn, hqrz⟩ := hF
  obtain ⟨hR1, hR2, hR3, hR4⟩ := hR
  have ho2 : xs (0 + 1) < 0 ∨ zi S 2 u ≤ xs (0 + 1) := by rw [hun]; exact z_out
  refine lc_segment (f2 := 3) (lo2 := 80) (mc2 := 0) (ms2 := 0) (J := fun _ => True) (post2 := fun _ S1 r S2 => r = 0 ∧ S2 = zPi S1 1200 g 1) F G hX hbl hbN hi hL hx (k_segment_out hl hx hu hua ho2) (fun E S' h => Or.inl h.1) (fun r S' h => h.elim) (fun k S1 h => ?_) (fun k S1 r S2 h h2 => ?_) ⟨by omega, by omega, by omega, by omega, by omega, by omega⟩ (by omega) (by omega) (fun S2 _ => K S2 _ _ (by omega) (by omega))
  · obtain ⟨e1, e2⟩ := zwr_iae h
    subst e2
    exact ⟨hg, m_segment_none hg h0⟩
  · obtain ⟨e1, e2⟩ := zwr_iae h
    subst e2
    obtain ⟨e3, e4⟩ := h2
    subst e4
    exact ⟨hg, zi_s.trans e1.symm, fun hk => absurd (e1.symm.trans hk) (by decide), trivial⟩
set_option maxRecDepth 100000 in
set_option maxHeartbeats 4000000 in
theorem p1_symbol (F : CallFix p m c cL_law 8 s args (z :: lw_good) RL) (G : zG N0 t0 D cy s s.heap) (hl : l.stackTraces = false) {b L : Nat} {xs : Nat → Int32} (hX : va_X b L xs s s.heap) (hbl : b < s.heap.size) (hbN : b < N0) (hi : 0 + 8 ≤ L) (hL : L < 2 ^ 31) {x g o : Nat} (hF : z1F t0 S x g o) (hR : 14 ≤ R.frames ∧ 500 ≤ R.locals ∧ cells + 1000 ≤ R.cells ∧ slots + 1000 ≤ R.slots) (K : ∀ (S2 : zS) (c2 s2 : Nat), c2 ≤ cells + 1000 → s2 ≤ slots + 1000 → zW p l e R s m args below meth c Q N0 D cy 8 c2 s2 S2 [(4, .int (nI 0)), (3, .ref o), (2, .ref g), (1, .ref x), (0, .ref b)] 1174 []) : zW p l e R s m args below meth c Q N0 D cy 8 cells slots S [(4, .int (nI 0)), (3, .ref o), (2, .ref g), (1, .ref x), (0, .ref b)] 524 [] := by
  obtain ⟨hx, hg, ⟨ho, hon⟩, ⟨⟨u, hu, hua, hun, hue⟩, hlk, hfp, mm, hmq, hmm, hv0, hv1, hv2, q, hq, hqa, hqn, hqz⟩, ⟨h0, hnl, hpl⟩, ⟨hr0, hr1, hr2⟩, qr, hqr, hqra, hqrn, hqrz⟩ := hF
  obtain ⟨hR1, hR2, hR3, hR4⟩ := hR
  have ho2 : xs (0 + 1) < 0 ∨ zi S 2 u ≤ xs (0 + 1) := by rw [hun]; exact z_out
  refine lc_symbol (f2 := 3) (lo2 := 80) (mc2 := 0) (ms2 := 0) (J := fun _ => True) (post2 := fun _ S1 r S2 => r = 0 ∧ S2 = zPi S1 1200 g 1) F G hX hbl hbN hi hL hx (k_symbol_out hl hx hu hua ho2) (fun E S' h => Or.inl h.1) (fun r S' h => h.elim) (fun k S1 h => ?_) (fun k S1 r S2 h h2 => ?_) ⟨by omega, by omega, by omega, by omega, by omega, by omega⟩ (by omega) (by omega) (fun S2 _ => K S2 _ _ (by omega) (by omega))
  · obtain ⟨e1, e2⟩ := zwr_iae h
    subst e2
    exact ⟨hg, m_symbol_none hg h0⟩
  · obtain ⟨e1, e2⟩ := zwr_iae h
    subst e2
    obtain ⟨e3, e4⟩ := h2
    subst e4
    exact ⟨hg, zi_s.trans e1.symm, fun hk => absurd (e1.symm.trans hk) (by decide), trivial⟩
set_option maxRecDepth 100000 in
set_option maxHeartbeats 4000000 in
theorem p1_meant (F : CallFix p m c cL_law 8 s args (z :: lw_good) RL) (G : zG N0 t0 D cy s s.heap) (hl : l.stackTraces = false) {b L : Nat} {xs : Nat → Int32} (hX : va_X b L xs s s.heap) (hbl : b < s.heap.size) (hbN : b < N0) (hi : 0 + 8 ≤ L) (hL : L < 2 ^ 31) {x g o : Nat} (hF : z1F t0 S x g o) (hR : 14 ≤ R.frames ∧ 500 ≤ R.locals ∧ cells + 1000 ≤ R.cells ∧ slots + 1000 ≤ R.slots) (K : ∀ (S2 : zS) (c2 s2 : Nat), c2 ≤ cells + 1000 → s2 ≤ slots + 1000 → zW p l e R s m args below meth c Q N0 D cy 8 c2 s2 S2 [(4, .int (nI 0)), (3, .ref o), (2, .ref g), (1, .ref x), (0, .ref b)] 1174 []) : zW p l e R s m args below meth c Q N0 D cy 8 cells slots S [(4, .int (nI 0)), (3, .ref o), (2, .ref g), (1, .ref x), (0, .ref b)] 811 [] := by
  obtain ⟨hx, hg, ⟨ho, hon⟩, ⟨⟨u, hu, hua, hun, hue⟩, hlk, hfp, mm, hmq, hmm, hv0, hv1, hv2, q, hq, hqa, hqn, hqz⟩, ⟨h0, hnl, hpl⟩, ⟨hr0, hr1, hr2⟩, qr, hqr, hqra, hqrn, hqrz⟩ := hF
  obtain ⟨hR1, hR2, hR3, hR4⟩ := hR
  have ho2 : xs (0 + 1) < 0 ∨ zi S 2 u ≤ xs (0 + 1) := by rw [hun]; exact z_out
  refine lc_meant (f2 := 3) (lo2 := 80) (mc2 := 0) (ms2 := 0) (J := fun _ => True) (post2 := fun _ S1 r S2 => r = 0 ∧ S2 = zPi S1 1200 g 1) F G hX hbl hbN hi hL hx (k_meant_out hl hx hu hua ho2) (fun E S' h => Or.inl h.1) (fun r S' h => h.elim) (fun k S1 h => ?_) (fun k S1 r S2 h h2 => ?_) ⟨by omega, by omega, by omega, by omega, by omega, by omega⟩ (by omega) (by omega) (fun S2 _ => K S2 _ _ (by omega) (by omega))
  · obtain ⟨e1, e2⟩ := zwr_iae h
    subst e2
    exact ⟨hg, m_meant_none hg h0⟩
  · obtain ⟨e1, e2⟩ := zwr_iae h
    subst e2
    obtain ⟨e3, e4⟩ := h2
    subst e4
    exact ⟨hg, zi_s.trans e1.symm, fun hk => absurd (e1.symm.trans hk) (by decide), trivial⟩
set_option maxRecDepth 100000 in
set_option maxHeartbeats 4000000 in
theorem p1_run (F : CallFix p m c cL_law 8 s args (z :: lw_good) RL) (G : zG N0 t0 D cy s s.heap) (hl : l.stackTraces = false) {b L : Nat} {xs : Nat → Int32} (hX : va_X b L xs s s.heap) (hbl : b < s.heap.size) (hbN : b < N0) (hi : 0 + 8 ≤ L) (hL : L < 2 ^ 31) {x g o : Nat} (hF : z1F t0 S x g o) (hR : 14 ≤ R.frames ∧ 500 ≤ R.locals ∧ cells + 1000 ≤ R.cells ∧ slots + 1000 ≤ R.slots) (K : ∀ (S2 : zS) (c2 s2 : Nat), c2 ≤ cells + 1000 → s2 ≤ slots + 1000 → zW p l e R s m args below meth c Q N0 D cy 8 c2 s2 S2 [(4, .int (nI 0)), (3, .ref o), (2, .ref g), (1, .ref x), (0, .ref b)] 1174 []) : zW p l e R s m args below meth c Q N0 D cy 8 cells slots S [(4, .int (nI 0)), (3, .ref o), (2, .ref g), (1, .ref x), (0, .ref b)] 891 [] := by
  obtain ⟨hx, hg, ⟨ho, hon⟩, ⟨⟨u, hu, hua, hun, hue⟩, hlk, hfp, mm, hmq, hmm, hv0, hv1, hv2, q, hq, hqa, hqn, hqz⟩, ⟨h0, hnl, hpl⟩, ⟨hr0, hr1, hr2⟩, qr, hqr, hqra, hqrn, hqrz⟩ := hF
  obtain ⟨hR1, hR2, hR3, hR4⟩ := hR
  have ho2 : xs (0 + 1) < 0 ∨ zi S 2 u ≤ xs (0 + 1) := by rw [hun]; exact z_out
  refine lc_run (f2 := 3) (lo2 := 80) (mc2 := 0) (ms2 := 0) (J := fun _ => True) (post2 := fun _ S1 r S2 => r = 0 ∧ S2 = zPi S1 1200 g 1) F G hX hbl hbN hi hL hx (k_run_out hl hx hu hua ho2) (fun E S' h => Or.inl h.1) (fun r S' h => h.elim) (fun k S1 h => ?_) (fun k S1 r S2 h h2 => ?_) ⟨by omega, by omega, by omega, by omega, by omega, by omega⟩ (by omega) (by omega) (fun S2 _ => K S2 _ _ (by omega) (by omega))
  · obtain ⟨e1, e2⟩ := zwr_iae h
    subst e2
    exact ⟨hg, m_run_none hg h0⟩
  · obtain ⟨e1, e2⟩ := zwr_iae h
    subst e2
    obtain ⟨e3, e4⟩ := h2
    subst e4
    exact ⟨hg, zi_s.trans e1.symm, fun hk => absurd (e1.symm.trans hk) (by decide), trivial⟩
set_option maxRecDepth 100000 in
set_option maxHeartbeats 4000000 in
theorem p1_fill (F : CallFix p m c cL_law 8 s args (z :: lw_good) RL) (G : zG N0 t0 D cy s s.heap) (hl : l.stackTraces = false) {b L : Nat} {xs : Nat → Int32} (hX : va_X b L xs s s.heap) (hbl : b < s.heap.size) (hbN : b < N0) (hi : 0 + 8 ≤ L) (hL : L < 2 ^ 31) {x g o : Nat} (hF : z1F t0 S x g o) (hR : 14 ≤ R.frames ∧ 500 ≤ R.locals ∧ cells + 1000 ≤ R.cells ∧ slots + 1000 ≤ R.slots) (K : ∀ (S2 : zS) (c2 s2 : Nat), c2 ≤ cells + 1000 → s2 ≤ slots + 1000 → zW p l e R s m args below meth c Q N0 D cy 8 c2 s2 S2 [(4, .int (nI 0)), (3, .ref o), (2, .ref g), (1, .ref x), (0, .ref b)] 1174 []) : zW p l e R s m args below meth c Q N0 D cy 8 cells slots S [(4, .int (nI 0)), (3, .ref o), (2, .ref g), (1, .ref x), (0, .ref b)] 420 [] := by
  obtain ⟨hx, hg, ⟨ho, hon⟩, ⟨⟨u, hu, hua, hun, hue⟩, hlk, hfp, mm, hmq, hmm, hv0, hv1, hv2, q, hq, hqa, hqn, hqz⟩, ⟨h0, hnl, hpl⟩, ⟨hr0, hr1, hr2⟩, qr, hqr, hqra, hqrn, hqrz⟩ := hF
  obtain ⟨hR1, hR2, hR3, hR4⟩ := hR
  have ho2 : xs (0 + 1) < 0 ∨ zi S 2 u ≤ xs (0 + 1) := by rw [hun]; exact z_out
  refine lc_fill (f2 := 3) (lo2 := 80) (mc2 := 0) (ms2 := 0) (J := fun _ => True) (post2 := fun _ S1 S2 => S2 = zPi S1 1200 g 1) F G hX hbl hbN hi hL hx (k_fill_out hl hx hu hua ho2) (fun E S' h => h.1) (fun k S1 h => ?_) (fun k S1 S2 h h2 => ?_) ⟨by omega, by omega, by omega, by omega, by omega, by omega⟩ (by omega) (by omega) (fun S2 _ => K S2 _ _ (by omega) (by omega))
  · rcases h with ⟨_, h⟩ | ⟨e1, _, e2⟩
    · exact h.elim
    · subst e2
      exact ⟨hg, m_fill_none hg h0⟩
  · rcases h with ⟨_, h⟩ | ⟨e1, _, e2⟩
    · exact h.elim
    · subst e2
      subst h2
      exact ⟨hg, zi_s.trans e1.symm, trivial⟩
set_option maxRecDepth 100000 in
set_option maxHeartbeats 4000000 in
theorem p1_link (F : CallFix p m c cL_law 8 s args (z :: lw_good) RL) (G : zG N0 t0 D cy s s.heap) (hl : l.stackTraces = false) {b L : Nat} {xs : Nat → Int32} (hX : va_X b L xs s s.heap) (hbl : b < s.heap.size) (hbN : b < N0) (hi : 0 + 8 ≤ L) (hL : L < 2 ^ 31) {x g o : Nat} (hF : z1F t0 S x g o) (hR : 14 ≤ R.frames ∧ 500 ≤ R.locals ∧ cells + 1000 ≤ R.cells ∧ slots + 1000 ≤ R.slots) (K : ∀ (S2 : zS) (c2 s2 : Nat), c2 ≤ cells + 1000 → s2 ≤ slots + 1000 → zW p l e R s m args below meth c Q N0 D cy 8 c2 s2 S2 [(4, .int (nI 0)), (3, .ref o), (2, .ref g), (1, .ref x), (0, .ref b)] 1174 []) : zW p l e R s m args below meth c Q N0 D cy 8 cells slots S [(4, .int (nI 0)), (3, .ref o), (2, .ref g), (1, .ref x), (0, .ref b)] 642 [] := by
  obtain ⟨hx, hg, ⟨ho, hon⟩, ⟨⟨u, hu, hua, hun, hue⟩, hlk, hfp, mm, hmq, hmm, hv0, hv1, hv2, q, hq, hqa, hqn, hqz⟩, ⟨h0, hnl, hpl⟩, ⟨hr0, hr1, hr2⟩, qr, hqr, hqra, hqrn, hqrz⟩ := hF
  obtain ⟨hR1, hR2, hR3, hR4⟩ := hR
  refine lc_link (f2 := 0) (lo2 := 0) (mc2 := 0) (ms2 := 0) (J := fun _ => True) (post2 := fun _ S1 r S2 => r = 0 ∧ S2 = zPi S1 1200 g 1) F G hX hbl hbN hi hL hx (k_link_none hl hx hu hua hun) (fun E S' h => h.1) (fun r S' h => h.elim) (fun k S1 h => ?_) (fun k S1 r S2 h h2 => ?_) ⟨by omega, by omega, by omega, by omega, by omega, by omega⟩ (by omega) (by omega) (fun S2 _ => K S2 _ _ (by omega) (by omega))
  · rcases h with ⟨_, r, S2, ⟨v, _, hf⟩, _⟩ | ⟨e1, _, e2⟩
    · exact hf.elim
    · subst e2
      exact ⟨hg, m_link_none hg h0⟩
  · rcases h with ⟨_, r, S2, ⟨v, _, hf⟩, _⟩ | ⟨e1, _, e2⟩
    · exact hf.elim
    · subst e2
      obtain ⟨e3, e4⟩ := h2
      subst e4
      exact ⟨hg, zi_s.trans e1.symm, fun hk => absurd (e1.symm.trans hk) (by decide), trivial⟩
set_option maxRecDepth 100000 in
set_option maxHeartbeats 4000000 in
theorem p1_count (F : CallFix p m c cL_law 8 s args (z :: lw_good) RL) (G : zG N0 t0 D cy s s.heap) (hl : l.stackTraces = false) {b L : Nat} {xs : Nat → Int32} (hX : va_X b L xs s s.heap) (hbl : b < s.heap.size) (hbN : b < N0) (hi : 0 + 8 ≤ L) (hL : L < 2 ^ 31) {x g o : Nat} (hF : z1F t0 S x g o) (hR : 14 ≤ R.frames ∧ 500 ≤ R.locals ∧ cells + 1000 ≤ R.cells ∧ slots + 1000 ≤ R.slots) (K : ∀ (S2 : zS) (c2 s2 : Nat), c2 ≤ cells + 1000 → s2 ≤ slots + 1000 → zW p l e R s m args below meth c Q N0 D cy 8 c2 s2 S2 [(4, .int (nI 0)), (3, .ref o), (2, .ref g), (1, .ref x), (0, .ref b)] 1174 []) : zW p l e R s m args below meth c Q N0 D cy 8 cells slots S [(4, .int (nI 0)), (3, .ref o), (2, .ref g), (1, .ref x), (0, .ref b)] 699 [] := by
  obtain ⟨hx, hg, ⟨ho, hon⟩, ⟨⟨u, hu, hua, hun, hue⟩, hlk, hfp, mm, hmq, hmm, hv0, hv1, hv2, q, hq, hqa, hqn, hqz⟩, ⟨h0, hnl, hpl⟩, ⟨hr0, hr1, hr2⟩, qr, hqr, hqra, hqrn, hqrz⟩ := hF
  obtain ⟨hR1, hR2, hR3, hR4⟩ := hR
  refine lc_count (f2 := 1) (lo2 := 22) (mc2 := 0) (ms2 := 0) (J := fun _ => True) (post2 := fun _ S1 r S2 => S2 = zPi S1 1200 g (if ¬ xs (0 + 1) < 0 ∧ xs (0 + 1) ≤ 4 then 2 else 1)) F G hX hbl hbN hi hL hx (k_count_un hl hx hlk) (fun E S' h => by rw [h.1]; split; exact Or.inr rfl; exact Or.inl rfl) (fun r S' h => h.elim) (fun k S1 h => ?_) (fun k S1 r S2 h h2 => ?_) ⟨by omega, by omega, by omega, by omega, by omega, by omega⟩ (by omega) (by omega) (fun S2 _ => K S2 _ _ (by omega) (by omega))
  · obtain ⟨e1, e2⟩ := zwr_two h
    subst e2
    exact ⟨hg, m_count_un hg hnl⟩
  · obtain ⟨e1, e2⟩ := zwr_two h
    subst e2
    subst h2
    refine ⟨hg, zi_s.trans e1.symm, fun hk => absurd (e1.symm.trans hk) ?_, trivial⟩
    split <;> decide
set_option maxRecDepth 100000 in
set_option maxHeartbeats 4000000 in
theorem p1_byteAt (F : CallFix p m c cL_law 8 s args (z :: lw_good) RL) (G : zG N0 t0 D cy s s.heap) (hl : l.stackTraces = false) {b L : Nat} {xs : Nat → Int32} (hX : va_X b L xs s s.heap) (hbl : b < s.heap.size) (hbN : b < N0) (hi : 0 + 8 ≤ L) (hL : L < 2 ^ 31) {x g o : Nat} (hF : z1F t0 S x g o) (hR : 14 ≤ R.frames ∧ 500 ≤ R.locals ∧ cells + 1000 ≤ R.cells ∧ slots + 1000 ≤ R.slots) (K : ∀ (S2 : zS) (c2 s2 : Nat), c2 ≤ cells + 1000 → s2 ≤ slots + 1000 → zW p l e R s m args below meth c Q N0 D cy 8 c2 s2 S2 [(4, .int (nI 0)), (3, .ref o), (2, .ref g), (1, .ref x), (0, .ref b)] 1174 []) : zW p l e R s m args below meth c Q N0 D cy 8 cells slots S [(4, .int (nI 0)), (3, .ref o), (2, .ref g), (1, .ref x), (0, .ref b)] 755 [] := by
  obtain ⟨hx, hg, ⟨ho, hon⟩, ⟨⟨u, hu, hua, hun, hue⟩, hlk, hfp, mm, hmq, hmm, hv0, hv1, hv2, q, hq, hqa, hqn, hqz⟩, ⟨h0, hnl, hpl⟩, ⟨hr0, hr1, hr2⟩, qr, hqr, hqra, hqrn, hqrz⟩ := hF
  obtain ⟨hR1, hR2, hR3, hR4⟩ := hR
  refine lc_byteAt (f2 := 0) (lo2 := 0) (mc2 := 0) (ms2 := 0) (J := fun _ => True) (post2 := fun _ S1 r S2 => S2 = zPi S1 1200 g (if xs (0 + 1) < 0 then 1 else 2)) F G hX hbl hbN hi hL hx (k_byteAt_un hl hx hlk) (fun E S' h => by rw [h.1]; split; exact Or.inl rfl; exact Or.inr rfl) (fun r S' h => h.elim) (fun k S1 h => ?_) (fun k S1 r S2 h h2 => ?_) ⟨by omega, by omega, by omega, by omega, by omega, by omega⟩ (by omega) (by omega) (fun S2 _ => K S2 _ _ (by omega) (by omega))
  · obtain ⟨e1, e2⟩ := zwr_two' h
    subst e2
    exact ⟨hg, m_byteAt_un hg hnl⟩
  · obtain ⟨e1, e2⟩ := zwr_two' h
    subst e2
    subst h2
    refine ⟨hg, zi_s.trans e1.symm, fun hk => absurd (e1.symm.trans hk) ?_, trivial⟩
    split <;> decide
set_option maxRecDepth 100000 in
set_option maxHeartbeats 4000000 in
theorem p1_place (F : CallFix p m c cL_law 8 s args (z :: lw_good) RL) (G : zG N0 t0 D cy s s.heap) (hl : l.stackTraces = false) {b L : Nat} {xs : Nat → Int32} (hX : va_X b L xs s s.heap) (hbl : b < s.heap.size) (hbN : b < N0) (hi : 0 + 8 ≤ L) (hL : L < 2 ^ 31) {x g o : Nat} (hF : z1F t0 S x g o) (hR : 14 ≤ R.frames ∧ 500 ≤ R.locals ∧ cells + 1000 ≤ R.cells ∧ slots + 1000 ≤ R.slots) (K : ∀ (S2 : zS) (c2 s2 : Nat), c2 ≤ cells + 1000 → s2 ≤ slots + 1000 → zW p l e R s m args below meth c Q N0 D cy 8 c2 s2 S2 [(4, .int (nI 0)), (3, .ref o), (2, .ref g), (1, .ref x), (0, .ref b)] 1174 []) : zW p l e R s m args below meth c Q N0 D cy 8 cells slots S [(4, .int (nI 0)), (3, .ref o), (2, .ref g), (1, .ref x), (0, .ref b)] 686 [] := by
  obtain ⟨hx, hg, ⟨ho, hon⟩, ⟨⟨u, hu, hua, hun, hue⟩, hlk, hfp, mm, hmq, hmm, hv0, hv1, hv2, q, hq, hqa, hqn, hqz⟩, ⟨h0, hnl, hpl⟩, ⟨hr0, hr1, hr2⟩, qr, hqr, hqra, hqrn, hqrz⟩ := hF
  obtain ⟨hR1, hR2, hR3, hR4⟩ := hR
  refine lc_place (f2 := 0) (lo2 := 0) (mc2 := 0) (ms2 := 0) (J := fun _ => True) (post2 := fun _ S1 r S2 => r = zi S1 1220 g ∧ S2 = zPi S1 1200 g 0) F G hX hbl hbN hi hL hx (k_place hx) (fun k S1 h => ?_) (fun k S1 r S2 h h2 => ?_) ⟨by omega, by omega, by omega, by omega⟩ (by omega) (by omega) (fun S2 _ => K S2 _ _ (by omega) (by omega))
  · obtain ⟨e1, e2⟩ := h
    subst e2
    exact ⟨hg, m_place hg⟩
  · obtain ⟨e1, e2⟩ := h
    subst e2
    exact ⟨e1.trans (hfp.trans (hpl.symm.trans h2.1.symm)), trivial⟩
set_option maxRecDepth 100000 in
set_option maxHeartbeats 4000000 in
theorem p1_told (F : CallFix p m c cL_law 8 s args (z :: lw_good) RL) (G : zG N0 t0 D cy s s.heap) (hl : l.stackTraces = false) {b L : Nat} {xs : Nat → Int32} (hX : va_X b L xs s s.heap) (hbl : b < s.heap.size) (hbN : b < N0) (hi : 0 + 8 ≤ L) (hL : L < 2 ^ 31) {x g o : Nat} (hF : z1F t0 S x g o) (hR : 14 ≤ R.frames ∧ 500 ≤ R.locals ∧ cells + 1000 ≤ R.cells ∧ slots + 1000 ≤ R.slots) (K : ∀ (S2 : zS) (c2 s2 : Nat), c2 ≤ cells + 1000 → s2 ≤ slots + 1000 → zW p l e R s m args below meth c Q N0 D cy 8 c2 s2 S2 [(4, .int (nI 0)), (3, .ref o), (2, .ref g), (1, .ref x), (0, .ref b)] 1174 []) : zW p l e R s m args below meth c Q N0 D cy 8 cells slots S [(4, .int (nI 0)), (3, .ref o), (2, .ref g), (1, .ref x), (0, .ref b)] 1063 [] := by
  obtain ⟨hx, hg, ⟨ho, hon⟩, ⟨⟨u, hu, hua, hun, hue⟩, hlk, hfp, mm, hmq, hmm, hv0, hv1, hv2, q, hq, hqa, hqn, hqz⟩, ⟨h0, hnl, hpl⟩, ⟨hr0, hr1, hr2⟩, qr, hqr, hqra, hqrn, hqrz⟩ := hF
  obtain ⟨hR1, hR2, hR3, hR4⟩ := hR
  refine lc_told (f2 := 1) (lo2 := 22) (mc2 := 0) (ms2 := 0) (J := fun _ => True) (post2 := fun k S1 r S2 => (¬ xs (0 + 1) < 0 ∧ xs (0 + 1) ≤ 2 → S2 = zPi S1 1200 g 0 ∧ r = (if xs (0 + 1) = 0 then zl S1 1229 g else if xs (0 + 1) = 1 then (zi S1 1230 g).toInt64 else (zi S1 1231 g).toInt64)) ∧ (¬ (¬ xs (0 + 1) < 0 ∧ xs (0 + 1) ≤ 2) → S2 = zPi S1 1200 g 1)) F G hX hbl hbN hi hL hx (k_told hl hx hmq hmm) (fun E S' h => h.2.1) (fun r S' h => by rw [h.2.1]; exact ⟨ho, hon⟩) (fun k S1 h => ?_) (fun k S1 r S2 h h2 => ?_) ⟨by omega, by omega, by omega, by omega, by omega, by omega⟩ (by omega) (by omega) (fun S2 _ => K S2 _ _ (by omega) (by omega))
  · rcases h with ⟨e1, r, S2, ⟨a1, a2, a3⟩, a4⟩ | ⟨e1, a1, _, e2⟩
    · subst a4
      subst a2
      exact ⟨hg, m_told (S := zRj S2 o _) hg⟩
    · subst e2
      exact ⟨hg, m_told hg⟩
  · rcases h with ⟨e1, r, S2, ⟨a1, a2, a3⟩, a4⟩ | ⟨e1, a1, _, e2⟩
    · subst a4
      subst a2
      obtain ⟨b1, b2⟩ := h2.1 a1
      subst b1
      refine ⟨hg, zi_s.trans e1.symm, fun _ => ⟨ho, hon, ?_⟩, trivial⟩
      rw [b2]
      show va_up (zrj S2) o (vp_updL (zrj S2 o) 0 r) o 0 = (if xs (0 + 1) = 0 then zl S2 1229 g else if xs (0 + 1) = 1 then (zi S2 1230 g).toInt64 else (zi S2 1231 g).toInt64)
      rw [va_up_self, hr0, hr1, hr2]
      rw [hv0, hv1, hv2] at a3
      rw [← a3]
      simp [vp_updL]
    · subst e2
      have b1 := h2.2 a1
      subst b1
      exact ⟨hg, zi_s.trans e1.symm, fun hk => absurd (e1.symm.trans hk) (by decide), trivial⟩
set_option maxRecDepth 100000 in
set_option maxHeartbeats 4000000 in
theorem p1_memory (F : CallFix p m c cL_law 8 s args (z :: lw_good) RL) (G : zG N0 t0 D cy s s.heap) (hl : l.stackTraces = false) {b L : Nat} {xs : Nat → Int32} (hX : va_X b L xs s s.heap) (hbl : b < s.heap.size) (hbN : b < N0) (hi : 0 + 8 ≤ L) (hL : L < 2 ^ 31) {x g o : Nat} (hF : z1F t0 S x g o) (hR : 14 ≤ R.frames ∧ 500 ≤ R.locals ∧ cells + 1000 ≤ R.cells ∧ slots + 1000 ≤ R.slots) (K : ∀ (S2 : zS) (c2 s2 : Nat), c2 ≤ cells + 1000 → s2 ≤ slots + 1000 → zW p l e R s m args below meth c Q N0 D cy 8 c2 s2 S2 [(4, .int (nI 0)), (3, .ref o), (2, .ref g), (1, .ref x), (0, .ref b)] 1174 []) : zW p l e R s m args below meth c Q N0 D cy 8 cells slots S [(4, .int (nI 0)), (3, .ref o), (2, .ref g), (1, .ref x), (0, .ref b)] 1118 [] := by
  obtain ⟨hx, hg, ⟨ho, hon⟩, ⟨⟨u, hu, hua, hun, hue⟩, hlk, hfp, mm, hmq, hmm, hv0, hv1, hv2, q, hq, hqa, hqn, hqz⟩, ⟨h0, hnl, hpl⟩, ⟨hr0, hr1, hr2⟩, qr, hqr, hqra, hqrn, hqrz⟩ := hF
  obtain ⟨hR1, hR2, hR3, hR4⟩ := hR
  refine lc_memory (f2 := 1) (lo2 := 22) (mc2 := 0) (ms2 := 0) (J := fun _ => True) (post2 := fun k S1 r S2 => (¬ xs (0 + 1) < 0 ∧ xs (0 + 1) ≤ 1023 → S2 = zPi S1 1200 g 0 ∧ r = zri S1 qr (xs (0 + 1)).toNatClampNeg &&& 255) ∧ (¬ (¬ xs (0 + 1) < 0 ∧ xs (0 + 1) ≤ 1023) → S2 = zPi S1 1200 g 1)) F G hX hbl hbN hi hL hx (k_memory hl hx hmq hmm hq hqa hqn) (fun E S' h => h.2.1) (fun r S' h => by rw [h.2.1]; exact ⟨ho, hon⟩) (fun k S1 h => ?_) (fun k S1 r S2 h h2 => ?_) ⟨by omega, by omega, by omega, by omega, by omega, by omega⟩ (by omega) (by omega) (fun S2 _ => K S2 _ _ (by omega) (by omega))
  · rcases h with ⟨e1, r, S2, ⟨v, rfl, a1, a2, a3⟩, a4⟩ | ⟨e1, a1, _, e2⟩
    · subst a4
      subst a2
      exact ⟨hg, m_memory (S := zRj S2 o _) hg hqr hqra hqrn⟩
    · subst e2
      exact ⟨hg, m_memory hg hqr hqra hqrn⟩
  · rcases h with ⟨e1, r, S2, ⟨v, rfl, a1, a2, a3⟩, a4⟩ | ⟨e1, a1, _, e2⟩
    · subst a4
      subst a2
      obtain ⟨b1, b2⟩ := h2.1 a1
      subst b1
      refine ⟨hg, zi_s.trans e1.symm, fun _ => ⟨ho, hon, ?_⟩, trivial⟩
      rw [b2]
      show va_up (zrj S2) o (vp_updL (zrj S2 o) 0 v.toInt64) o 0 = (zri S2 qr (xs (0 + 1)).toNatClampNeg &&& 255).toInt64
      rw [va_up_self, hqrz]
      rw [hqz] at a3
      rw [a3]
      simp [vp_updL]
    · subst e2
      have b1 := h2.2 a1
      subst b1
      exact ⟨hg, zi_s.trans e1.symm, fun hk => absurd (e1.symm.trans hk) (by decide), trivial⟩
set_option maxRecDepth 100000 in
set_option maxHeartbeats 4000000 in
theorem p1_object (F : CallFix p m c cL_law 8 s args (z :: lw_good) RL) (G : zG N0 t0 D cy s s.heap) (hl : l.stackTraces = false) {b L : Nat} {xs : Nat → Int32} (hX : va_X b L xs s s.heap) (hbl : b < s.heap.size) (hbN : b < N0) (hi : 0 + 8 ≤ L) (hL : L < 2 ^ 31) {x g o : Nat} (hF : z1F t0 S x g o) (hR : 14 ≤ R.frames ∧ 500 ≤ R.locals ∧ cells + 1000 ≤ R.cells ∧ slots + 1000 ≤ R.slots) (K : ∀ (S2 : zS) (c2 s2 : Nat), c2 ≤ cells + 1000 → s2 ≤ slots + 1000 → zW p l e R s m args below meth c Q N0 D cy 8 c2 s2 S2 [(4, .int (nI 0)), (3, .ref o), (2, .ref g), (1, .ref x), (0, .ref b)] 1174 []) : zW p l e R s m args below meth c Q N0 D cy 8 cells slots S [(4, .int (nI 0)), (3, .ref o), (2, .ref g), (1, .ref x), (0, .ref b)] 112 [] := by
  obtain ⟨hx, hg, ⟨ho, hon⟩, ⟨⟨u, hu, hua, hun, hue⟩, hlk, hfp, mm, hmq, hmm, hv0, hv1, hv2, q, hq, hqa, hqn, hqz⟩, ⟨h0, hnl, hpl⟩, ⟨hr0, hr1, hr2⟩, qr, hqr, hqra, hqrn, hqrz⟩ := hF
  obtain ⟨hR1, hR2, hR3, hR4⟩ := hR
  have hux : u ≠ x := zA.ne hua hx (by decide)
  refine lc_object (f2 := 0) (lo2 := 0) (mc2 := 0) (ms2 := 0) (J := fun _ => True) (post2 := fun _ S1 r S2 => r = 0 ∧ zi S2 1200 g = 0 ∧ zA S2 g 12 ∧ zfr S1 S2 (fun b => b = g)) F G hX hbl hbN hi hL hx (k_object_first hl hx hu hua hue hun hux) (fun E S' h => h.elim) (fun r S' h => ⟨h.2.al ho, ((h.2.sm ho.1 (fun e => e.elim (zA.ne ho hx (by decide)) (zA.ne ho hua (by decide)))).2.2.2.1).trans hon⟩) (fun k S1 h => ?_) (fun k S1 r S2 h h2 => ?_) ⟨by omega, by omega, by omega, by omega, by omega, by omega⟩ (by omega) (by omega) (fun S2 _ => K S2 _ _ (by omega) (by omega))
  · rcases h with ⟨e1, r, S2, ⟨v, a0, a1, a2⟩, a4⟩ | ⟨e1, a1⟩
    · subst a4
      have hg2 : zA S2 g 12 := a2.al hg
      have h02 : zi S2 1201 g = 0 := ((a2.sm hg.1 (fun e => e.elim (zA.ne hg hx (by decide)) (zA.ne hg hua (by decide)))).1 _).trans h0
      exact ⟨hg2, m_object_first (S := zRj S2 o _) hg2 h02⟩
    · exact a1.elim
  · rcases h with ⟨e1, r9, S9, ⟨v, a0, a1, a2⟩, a4⟩ | ⟨e1, a1⟩
    · subst a4
      obtain ⟨b1, b2, b3, b4⟩ := h2
      have ho9 : zA S9 o 15 := a2.al ho
      have hon9 : zn S9 o = 1 := ((a2.sm ho.1 (fun e => e.elim (zA.ne ho hx (by decide)) (zA.ne ho hua (by decide)))).2.2.2.1).trans hon
      have hs := b4.sm (show o ∈ zL (zRj S9 o _) from ho9.1) (zA.ne ho hg (by decide))
      refine ⟨b3, b2.trans e1.symm, fun _ => ⟨b4.al ho9, hs.2.2.2.1.trans hon9, ?_⟩, trivial⟩
      rw [hs.2.2.2.2.2.1]
      show va_up (zrj S9) o (vp_updL (zrj S9 o) 0 r9) o 0 = r.toInt64
      rw [va_up_self, a0, a1, b1]
      simp [vp_updL]
    · exact a1.elim
end ZP1
