theorem addT_in (Ts : List Nat) (x : Nat) : x ∈ addT Ts x := by
  unfold addT
  split
  · exact List.mem_append_right _ List.mem_cons_self
  · rename_i h
    exact Decidable.byContradiction (fun h9 => h (plc_mem.mpr h9))
theorem addT_sub {Ts : List Nat} {x y : Nat} (h : y ∈ Ts) : y ∈ addT Ts x := by
  unfold addT
  split
  · exact List.mem_append_left _ h
  · exact h
theorem tyF_in {v : zV} {f : Nat} (ht : f % 8 < cn v 1202 (f / 8)) : ∀ n, f < n → sh v f ∈ tyF v n
  | 0, h => absurd h (Nat.not_lt_zero f)
  | n + 1, h => by
    show sh v f ∈ (if n % 8 < cn v 1202 (n / 8) then addT (tyF v n) (sh v n) else tyF v n)
    rcases Nat.lt_or_ge f n with h1 | h1
    · split
      · exact addT_sub (tyF_in ht n h1)
      · exact tyF_in ht n h1
    · have e : f = n := by omega
      subst e
      rw [if_pos ht]
      exact addT_in _ _
theorem wdS_sub {v : zV} {f k y : Nat} {p : List Nat × List Nat} (h : y ∈ p.1) : y ∈ (wdS v f k p).1 := by
  show y ∈ (if cn v 1209 (60 * f + k) = 32 then addT p.1 (cn v 1210 (60 * f + k)) else p.1)
  split
  · exact addT_sub h
  · exact h
theorem wdK_sub {v : zV} {f y : Nat} {p : List Nat × List Nat} (h : y ∈ p.1) : ∀ k, y ∈ (wdK v f p k).1
  | 0 => h
  | k + 1 => wdS_sub (wdK_sub h k)
theorem wdF_sub {v : zV} {y : Nat} (h : y ∈ tyF v 48) : ∀ n, y ∈ (wdF v n).1
  | 0 => h
  | n + 1 => by
    show y ∈ (if n % 8 < cn v 1202 (n / 8) then wdK v n (wdF v n) (cn v 1208 n) else wdF v n).1
    split
    · exact wdK_sub (wdF_sub h n) _
    · exact wdF_sub h n
theorem wdK_in {v : zV} {f k : Nat} {p : List Nat × List Nat} (hw : cn v 1209 (60 * f + k) = 32) : ∀ n, k < n → cn v 1210 (60 * f + k) ∈ (wdK v f p n).1
  | 0, h => absurd h (Nat.not_lt_zero k)
  | n + 1, h => by
    rcases Nat.lt_or_ge k n with h1 | h1
    · exact wdS_sub (wdK_in hw n h1)
    · have e : k = n := by omega
      subst e
      show cn v 1210 (60 * f + k) ∈ (if cn v 1209 (60 * f + k) = 32 then addT (wdK v f p k).1 (cn v 1210 (60 * f + k)) else (wdK v f p k).1)
      rw [if_pos hw]
      exact addT_in _ _
theorem wdF_in {v : zV} {f k : Nat} (ht : f % 8 < cn v 1202 (f / 8)) (hk : k < cn v 1208 f) (hw : cn v 1209 (60 * f + k) = 32) : ∀ n, f < n → cn v 1210 (60 * f + k) ∈ (wdF v n).1
  | 0, h => absurd h (Nat.not_lt_zero f)
  | n + 1, h => by
    show _ ∈ (if n % 8 < cn v 1202 (n / 8) then wdK v n (wdF v n) (cn v 1208 n) else wdF v n).1
    rcases Nat.lt_or_ge f n with h1 | h1
    · split
      · exact wdK_sub (wdF_in ht hk hw n h1) _
      · exact wdF_in ht hk hw n h1
    · have e : f = n := by omega
      subst e
      rw [if_pos ht]
      exact wdK_in hw _ hk
theorem plc_ex {Ts : List Nat} {x : Nat} (h : x ∈ Ts) : ∃ j, plc Ts (some x) = some j := by
  cases he : plc Ts (some x) with
  | none => exact absurd h (plc_mem.mp he)
  | some j => exact ⟨j, rfl⟩
theorem plc_sh {v : zV} {f : Nat} (hf : f < 48) (ht : f % 8 < cn v 1202 (f / 8)) : ∃ j, plc (wdF v 48).1 (some (sh v f)) = some j := plc_ex (wdF_sub (tyF_in ht 48 hf) 48)
theorem plc_32 {v : zV} {f k : Nat} (hf : f < 48) (ht : f % 8 < cn v 1202 (f / 8)) (hk : k < cn v 1208 f) (hw : cn v 1209 (60 * f + k) = 32) : ∃ j, plc (wdF v 48).1 (some (cn v 1210 (60 * f + k))) = some j := plc_ex (wdF_in ht hk hw 48 hf)
/-- a symbol and what it means are of one kind -/
def kEq (v : zV) : Prop := ∀ y, y < 96 → y % 16 < cn v 1204 (y / 16) → ∀ z, mng v y = some z → v.1 1215 z = v.1 1215 y
theorem yFi_k {v : zV} (h5 : ∀ z, z < 96 → ¬ (z % 16 < cn v 1204 (z / 16) ∧ oK v z)) {nm : Int32} {w y : Nat} (hw : fnd (yFi v nm) 96 = some w) (hy : y < 96) (h1 : y % 16 < cn v 1204 (y / 16)) (h2 : ¬ v.1 1216 y = 2) (h3 : v.1 1214 y = nm) : v.1 1215 w = v.1 1215 y := by
  subst h3
  exact Decidable.byContradiction (fun h9 => h5 y hy ⟨h1, (oK_iff hy h2 (yFi_t h1 h2 rfl) hw).mpr h9⟩)
theorem kEq.of {v : zV} (h5 : ∀ z, z < 96 → ¬ (z % 16 < cn v 1204 (z / 16) ∧ oK v z)) : kEq v := by
  intro y hy ht z hz
  by_cases h2 : v.1 1216 y = 2
  · unfold mng at hz
    rw [if_pos h2] at hz
    split at hz
    · cases hz
    · cases hz
      rfl
  · obtain ⟨w, hw⟩ : ∃ w, fnd (yFi v (v.1 1214 y)) 96 = some w := by
      cases he : fnd (yFi v (v.1 1214 y)) 96 with
      | some w => exact ⟨w, rfl⟩
      | none =>
        have h9 := fnd_none.mp he y hy
        rw [yFi_t ht h2 rfl] at h9
        cases h9
    have hz3 := mng_t hy ht hz
    have hz2 : ¬ v.1 1216 z = 2 ∧ v.1 1214 z = v.1 1214 y := by
      unfold mng at hz
      rw [if_neg h2] at hz
      split at hz
      · rename_i z9 hs
        cases hz
        have h9 := (fnd_iff.mp hs).2.1
        unfold ySt at h9
        simp only [Bool.and_eq_true, decide_eq_true_eq] at h9
        exact ⟨fun e => by rw [h9.1.1.2] at e; exact absurd e (by decide), h9.1.2⟩
      · have h9 := (fnd_iff.mp hz).2.1
        unfold yWk at h9
        simp only [Bool.and_eq_true, decide_eq_true_eq, Bool.not_eq_true', decide_eq_false_iff_not] at h9
        exact ⟨h9.1.1.2, h9.1.2⟩
    rw [← yFi_k h5 hw hy ht h2 rfl]
    exact (yFi_k h5 hw hz3.1 hz3.2.1 hz2.1 hz2.2).symm
/-- what is written of things that are there, below x; of the first i of them -/
def ctB (v : zV) (t M : Nat) (B : Nat → List Int32) : Nat → List Int32
  | 0 => []
  | x + 1 => if x % M < cn v t (x / M) then ctB v t M B x ++ B x else ctB v t M B x
def ixB (v : zV) (t M : Nat) (B : Nat → List Int32) : Nat → List Int32
  | 0 => []
  | i + 1 => ixB v t M B i ++ B (eN v t M i)
theorem ctB_ix {v : zV} {t M : Nat} (B : Nat → List Int32) (hM : 0 < M) (hc : ∀ o, o < 6 → cn v t o ≤ M) : ∀ x, x ≤ 6 * M → ctB v t M B x = ixB v t M B (pS v t (x / M) + min (x % M) (cn v t (x / M)))
  | 0, _ => by
    rw [Nat.zero_div, Nat.zero_mod, Nat.zero_min]
    rfl
  | x + 1, h => by
    have ih := ctB_ix B hM hc x (by omega)
    have ho : x / M < 6 := (Nat.div_lt_iff_lt_mul hM).mpr (by omega)
    have hco := hc (x / M) ho
    have hr := Nat.mod_lt x hM
    have hdm := Nat.div_add_mod x M
    show (if x % M < cn v t (x / M) then ctB v t M B x ++ B x else ctB v t M B x) = _
    have key : pS v t ((x + 1) / M) + min ((x + 1) % M) (cn v t ((x + 1) / M)) = pS v t (x / M) + min (x % M + 1) (cn v t (x / M)) := by
      rcases Nat.lt_or_ge (x % M + 1) M with h1 | h1
      · have e1 : x + 1 = M * (x / M) + (x % M + 1) := by omega
        rw [e1, Nat.mul_add_div hM, Nat.div_eq_of_lt h1, Nat.mul_add_mod, Nat.mod_eq_of_lt h1, Nat.add_zero]
      · have e2 : x % M + 1 = M := by omega
        have e1 : x + 1 = M * (x / M + 1) := by rw [Nat.mul_succ]; omega
        rw [e1, Nat.mul_div_cancel_left _ hM, Nat.mul_mod_right, Nat.zero_min, e2, Nat.min_eq_right hco]
        rfl
    rw [key]
    by_cases ht : x % M < cn v t (x / M)
    · rw [if_pos ht, ih, Nat.min_eq_left (by omega), Nat.min_eq_left (by omega)]
      show _ = ixB v t M B (pS v t (x / M) + x % M) ++ B (eN v t M (pS v t (x / M) + x % M))
      rw [show pS v t (x / M) + x % M = pN v t M x from rfl, eN_at hM (by omega) ht]
    · rw [if_neg ht, ih, Nat.min_eq_right (by omega), Nat.min_eq_right (by omega)]
theorem ctB_all {v : zV} {t M : Nat} (B : Nat → List Int32) (hM : 0 < M) (hc : ∀ o, o < 6 → cn v t o ≤ M) : ctB v t M B (6 * M) = ixB v t M B (pS v t 6) := by
  rw [ctB_ix B hM hc _ (Nat.le_refl _), Nat.mul_div_cancel _ hM, Nat.mul_mod_left, Nat.zero_min]
  rfl
theorem ctB_ok {v : zV} {t M : Nat} {B : Nat → List Int32} {q : Nat} : ∀ n, (∀ x, x < n → aB (B x) ∧ (B x).length ≤ q) → aB (ctB v t M B n) ∧ (ctB v t M B n).length ≤ n * q
  | 0, _ => ⟨aB.nil, Nat.zero_le _⟩
  | n + 1, h => by
    obtain ⟨h1, h2⟩ := ctB_ok n (fun x hx => h x (by omega))
    obtain ⟨h3, h4⟩ := h n (by omega)
    show aB (if n % M < cn v t (n / M) then ctB v t M B n ++ B n else ctB v t M B n) ∧ (if n % M < cn v t (n / M) then ctB v t M B n ++ B n else ctB v t M B n).length ≤ (n + 1) * q
    rw [Nat.succ_mul]
    split
    · exact ⟨h1.app h3, by rw [List.length_append]; omega⟩
    · exact ⟨h1, by omega⟩
theorem ctB_e {v v1 : zV} {t M : Nat} {B B1 : Nat → List Int32} : ∀ n, (∀ x, x < n → cn v1 t (x / M) = cn v t (x / M)) → (∀ x, x < n → x % M < cn v t (x / M) → B1 x = B x) → ctB v1 t M B1 n = ctB v t M B n
  | 0, _, _ => rfl
  | n + 1, h1, h2 => by
    have ih := ctB_e (B := B) (B1 := B1) n (fun x hx => h1 x (by omega)) (fun x hx => h2 x (by omega))
    show (if n % M < cn v1 t (n / M) then ctB v1 t M B1 n ++ B1 n else ctB v1 t M B1 n) = (if n % M < cn v t (n / M) then ctB v t M B n ++ B n else ctB v t M B n)
    rw [h1 n (by omega), ih]
    by_cases ht : n % M < cn v t (n / M)
    · rw [if_pos ht, if_pos ht, h2 n (by omega) ht]
    · rw [if_neg ht, if_neg ht]
/-- the first k of a list, each as written -/
def lsB (Ts : List Nat) (B : Nat → List Int32) : Nat → List Int32
  | 0 => []
  | k + 1 => lsB Ts B k ++ B (Ts.getD k 0)
theorem lsB_ok {Ts : List Nat} {B : Nat → List Int32} {q : Nat} : ∀ k, (∀ j, j < k → aB (B (Ts.getD j 0)) ∧ (B (Ts.getD j 0)).length ≤ q) → aB (lsB Ts B k) ∧ (lsB Ts B k).length ≤ k * q
  | 0, _ => ⟨aB.nil, Nat.zero_le _⟩
  | k + 1, h => by
    obtain ⟨h1, h2⟩ := lsB_ok k (fun j hj => h j (by omega))
    obtain ⟨h3, h4⟩ := h k (by omega)
    show aB (lsB Ts B k ++ B (Ts.getD k 0)) ∧ (lsB Ts B k ++ B (Ts.getD k 0)).length ≤ (k + 1) * q
    rw [Nat.succ_mul, List.length_append]
    exact ⟨h1.app h3, by omega⟩
def vlB (k : Nat) : List Int32 := List.replicate k (bv (nI 126))
theorem vlB_s (k : Nat) : vlB (k + 1) = vlB k ++ [bv (nI 126)] := List.replicate_succ'
theorem vlB_ok : ∀ k, aB (vlB k) ∧ (vlB k).length = k := fun k => ⟨fun y hy => ⟨nI 126, (List.mem_replicate.mp hy).2⟩, List.length_replicate⟩
def tyB (t : Nat) : List Int32 := bv (nI 96) :: bv (nI (t / 2)) :: (vlB (t / 2) ++ (bv (nI (t % 2)) :: vlB (t % 2)))
theorem tyB_ok {t : Nat} (h : t < 10) : aB (tyB t) ∧ (tyB t).length ≤ 8 := by
  unfold tyB
  refine ⟨((vlB_ok _).1.app (vlB_ok _).1.cons).cons.cons, ?_⟩
  rw [List.length_cons, List.length_cons, List.length_append, List.length_cons, (vlB_ok _).2, (vlB_ok _).2]
  omega
/-- the sections of the module -/
def sc1 (Ts : List Nat) : List Int32 := uns Ts.length ++ lsB Ts tyB Ts.length
def sc3 (v : zV) (Ts : List Nat) : List Int32 := uns (pS v 1202 6) ++ ctB v 1202 8 (fun f => uns ((plc Ts (some (sh v f))).getD 0)) 48
def sc4 (Ss : List Nat) : List Int32 := bv (nI 1) :: bv (nI 112) :: bv (nI 0) :: uns (Ss.length + 1)
def sc5 : List Int32 := [bv (nI 1), bv (nI 0), bv (nI 1)]
def sc9 (v : zV) (Ss : List Nat) : List Int32 := bv (nI 1) :: bv (nI 0) :: bv (nI 65) :: bv (nI 1) :: bv (nI 11) :: (uns Ss.length ++ lsB Ss (fun f => uns (pN v 1202 8 f)) Ss.length)
def scA (v : zV) (Ts Ss : List Nat) : List Int32 := uns (pS v 1202 6) ++ ctB v 1202 8 (fnW v Ts Ss) 48
def scB (v : zV) : List Int32 := uns (pS v 1203 6) ++ ctB v 1203 4 (sgB v) 24
def sec (i : Nat) (B : List Int32) : List Int32 := bv (nI i) :: (uns B.length ++ B)
def mdH : List Int32 := [bv (nI 0), bv (nI 97), bv (nI 115), bv (nI 109), bv (nI 1), bv (nI 0), bv (nI 0), bv (nI 0)]
def md5 (v : zV) (Ts Ss : List Nat) : List Int32 := mdH ++ sec 1 (sc1 Ts) ++ sec 3 (sc3 v Ts) ++ sec 4 (sc4 Ss) ++ sec 5 sc5
def md9 (v : zV) (Ts Ss : List Nat) : List Int32 := md5 v Ts Ss ++ (if 0 < Ss.length then sec 9 (sc9 v Ss) else [])
def mdA (v : zV) (Ts Ss : List Nat) : List Int32 := md9 v Ts Ss ++ sec 10 (scA v Ts Ss)
def mdB (v : zV) (Ts Ss : List Nat) : List Int32 := mdA v Ts Ss ++ (if 0 < pS v 1203 6 then sec 11 (scB v) else [])
theorem sec_ok {i : Nat} {B : List Int32} (h : aB B) : aB (sec i B) ∧ (sec i B).length ≤ B.length + 6 := by
  unfold sec
  refine ⟨((aB_uns _).app h).cons, ?_⟩
  rw [List.length_cons, List.length_append]
  have := uns_b B.length
  omega
theorem szd_sec (L : List Int32) (i : Nat) (B : List Int32) : szd (L ++ [bv (nI i)] ++ B) (L.length + 1) = L ++ sec i B := by
  unfold szd sec
  rw [List.take_append_of_le_length (by rw [List.length_append]; exact Nat.le_refl _), List.drop_append_of_le_length (by rw [List.length_append]; exact Nat.le_refl _), List.take_of_length_le (by rw [List.length_append]; exact Nat.le_refl _), List.drop_of_length_le (by rw [List.length_append]; exact Nat.le_refl _)]
  rw [List.length_append, List.length_append, show L.length + [bv (nI i)].length + B.length - (L.length + 1) = B.length by rw [List.length_singleton]; omega]
  simp
theorem sgB_ok {v : zV} (hv : vRg v) {q : Nat} (hq : q < 24) : aB (sgB v q) ∧ (sgB v q).length ≤ 77 := by
  have h64 := (rg_1211 hv hq).2
  unfold sgB
  refine ⟨aB.app ?_ ?_, by rw [List.length_append, sBy_l]; have := sgH_l v q; omega⟩
  · unfold sgH
    exact ((aB_sgn _).app (aB_uns _).cons).cons.cons
  · generalize cn v 1211 q = n
    induction n with
    | zero => exact aB.nil
    | succ n ih => exact ih.app aB.nil.cons
theorem fnW_ok {v : zV} {Ts Ss : List Nat} (hv : vRg v) {f : Nat} (hf : f < 48) : aB (fnW v Ts Ss f) ∧ (fnW v Ts Ss f).length ≤ 489 := by
  have h60 := (rg_1208 hv hf).2
  obtain ⟨h1, h2⟩ := wLs_ok v Ts Ss f (cn v 1208 f)
  have hl : aB (lcB v f) ∧ (lcB v f).length ≤ 3 := by
    unfold lcB
    split
    · exact ⟨aB.nil.cons.cons.cons, Nat.le_refl _⟩
    · exact ⟨aB.nil.cons, by decide⟩
  have hb : aB (fnB v Ts Ss f) ∧ (fnB v Ts Ss f).length ≤ 484 := by
    unfold fnB
    refine ⟨hl.1.app (h1.app aB.nil.cons), ?_⟩
    rw [List.length_append, List.length_append, List.length_singleton]
    have := hl.2
    omega
  unfold fnW
  refine ⟨(aB_uns _).app hb.1, ?_⟩
  rw [List.length_append]
  have := uns_b (fnB v Ts Ss f).length
  have := hb.2
  omega
theorem sc1_ok {Ts : List Nat} (h : nD Ts 10) : aB (sc1 Ts) ∧ (sc1 Ts).length ≤ 85 := by
  have hl := nD_len _ _ h
  obtain ⟨h1, h2⟩ := lsB_ok (Ts := Ts) (B := tyB) (q := 8) Ts.length (fun j hj => tyB_ok (h.2 _ (getD_mem hj)))
  unfold sc1
  refine ⟨(aB_uns _).app h1, ?_⟩
  rw [List.length_append]
  have := uns_b Ts.length
  omega
theorem sc3_ok (v : zV) (Ts : List Nat) : aB (sc3 v Ts) ∧ (sc3 v Ts).length ≤ 245 := by
  obtain ⟨h1, h2⟩ := ctB_ok (v := v) (t := 1202) (M := 8) (B := fun f => uns ((plc Ts (some (sh v f))).getD 0)) (q := 5) 48 (fun x _ => ⟨aB_uns _, uns_b _⟩)
  unfold sc3
  refine ⟨(aB_uns _).app h1, ?_⟩
  rw [List.length_append]
  have := uns_b (pS v 1202 6)
  omega
theorem sc4_ok (Ss : List Nat) : aB (sc4 Ss) ∧ (sc4 Ss).length ≤ 8 := by
  unfold sc4
  refine ⟨(aB_uns _).cons.cons.cons, ?_⟩
  rw [List.length_cons, List.length_cons, List.length_cons]
  have := uns_b (Ss.length + 1)
  omega
theorem sc5_ok : aB sc5 ∧ sc5.length = 3 := ⟨aB.nil.cons.cons.cons, rfl⟩
theorem sc9_ok (v : zV) {Ss : List Nat} (h : nD Ss 48) : aB (sc9 v Ss) ∧ (sc9 v Ss).length ≤ 250 := by
  have hl := nD_len _ _ h
  obtain ⟨h1, h2⟩ := lsB_ok (Ts := Ss) (B := fun f => uns (pN v 1202 8 f)) (q := 5) Ss.length (fun j _ => ⟨aB_uns _, uns_b _⟩)
  unfold sc9
  refine ⟨((aB_uns _).app h1).cons.cons.cons.cons.cons, ?_⟩
  rw [List.length_cons, List.length_cons, List.length_cons, List.length_cons, List.length_cons, List.length_append]
  have := uns_b Ss.length
  omega
theorem scA_ok {v : zV} (Ts Ss : List Nat) (hv : vRg v) : aB (scA v Ts Ss) ∧ (scA v Ts Ss).length ≤ 23477 := by
  obtain ⟨h1, h2⟩ := ctB_ok (v := v) (t := 1202) (M := 8) (B := fnW v Ts Ss) (q := 489) 48 (fun x hx => fnW_ok hv hx)
  unfold scA
  refine ⟨(aB_uns _).app h1, ?_⟩
  rw [List.length_append]
  have := uns_b (pS v 1202 6)
  omega
theorem scB_ok {v : zV} (hv : vRg v) : aB (scB v) ∧ (scB v).length ≤ 1853 := by
  obtain ⟨h1, h2⟩ := ctB_ok (v := v) (t := 1203) (M := 4) (B := sgB v) (q := 77) 24 (fun x hx => sgB_ok hv hx)
  unfold scB
  refine ⟨(aB_uns _).app h1, ?_⟩
  rw [List.length_append]
  have := uns_b (pS v 1203 6)
  omega
theorem mdH_ok : aB mdH ∧ mdH.length = 8 := ⟨aB.nil.cons.cons.cons.cons.cons.cons.cons.cons, rfl⟩
theorem md5_ok (v : zV) {Ts Ss : List Nat} (h : nD Ts 10) : aB (md5 v Ts Ss) ∧ (md5 v Ts Ss).length ≤ 400 := by
  have a1 := sc1_ok h
  have b1 := sec_ok (i := 1) a1.1
  have a3 := sc3_ok v Ts
  have b3 := sec_ok (i := 3) a3.1
  have a4 := sc4_ok Ss
  have b4 := sec_ok (i := 4) a4.1
  have b5 := sec_ok (i := 5) sc5_ok.1
  have h5 := sc5_ok.2
  unfold md5
  refine ⟨(((mdH_ok.1.app b1.1).app b3.1).app b4.1).app b5.1, ?_⟩
  simp only [List.length_append]
  have := mdH_ok.2
  omega
theorem md9_ok (v : zV) {Ts Ss : List Nat} (h : nD Ts 10) (h2 : nD Ss 48) : aB (md9 v Ts Ss) ∧ (md9 v Ts Ss).length ≤ 700 := by
  have a1 := md5_ok v (Ss := Ss) h
  have a9 := sc9_ok v h2
  have b9 := sec_ok (i := 9) a9.1
  unfold md9
  split
  · exact ⟨a1.1.app b9.1, by rw [List.length_append]; omega⟩
  · exact ⟨a1.1.app aB.nil, by rw [List.length_append, List.length_nil]; omega⟩
theorem mdA_ok {v : zV} {Ts Ss : List Nat} (hv : vRg v) (h : nD Ts 10) (h2 : nD Ss 48) : aB (mdA v Ts Ss) ∧ (mdA v Ts Ss).length ≤ 24200 := by
  have a1 := md9_ok v h h2
  have a9 := scA_ok Ts Ss hv
  have b9 := sec_ok (i := 10) a9.1
  unfold mdA
  exact ⟨a1.1.app b9.1, by rw [List.length_append]; omega⟩
theorem mdB_ok {v : zV} {Ts Ss : List Nat} (hv : vRg v) (h : nD Ts 10) (h2 : nD Ss 48) : aB (mdB v Ts Ss) ∧ (mdB v Ts Ss).length ≤ 26100 := by
  have a1 := mdA_ok (v := v) hv h h2
  have a9 := scB_ok hv
  have b9 := sec_ok (i := 11) a9.1
  unfold mdB
  split
  · exact ⟨a1.1.app b9.1, by rw [List.length_append]; omega⟩
  · exact ⟨a1.1.app aB.nil, by rw [List.length_append, List.length_nil]; omega⟩
section ZVM
variable {v v1 : zV}
theorem vL.epN (h : vL v v1) {t : Nat} (ht : 1200 < t ∧ t ≤ 1218) (M z : Nat) : pN v1 t M z = pN v t M z := by
  unfold pN
  rw [h.epS ht]
theorem vL.ewB (h : vL v v1) (Ts Ss : List Nat) (o w : Nat) (a : Int32) : wB v1 Ts Ss o w a = wB v Ts Ss o w a := by
  unfold wB wR
  rw [h.efO, h.eaO]
  have e : ∀ z, pN v1 1202 8 z = pN v 1202 8 z := fun z => h.epN (by omega) 8 z
  simp only [e]
theorem vL.ewLs (h : vL v v1) (Ts Ss : List Nat) (f : Nat) : ∀ k, wLs v1 Ts Ss f k = wLs v Ts Ss f k
  | 0 => rfl
  | k + 1 => by
    show wLs v1 Ts Ss f k ++ wB v1 Ts Ss (f / 8) (cn v1 1209 (60 * f + k)) (v1.1 1210 (60 * f + k)) = wLs v Ts Ss f k ++ wB v Ts Ss (f / 8) (cn v 1209 (60 * f + k)) (v.1 1210 (60 * f + k))
    rw [h.ewLs Ts Ss f k, h.ewB, h.c (by omega), h 1210 _ (by omega)]
theorem vL.efnW (h : vL v v1) (Ts Ss : List Nat) (f : Nat) : fnW v1 Ts Ss f = fnW v Ts Ss f := by
  unfold fnW fnB lcB
  rw [h.ewLs, h.c (id := 1208) (by omega), h.c (id := 1207) (by omega)]
theorem vL.esBy (h : vL v v1) (q : Nat) : ∀ k, sBy v1 q k = sBy v q k
  | 0 => rfl
  | k + 1 => by
    show sBy v1 q k ++ [bv (v1.1 1213 (64 * q + k))] = sBy v q k ++ [bv (v.1 1213 (64 * q + k))]
    rw [h.esBy q k, h 1213 _ (by omega)]
theorem vL.esgB (h : vL v v1) (q : Nat) : sgB v1 q = sgB v q := by
  unfold sgB sgH
  rw [h.esBy, h.eaS, h.c (id := 1212) (by omega), h.c (id := 1211) (by omega)]
theorem vL.esc3 (h : vL v v1) (Ts : List Nat) : sc3 v1 Ts = sc3 v Ts := by
  unfold sc3
  rw [h.epS (by omega), ctB_e 48 (fun x _ => h.c (by omega)) (fun x _ _ => congrArg (fun n => uns ((plc Ts (some n)).getD 0)) (h.esh x))]
theorem vL.esc9 (h : vL v v1) (Ss : List Nat) : sc9 v1 Ss = sc9 v Ss := by
  have e : ∀ z, pN v1 1202 8 z = pN v 1202 8 z := fun z => h.epN (by omega) 8 z
  unfold sc9
  simp only [e]
theorem vL.escA (h : vL v v1) (Ts Ss : List Nat) : scA v1 Ts Ss = scA v Ts Ss := by
  unfold scA
  rw [h.epS (by omega), ctB_e 48 (fun x _ => h.c (by omega)) (fun x _ _ => h.efnW Ts Ss x)]
theorem vL.escB (h : vL v v1) : scB v1 = scB v := by
  unfold scB
  rw [h.epS (by omega), ctB_e 24 (fun x _ => h.c (by omega)) (fun x _ _ => h.esgB x)]
theorem vL.emdB (h : vL v v1) (Ts Ss : List Nat) : mdB v1 Ts Ss = mdB v Ts Ss := by
  unfold mdB mdA md9 md5
  rw [h.esc3, h.esc9, h.escA, h.escB, h.epS (by omega)]
theorem vL.ekEq (h : vL v v1) (hk : kEq v) : kEq v1 := fun y hy ht z hz => by
  rw [h.emng] at hz
  rw [h.c (by omega)] at ht
  rw [h 1215 _ (by omega), h 1215 _ (by omega)]
  exact hk y hy ht z hz
end ZVM
