/-- the word k of the function f is at fault (1: its number, 2: its blocks and values, 6: its call) -/
def bW (v : zV) (w f k : Nat) : Prop := f % 8 < cn v 1202 (f / 8) ∧ (if w = 2 then wpl v f = some k else k < cn v 1208 f ∧ (if w = 1 then ¬ gW v f (cn v 1209 (60 * f + k)) (v.1 1210 (60 * f + k)) else wC v f (cn v 1209 (60 * f + k)) (v.1 1210 (60 * f + k))))
/-- all numbers are good -/
def allG (v : zV) : Prop := ∀ f k, f < 48 → ¬ bW v 1 f k
theorem allG.g {v : zV} (h : allG v) {f k : Nat} (hf : f < 48) (ht : f % 8 < cn v 1202 (f / 8)) (hk : k < cn v 1208 f) : gW v f (cn v 1209 (60 * f + k)) (v.1 1210 (60 * f + k)) := by
  by_cases h9 : gW v f (cn v 1209 (60 * f + k)) (v.1 1210 (60 * f + k))
  · exact h9
  · exact absurd (show bW v 1 f k from ⟨ht, by rw [if_neg (by decide)]; exact ⟨hk, by rw [if_pos rfl]; exact h9⟩⟩) (h f k hf)
theorem wpl_le {v : zV} {f k : Nat} (h : wpl v f = some k) : k ≤ cn v 1208 f := by
  unfold wpl at h
  cases h1 : fnd (fun k => (kRun v f (k + 1)).isNone) (cn v 1208 f) with
  | some z =>
    rw [h1] at h
    cases h
    have := (fnd_iff.mp h1).1
    omega
  | none =>
    rw [h1] at h
    cases h2 : kRun v f (cn v 1208 f) with
    | none => rw [h2] at h; cases h; exact Nat.le_refl _
    | some q =>
      rw [h2] at h
      by_cases h3 : kn q = 1 ∧ (kC q).isSome
      · have h4 : (if kn q = 1 ∧ (kC q).isSome = true then none else some (cn v 1208 f)) = some k := h
        rw [if_pos h3] at h4
        cases h4
      · have h4 : (if kn q = 1 ∧ (kC q).isSome = true then none else some (cn v 1208 f)) = some k := h
        rw [if_neg h3] at h4
        cases h4
        exact Nat.le_refl _
section ZVE
variable {v v1 v2 : zV}
theorem vX.tr (h : vX v v1) (h2 : vX v1 v2) : vX v v2 := ⟨fun id k hid => (h2.1 id k hid).trans (h.1 id k hid), h2.2.trans h.2⟩
theorem vX.egW (h : vX v v1) (f w : Nat) (a : Int32) : gW v1 f w a = gW v f w a := by
  unfold gW
  rw [h.c (id := 1205) (by omega), h.c (id := 1207) (by omega), h.c (id := 1204) (by omega)]
  simp only [h.1 1215 _ (by omega)]
theorem vX.emng (h : vX v v1) (y : Nat) : mng v1 y = mng v y := by
  have e1 : ∀ nm, ySt v1 nm = ySt v nm := fun nm => by
    funext z
    unfold ySt
    rw [h.c (by omega), h.1 1216 z (by omega), h.1 1214 z (by omega), h.1 1217 z (by omega)]
  have e2 : ∀ nm, yWk v1 nm = yWk v nm := fun nm => by
    funext z
    unfold yWk
    rw [h.c (by omega), h.1 1216 z (by omega), h.1 1214 z (by omega), h.1 1217 z (by omega)]
  unfold mng
  rw [e1, e2, h.1 1216 y (by omega), h.1 1217 y (by omega), h.1 1214 y (by omega)]
theorem vX.efO (h : vX v v1) (y : Nat) : fO v1 y = fO v y := by
  unfold fO
  rw [h.emng]
  congr 1
  funext z
  rw [h.c (by omega)]
theorem vX.ewC (h : vX v v1) (f w : Nat) (a : Int32) : wC v1 f w a = wC v f w a := by
  unfold wC
  simp only [h.efO, h.esh, h.esg, h.c (id := 1204) (by omega)]
theorem vX.ebw (h : vX v v1) (f : Nat) (q : ckS) (b : Nat) : bw v1 f q b = bw v f q b := by
  unfold bw
  rw [h.c (by omega)]
theorem vX.ekSt (h : vX v v1) (f k : Nat) (q : ckS) : kSt v1 f k q = kSt v f k q := by
  have e1 : ∀ q2 a, ktk v1 f q2 a = ktk v f q2 a := fun q2 a => by
    unfold ktk
    rw [h.ebw]
  have e2 : ∀ w a q2, kS2 v1 f k w a q2 = kS2 v f k w a q2 := fun w a q2 => by
    unfold kS2
    simp only [h.ebw, e1, h.c (id := 1206) (k := f) (by omega)]
  unfold kSt
  simp only [e2, h.epp, h.epu, h.c (id := 1209) (by omega), h.1 1210 _ (by omega)]
theorem vX.ekRun (h : vX v v1) (f : Nat) : ∀ k, kRun v1 f k = kRun v f k
  | 0 => by
    show some (kBeg v1 f) = some (kBeg v f)
    unfold kBeg
    rw [h.c (by omega)]
  | k + 1 => by
    show (kRun v1 f k).bind (kSt v1 f k) = (kRun v f k).bind (kSt v f k)
    rw [h.ekRun f k, show kSt v1 f k = kSt v f k from funext (h.ekSt f k)]
theorem vX.ewpl (h : vX v v1) (f : Nat) : wpl v1 f = wpl v f := by
  unfold wpl
  simp only [h.ekRun, h.c (id := 1208) (by omega)]
end ZVE
set_option maxRecDepth 100000 in
set_option maxHeartbeats 4000000 in
theorem mm_fW1 {l : Launch} {N0 t0 : Nat} {D : va_G} {cy : Nat → ClassId} {S : zS} {S0 : zS} {g : Nat} {qa : Nat → Nat} {v : zV} (hS : zmR S0 g qa v S) (hv : vRg v) : zMi l yX12_failsInWords (zws yX12_failsInWords cX12_failsInWords 7 (some .boolean)) { frames := 4, cells := 0, slots := 0, locals := 110 } N0 t0 D cy S [.ref g, .int (nI 1)] (fun r S' => (r = 0 ∧ (∀ f k, f < 48 → ¬ bW v 1 f k) ∧ ∃ v1, zmR S0 g qa v1 S' ∧ vX v v1) ∨ (r = 1 ∧ ∃ f k v1, f < 48 ∧ bW v 1 f k ∧ (∀ f' k', f' < f → ¬ bW v 1 f' k') ∧ (∀ k', k' < k → ¬ bW v 1 f k') ∧ vX v v1 ∧ zmR S0 g qa (u1 (u1 v1 1221 0 (nI 1)) 1220 0 (nI (plW f k))) S')) 0 0 := by
  refine zMi.of (cc := cX12_failsInWords) (maxL := 7) (ret := (some .boolean)) (by decide) rfl (Nat.le_of_ble_eq_true rfl) ?_
  intro p e s m args below meth c F G hr hlk hnm
  refine r_iconst (v := 0) F dX12_failsInWords_0 (by decide) ?_
  refine r_istore_n F dX12_failsInWords_1 (by decide) ?_
  refine z_loop (fun n S9 lv => ∃ f v1, f + n = 48 ∧ zmR S0 g qa v1 S9 ∧ vX v v1 ∧ (∀ f' k', f' < f → ¬ bW v 1 f' k') ∧ lv = [(2, .int (nI f)), (0, .ref g), (1, .int (nI 1))]) 48 ?_ ⟨0, v, by omega, hS, vX.rf, fun f' k' h9 => absurd h9 (Nat.not_lt_zero f'), rfl⟩
  clear hS
  rintro n S lv ⟨f, v1, hn9, hS, hX, hst, rfl⟩ ih
  refine r_iload_n F dX12_failsInWords_2 rfl ?_
  refine r_bipush (v := 48) F dX12_failsInWords_3 (by decide) ?_
  rw [show (48 : Int32) = nI 48 from rfl]
  refine r_icmp_ge (tgt := 159) F dX12_failsInWords_5 (by decide) (fun c5 => ?_) (fun c5 => ?_)
  · refine r_iconst (v := 0) F dX12_failsInWords_159 (by decide) ?_
    exact e_zret F hr rfl hlk (Or.inl ⟨rfl, fun f' k' hf' => hst f' k' (by rw [nI_leI (by omega) (by omega)] at c5; omega), _, hS, hX⟩) (by decide) (by decide) dX12_failsInWords_160
  · have hf : f < 48 := by rw [nI_leI (by omega) (by omega)] at c5; omega
    have hlen := rg_1208 hv hf
    have hlen2 := hlen.2
    refine r_aload_n F dX12_failsInWords_8 rfl ?_
    refine r_iload_n F dX12_failsInWords_9 rfl ?_
    refine c_Vi (ci := 12) F G (mm_isThere hS (hX.rg hv) hf) (cwV 1 F.2.2.2.2 (zgV km_X12_195 ki_X12_isThere ke_X12_X12_isThere kn_X12 ko_X12_isThere) rfl rfl rfl ⟨rfl, hd_yX12_isThere⟩ ⟨Nat.le_of_ble_eq_true rfl, Nat.le_of_ble_eq_true rfl⟩) rfl (by decide) hS.al rfl rfl (Nat.le_of_ble_eq_true rfl) dX12_failsInWords_10 ⟨Nat.le_of_ble_eq_true rfl, Nat.le_of_ble_eq_true rfl⟩ (fun r10 S10 h10 => ?_)
    obtain ⟨a10, e10⟩ := h10
    have hs10 := e10.symm
    subst hs10
    rw [hX.c (by omega)] at a10
    refine r_if_ne (tgt := 19) F dX12_failsInWords_13 (by decide) (fun c13 => ?_) (fun c13 => ?_)
    · have ht := a10.t c13
      refine r_sipush (v := 1000) F dX12_failsInWords_19 (by decide) ?_
      refine r_iload_n F dX12_failsInWords_22 rfl ?_
      refine r_bipush (v := 8) F dX12_failsInWords_23 (by decide) ?_
      refine r_idiv F dX12_failsInWords_25 (by decide) ?_
      refine r_imul F dX12_failsInWords_26 ?_
      refine r_bipush (v := 100) F dX12_failsInWords_27 (by decide) ?_
      refine r_iload_n F dX12_failsInWords_29 rfl ?_
      refine r_bipush (v := 8) F dX12_failsInWords_30 (by decide) ?_
      refine r_irem F dX12_failsInWords_32 (by decide) ?_
      refine r_imul F dX12_failsInWords_33 ?_
      refine r_iadd F dX12_failsInWords_34 ?_
      rw [show nI f / 8 = nI (f / 8) by rw [nl8]; exact nI_div (by omega) (by omega), show nI f - nI (f / 8) * 8 = nI (f % 8) by rw [nl8, ← nI_mod (a := f) (b := 8) (by omega) (by omega), nI_div (by omega) (by omega)], show (1000 : Int32) * nI (f / 8) + 100 * nI (f % 8) = (nI (1000 * (f / 8) + 100 * (f % 8))) by rw [show (1000 : Int32) = nI 1000 from rfl, show (100 : Int32) = nI 100 from rfl, nI_mul, nI_mul, nI_add]]
      refine r_istore_n F dX12_failsInWords_35 (by decide) ?_
      refine r_iload_n F dX12_failsInWords_36 rfl ?_
      refine r_iconst (v := 2) F dX12_failsInWords_37 (by decide) ?_
      refine r_icmp_ne (tgt := 63) F dX12_failsInWords_38 (by decide) (fun _ => ?_) (fun h9 => absurd h9 (by decide))
      refine r_iconst (v := 0) F dX12_failsInWords_63 (by decide) ?_
      refine r_istore F dX12_failsInWords_64 (by decide) ?_
      refine z_loop (fun n2 S9 lv => ∃ k, k + n2 = cn v 1208 f ∧ S = S9 ∧ (∀ k', k' < k → ¬ bW v 1 f k') ∧ lv = [(4, .int (nI k)), (3, .int (nI (1000 * (f / 8) + 100 * (f % 8)))), (2, .int (nI f)), (0, .ref g), (1, .int (nI 1))]) (cn v 1208 f) ?_ ⟨0, by omega, rfl, fun k' h9 => absurd h9 (Nat.not_lt_zero k'), rfl⟩
      rintro n2 S9 lv ⟨k, hn2, rfl, hst2, rfl⟩ ih2
      refine r_iload F dX12_failsInWords_66 rfl ?_
      refine r_aload_n F dX12_failsInWords_68 rfl ?_
      refine gq_words F G hS dX12_failsInWords_69 ?_
      refine r_iload_n F dX12_failsInWords_72 rfl ?_
      refine al_words F G hS (f) rfl hf dX12_failsInWords_73 ?_
      rw [hX.1 1208 f (by omega), hlen.1]
      refine r_icmp_ge (tgt := 153) F dX12_failsInWords_74 (by decide) (fun c74 => ?_) (fun c74 => ?_)
      · have hnb : ∀ k', ¬ bW v 1 f k' := fun k' h9 => by
          have hkl : k = cn v 1208 f := by rw [nI_leI (by omega) (by omega)] at c74; omega
          have h8 := h9.2
          rw [if_neg (by decide)] at h8
          exact hst2 k' (by omega) h9
        refine zsub (lv' := [(2, .int (nI f)), (0, .ref g), (1, .int (nI 1))]) (by simp [zs1, Value.category, show ((1 : Fin 4) : Nat) = 1 from rfl, show ((2 : Fin 4) : Nat) = 2 from rfl, show ((3 : Fin 4) : Nat) = 3 from rfl]) ?_
        refine r_iinc F dX12_failsInWords_153 rfl (by decide) ?_
        refine r_goto (tgt := 2) F dX12_failsInWords_156 (by decide) ?_
        exact ih (n - 1) _ _ (by omega) ⟨f + 1, _, by omega, hS, hX, fun f' k' hf' h9 => by
          rcases Nat.lt_or_ge f' f with h8 | h8
          · exact hst f' k' h8 h9
          · rw [show f' = f by omega] at h9
            exact hnb k' h9, by rw [show nI f + Int32.ofInt 1 = nI (f + 1) from nI_add f 1]; rfl⟩
      · have hk : k < cn v 1208 f := by rw [nI_leI (by omega) (by omega)] at c74; omega
        have hix : 60 * f + k < 2880 := by omega
        have hwd := rg_1209 hv hix
        have hw36 : cn v 1209 (60 * f + k) < 36 := by have := hwd.2; omega
        refine r_aload_n F dX12_failsInWords_77 rfl ?_
        refine gq_word F G hS dX12_failsInWords_78 ?_
        refine r_bipush (v := 60) F dX12_failsInWords_81 (by decide) ?_
        refine r_iload_n F dX12_failsInWords_83 rfl ?_
        refine r_imul F dX12_failsInWords_84 ?_
        refine r_iload F dX12_failsInWords_85 rfl ?_
        refine r_iadd F dX12_failsInWords_87 ?_
        refine al_word F G hS (60 * f + k) (show (60 : Int32) * nI f + nI k = _ by rw [nl60, nI_mul, nI_add]) hix dX12_failsInWords_88 ?_
        rw [hX.1 1209 _ (by omega), hwd.1]
        refine r_istore F dX12_failsInWords_89 (by decide) ?_
        refine r_aload_n F dX12_failsInWords_91 rfl ?_
        refine gq_number F G hS dX12_failsInWords_92 ?_
        refine r_bipush (v := 60) F dX12_failsInWords_95 (by decide) ?_
        refine r_iload_n F dX12_failsInWords_97 rfl ?_
        refine r_imul F dX12_failsInWords_98 ?_
        refine r_iload F dX12_failsInWords_99 rfl ?_
        refine r_iadd F dX12_failsInWords_101 ?_
        refine al_number F G hS (60 * f + k) (show (60 : Int32) * nI f + nI k = _ by rw [nl60, nI_mul, nI_add]) hix dX12_failsInWords_102 ?_
        rw [hX.1 1210 _ (by omega)]
        refine r_istore F dX12_failsInWords_103 (by decide) ?_
        refine r_iload_n F dX12_failsInWords_105 rfl ?_
        refine r_iconst (v := 1) F dX12_failsInWords_106 (by decide) ?_
        refine r_icmp_ne (tgt := 125) F dX12_failsInWords_107 (by decide) (fun h9 => absurd rfl h9) (fun _ => ?_)
        refine r_aload_n F dX12_failsInWords_110 rfl ?_
        refine r_iload_n F dX12_failsInWords_111 rfl ?_
        refine r_iload F dX12_failsInWords_112 rfl ?_
        refine r_iload F dX12_failsInWords_114 rfl ?_
        refine c_Vi (ci := 12) F G (mm_isWordGood hS (hX.rg hv) hf hw36) (cwV 3 F.2.2.2.2 (zgV km_X12_204 ki_X12_isWordGood ke_X12_X12_isWordGood kn_X12 ko_X12_isWordGood) rfl rfl rfl ⟨rfl, hd_yX12_isWordGood⟩ ⟨Nat.le_of_ble_eq_true rfl, Nat.le_of_ble_eq_true rfl⟩) rfl (by decide) hS.al rfl rfl (Nat.le_of_ble_eq_true rfl) dX12_failsInWords_116 ⟨Nat.le_of_ble_eq_true rfl, Nat.le_of_ble_eq_true rfl⟩ (fun r116 S116 h116 => ?_)
        obtain ⟨a116, e116⟩ := h116
        have hs116 := e116.symm
        subst hs116
        rw [show gW v1 f (cn v 1209 (60 * f + k)) (v.1 1210 (60 * f + k)) = gW v f (cn v 1209 (60 * f + k)) (v.1 1210 (60 * f + k)) from hX.egW _ _ _] at a116
        refine r_if_ne (tgt := 147) F dX12_failsInWords_119 (by decide) (fun c119 => ?_) (fun c119 => ?_)
        · have hnb : ¬ bW v 1 f k := fun h9 => by have h8 := h9.2; rw [if_neg (by decide)] at h8; have h7 := h8.2; rw [if_pos rfl] at h7; exact h7 (a116.t c119)
          refine r_iinc F dX12_failsInWords_147 rfl (by decide) ?_
          refine r_goto (tgt := 66) F dX12_failsInWords_150 (by decide) ?_
          refine zsub (lv' := [(4, .int (nI (k + 1))), (3, .int (nI (1000 * (f / 8) + 100 * (f % 8)))), (2, .int (nI f)), (0, .ref g), (1, .int (nI 1))]) (by rw [show nI (k + 1) = nI k + Int32.ofInt 1 from (nI_add k 1).symm]; simp [zs1, Value.category, show ((1 : Fin 4) : Nat) = 1 from rfl, show ((2 : Fin 4) : Nat) = 2 from rfl, show ((3 : Fin 4) : Nat) = 3 from rfl]) ?_
          exact ih2 (n2 - 1) _ _ (by omega) ⟨k + 1, by omega, rfl, fun k' hk' h9 => by
            rcases Nat.lt_or_ge k' k with h8 | h8
            · exact hst2 k' h8 h9
            · rw [show k' = k by omega] at h9
              exact hnb h9, rfl⟩
        · refine r_goto (tgt := 137) F dX12_failsInWords_122 (by decide) ?_
          refine r_aload_n F dX12_failsInWords_137 rfl ?_
          refine r_iload_n F dX12_failsInWords_138 rfl ?_
          refine r_iload_n F dX12_failsInWords_139 rfl ?_
          refine r_iload F dX12_failsInWords_140 rfl ?_
          refine r_iadd F dX12_failsInWords_142 ?_
          rw [show nI (1000 * (f / 8) + 100 * (f % 8)) + nI k = nI (plW f k) from nI_add _ _]
          refine c_Vi (ci := 12) F G (mm_fails hS) (cwV 2 F.2.2.2.2 (zgV km_X12_201 ki_X12_fails ke_X12_X12_fails kn_X12 ko_X12_fails) rfl rfl rfl ⟨rfl, hd_yX12_fails⟩ ⟨Nat.le_of_ble_eq_true rfl, Nat.le_of_ble_eq_true rfl⟩) rfl (by decide) hS.al rfl rfl (Nat.le_of_ble_eq_true rfl) dX12_failsInWords_143 ⟨Nat.le_of_ble_eq_true rfl, Nat.le_of_ble_eq_true rfl⟩ (fun r143 S143 h143 => ?_)
          obtain ⟨a143, b143⟩ := h143
          subst a143
          exact e_zret F hr rfl hlk (Or.inr ⟨rfl, f, k, v1, hf, ⟨ht, by rw [if_neg (by decide)]; exact ⟨hk, by rw [if_pos rfl]; exact a116.f c119⟩⟩, hst, hst2, hX, b143⟩) (by decide) (by decide) dX12_failsInWords_146
    · refine r_goto (tgt := 153) F dX12_failsInWords_16 (by decide) ?_
      have hnb : ∀ k', ¬ bW v 1 f k' := fun k' h9 => a10.f c13 h9.1
      refine zsub (lv' := [(2, .int (nI f)), (0, .ref g), (1, .int (nI 1))]) (by simp [zs1, Value.category, show ((1 : Fin 4) : Nat) = 1 from rfl, show ((2 : Fin 4) : Nat) = 2 from rfl, show ((3 : Fin 4) : Nat) = 3 from rfl]) ?_
      refine r_iinc F dX12_failsInWords_153 rfl (by decide) ?_
      refine r_goto (tgt := 2) F dX12_failsInWords_156 (by decide) ?_
      exact ih (n - 1) _ _ (by omega) ⟨f + 1, _, by omega, hS, hX, fun f' k' hf' h9 => by
        rcases Nat.lt_or_ge f' f with h8 | h8
        · exact hst f' k' h8 h9
        · rw [show f' = f by omega] at h9
          exact hnb k' h9, by rw [show nI f + Int32.ofInt 1 = nI (f + 1) from nI_add f 1]; rfl⟩
set_option maxRecDepth 100000 in
set_option maxHeartbeats 4000000 in
theorem mm_fW2 {l : Launch} {N0 t0 : Nat} {D : va_G} {cy : Nat → ClassId} {S : zS} {S0 : zS} {g : Nat} {qa : Nat → Nat} {v : zV} (hS : zmR S0 g qa v S) (hv : vRg v) (hA : vA v) (hD : vD v) (hg : allG v) : zMi l yX12_failsInWords (zws yX12_failsInWords cX12_failsInWords 7 (some .boolean)) { frames := 4, cells := 0, slots := 0, locals := 110 } N0 t0 D cy S [.ref g, .int (nI 2)] (fun r S' => (r = 0 ∧ (∀ f k, f < 48 → ¬ bW v 2 f k) ∧ ∃ v1, zmR S0 g qa v1 S' ∧ vX v v1) ∨ (r = 1 ∧ ∃ f k v1, f < 48 ∧ bW v 2 f k ∧ (∀ f' k', f' < f → ¬ bW v 2 f' k') ∧ (∀ k', k' < k → ¬ bW v 2 f k') ∧ vX v v1 ∧ zmR S0 g qa (u1 (u1 v1 1221 0 (nI 2)) 1220 0 (nI (plW f k))) S')) 0 0 := by
  refine zMi.of (cc := cX12_failsInWords) (maxL := 7) (ret := (some .boolean)) (by decide) rfl (Nat.le_of_ble_eq_true rfl) ?_
  intro p e s m args below meth c F G hr hlk hnm
  refine r_iconst (v := 0) F dX12_failsInWords_0 (by decide) ?_
  refine r_istore_n F dX12_failsInWords_1 (by decide) ?_
  refine z_loop (fun n S9 lv => ∃ f v1, f + n = 48 ∧ zmR S0 g qa v1 S9 ∧ vX v v1 ∧ (∀ f' k', f' < f → ¬ bW v 2 f' k') ∧ lv = [(2, .int (nI f)), (0, .ref g), (1, .int (nI 2))]) 48 ?_ ⟨0, v, by omega, hS, vX.rf, fun f' k' h9 => absurd h9 (Nat.not_lt_zero f'), rfl⟩
  clear hS
  rintro n S lv ⟨f, v1, hn9, hS, hX, hst, rfl⟩ ih
  refine r_iload_n F dX12_failsInWords_2 rfl ?_
  refine r_bipush (v := 48) F dX12_failsInWords_3 (by decide) ?_
  rw [show (48 : Int32) = nI 48 from rfl]
  refine r_icmp_ge (tgt := 159) F dX12_failsInWords_5 (by decide) (fun c5 => ?_) (fun c5 => ?_)
  · refine r_iconst (v := 0) F dX12_failsInWords_159 (by decide) ?_
    exact e_zret F hr rfl hlk (Or.inl ⟨rfl, fun f' k' hf' => hst f' k' (by rw [nI_leI (by omega) (by omega)] at c5; omega), _, hS, hX⟩) (by decide) (by decide) dX12_failsInWords_160
  · have hf : f < 48 := by rw [nI_leI (by omega) (by omega)] at c5; omega
    have hlen := rg_1208 hv hf
    have hlen2 := hlen.2
    refine r_aload_n F dX12_failsInWords_8 rfl ?_
    refine r_iload_n F dX12_failsInWords_9 rfl ?_
    refine c_Vi (ci := 12) F G (mm_isThere hS (hX.rg hv) hf) (cwV 1 F.2.2.2.2 (zgV km_X12_195 ki_X12_isThere ke_X12_X12_isThere kn_X12 ko_X12_isThere) rfl rfl rfl ⟨rfl, hd_yX12_isThere⟩ ⟨Nat.le_of_ble_eq_true rfl, Nat.le_of_ble_eq_true rfl⟩) rfl (by decide) hS.al rfl rfl (Nat.le_of_ble_eq_true rfl) dX12_failsInWords_10 ⟨Nat.le_of_ble_eq_true rfl, Nat.le_of_ble_eq_true rfl⟩ (fun r10 S10 h10 => ?_)
    obtain ⟨a10, e10⟩ := h10
    have hs10 := e10.symm
    subst hs10
    rw [hX.c (by omega)] at a10
    refine r_if_ne (tgt := 19) F dX12_failsInWords_13 (by decide) (fun c13 => ?_) (fun c13 => ?_)
    · have ht := a10.t c13
      refine r_sipush (v := 1000) F dX12_failsInWords_19 (by decide) ?_
      refine r_iload_n F dX12_failsInWords_22 rfl ?_
      refine r_bipush (v := 8) F dX12_failsInWords_23 (by decide) ?_
      refine r_idiv F dX12_failsInWords_25 (by decide) ?_
      refine r_imul F dX12_failsInWords_26 ?_
      refine r_bipush (v := 100) F dX12_failsInWords_27 (by decide) ?_
      refine r_iload_n F dX12_failsInWords_29 rfl ?_
      refine r_bipush (v := 8) F dX12_failsInWords_30 (by decide) ?_
      refine r_irem F dX12_failsInWords_32 (by decide) ?_
      refine r_imul F dX12_failsInWords_33 ?_
      refine r_iadd F dX12_failsInWords_34 ?_
      rw [show nI f / 8 = nI (f / 8) by rw [nl8]; exact nI_div (by omega) (by omega), show nI f - nI (f / 8) * 8 = nI (f % 8) by rw [nl8, ← nI_mod (a := f) (b := 8) (by omega) (by omega), nI_div (by omega) (by omega)], show (1000 : Int32) * nI (f / 8) + 100 * nI (f % 8) = (nI (1000 * (f / 8) + 100 * (f % 8))) by rw [show (1000 : Int32) = nI 1000 from rfl, show (100 : Int32) = nI 100 from rfl, nI_mul, nI_mul, nI_add]]
      refine r_istore_n F dX12_failsInWords_35 (by decide) ?_
      refine r_iload_n F dX12_failsInWords_36 rfl ?_
      refine r_iconst (v := 2) F dX12_failsInWords_37 (by decide) ?_
      refine r_icmp_ne (tgt := 63) F dX12_failsInWords_38 (by decide) (fun h9 => absurd rfl h9) (fun _ => ?_)
      refine r_aload_n F dX12_failsInWords_41 rfl ?_
      refine r_iload_n F dX12_failsInWords_42 rfl ?_
      refine c_Vi (ci := 12) F G (mm_wrongPlace hS (hX.rg hv) (hX.A hA) (hX.D hD) hf (fun k hk => by rw [hX.c (by omega)] at hk; rw [hX.egW, hX.c (by omega), hX.1 1210 _ (by omega)]; exact hg.g hf ht hk)) (cwV 1 F.2.2.2.2 (zgV km_X12_198 ki_X12_wrongPlace ke_X12_X12_wrongPlace kn_X12 ko_X12_wrongPlace) rfl rfl rfl ⟨rfl, hd_yX12_wrongPlace⟩ ⟨Nat.le_of_ble_eq_true rfl, Nat.le_of_ble_eq_true rfl⟩) rfl (by decide) hS.al rfl rfl (Nat.le_of_ble_eq_true rfl) dX12_failsInWords_43 ⟨Nat.le_of_ble_eq_true rfl, Nat.le_of_ble_eq_true rfl⟩ (fun r43 S43 h43 => ?_)
      obtain ⟨a43, v2, hS, hX2⟩ := h43
      rw [hX.ewpl] at a43
      subst a43
      have hX := hX.tr hX2
      clear hX2
      have hlt := enc_lt (x := wpl v f) (fun z hz => by have := wpl_le hz; omega)
      refine r_istore F dX12_failsInWords_46 (by decide) ?_
      refine r_iload F dX12_failsInWords_48 rfl ?_
      refine r_if_lt (tgt := 153) F dX12_failsInWords_50 (by decide) (fun c50 => ?_) (fun c50 => ?_)
      · have hwn : wpl v f = none := hlt.mp c50
        have hnb : ∀ k', ¬ bW v 2 f k' := fun k' h9 => by
          have h8 := h9.2
          rw [if_pos rfl] at h8
          rw [hwn] at h8
          cases h8
        refine zsub (lv' := [(2, .int (nI f)), (0, .ref g), (1, .int (nI 2))]) (by simp [zs1, Value.category, show ((1 : Fin 4) : Nat) = 1 from rfl, show ((2 : Fin 4) : Nat) = 2 from rfl, show ((3 : Fin 4) : Nat) = 3 from rfl]) ?_
        refine r_iinc F dX12_failsInWords_153 rfl (by decide) ?_
        refine r_goto (tgt := 2) F dX12_failsInWords_156 (by decide) ?_
        exact ih (n - 1) _ _ (by omega) ⟨f + 1, _, by omega, hS, hX, fun f' k' hf' h9 => by
          rcases Nat.lt_or_ge f' f with h8 | h8
          · exact hst f' k' h8 h9
          · rw [show f' = f by omega] at h9
            exact hnb k' h9, by rw [show nI f + Int32.ofInt 1 = nI (f + 1) from nI_add f 1]; rfl⟩
      · obtain ⟨k, hwk⟩ : ∃ k, wpl v f = some k := by
          cases hz : wpl v f with
          | some z => exact ⟨z, rfl⟩
          | none => exact absurd (hlt.mpr hz) c50
        have hkb := wpl_le hwk
        rw [hwk]
        show zW p l e _ s m args below meth c _ N0 D cy _ _ _ S43 (zs1 _ _ (.int (nI k))) _ _
        refine r_aload_n F dX12_failsInWords_53 rfl ?_
        refine r_iconst (v := 2) F dX12_failsInWords_54 (by decide) ?_
        refine r_iload_n F dX12_failsInWords_55 rfl ?_
        refine r_iload F dX12_failsInWords_56 rfl ?_
        refine r_iadd F dX12_failsInWords_58 ?_
        rw [show nI (1000 * (f / 8) + 100 * (f % 8)) + nI k = nI (plW f k) from nI_add _ _]
        refine c_Vi (ci := 12) F G (mm_fails hS) (cwV 2 F.2.2.2.2 (zgV km_X12_201 ki_X12_fails ke_X12_X12_fails kn_X12 ko_X12_fails) rfl rfl rfl ⟨rfl, hd_yX12_fails⟩ ⟨Nat.le_of_ble_eq_true rfl, Nat.le_of_ble_eq_true rfl⟩) rfl (by decide) hS.al rfl rfl (Nat.le_of_ble_eq_true rfl) dX12_failsInWords_59 ⟨Nat.le_of_ble_eq_true rfl, Nat.le_of_ble_eq_true rfl⟩ (fun r59 S59 h59 => ?_)
        obtain ⟨a59, b59⟩ := h59
        subst a59
        exact e_zret F hr rfl hlk (Or.inr ⟨rfl, f, k, v2, hf, ⟨ht, by rw [if_pos rfl]; exact hwk⟩, hst, fun k' hk' h9 => by have h8 := h9.2; rw [if_pos rfl, hwk] at h8; cases h8; omega, hX, b59⟩) (by decide) (by decide) dX12_failsInWords_62
    · refine r_goto (tgt := 153) F dX12_failsInWords_16 (by decide) ?_
      have hnb : ∀ k', ¬ bW v 2 f k' := fun k' h9 => a10.f c13 h9.1
      refine zsub (lv' := [(2, .int (nI f)), (0, .ref g), (1, .int (nI 2))]) (by simp [zs1, Value.category, show ((1 : Fin 4) : Nat) = 1 from rfl, show ((2 : Fin 4) : Nat) = 2 from rfl, show ((3 : Fin 4) : Nat) = 3 from rfl]) ?_
      refine r_iinc F dX12_failsInWords_153 rfl (by decide) ?_
      refine r_goto (tgt := 2) F dX12_failsInWords_156 (by decide) ?_
      exact ih (n - 1) _ _ (by omega) ⟨f + 1, _, by omega, hS, hX, fun f' k' hf' h9 => by
        rcases Nat.lt_or_ge f' f with h8 | h8
        · exact hst f' k' h8 h9
        · rw [show f' = f by omega] at h9
          exact hnb k' h9, by rw [show nI f + Int32.ofInt 1 = nI (f + 1) from nI_add f 1]; rfl⟩
set_option maxRecDepth 100000 in
set_option maxHeartbeats 4000000 in
theorem mm_fW6 {l : Launch} {N0 t0 : Nat} {D : va_G} {cy : Nat → ClassId} {S : zS} {S0 : zS} {g : Nat} {qa : Nat → Nat} {v : zV} (hS : zmR S0 g qa v S) (hv : vRg v) (hA : vA v) (hD : vD v) (hg : allG v) : zMi l yX12_failsInWords (zws yX12_failsInWords cX12_failsInWords 7 (some .boolean)) { frames := 4, cells := 0, slots := 0, locals := 110 } N0 t0 D cy S [.ref g, .int (nI 6)] (fun r S' => (r = 0 ∧ (∀ f k, f < 48 → ¬ bW v 6 f k) ∧ ∃ v1, zmR S0 g qa v1 S' ∧ vX v v1) ∨ (r = 1 ∧ ∃ f k v1, f < 48 ∧ bW v 6 f k ∧ (∀ f' k', f' < f → ¬ bW v 6 f' k') ∧ (∀ k', k' < k → ¬ bW v 6 f k') ∧ vX v v1 ∧ zmR S0 g qa (u1 (u1 v1 1221 0 (nI 6)) 1220 0 (nI (plW f k))) S')) 0 0 := by
  refine zMi.of (cc := cX12_failsInWords) (maxL := 7) (ret := (some .boolean)) (by decide) rfl (Nat.le_of_ble_eq_true rfl) ?_
  intro p e s m args below meth c F G hr hlk hnm
  refine r_iconst (v := 0) F dX12_failsInWords_0 (by decide) ?_
  refine r_istore_n F dX12_failsInWords_1 (by decide) ?_
  refine z_loop (fun n S9 lv => ∃ f v1, f + n = 48 ∧ zmR S0 g qa v1 S9 ∧ vX v v1 ∧ (∀ f' k', f' < f → ¬ bW v 6 f' k') ∧ lv = [(2, .int (nI f)), (0, .ref g), (1, .int (nI 6))]) 48 ?_ ⟨0, v, by omega, hS, vX.rf, fun f' k' h9 => absurd h9 (Nat.not_lt_zero f'), rfl⟩
  clear hS
  rintro n S lv ⟨f, v1, hn9, hS, hX, hst, rfl⟩ ih
  refine r_iload_n F dX12_failsInWords_2 rfl ?_
  refine r_bipush (v := 48) F dX12_failsInWords_3 (by decide) ?_
  rw [show (48 : Int32) = nI 48 from rfl]
  refine r_icmp_ge (tgt := 159) F dX12_failsInWords_5 (by decide) (fun c5 => ?_) (fun c5 => ?_)
  · refine r_iconst (v := 0) F dX12_failsInWords_159 (by decide) ?_
    exact e_zret F hr rfl hlk (Or.inl ⟨rfl, fun f' k' hf' => hst f' k' (by rw [nI_leI (by omega) (by omega)] at c5; omega), _, hS, hX⟩) (by decide) (by decide) dX12_failsInWords_160
  · have hf : f < 48 := by rw [nI_leI (by omega) (by omega)] at c5; omega
    have hlen := rg_1208 hv hf
    have hlen2 := hlen.2
    refine r_aload_n F dX12_failsInWords_8 rfl ?_
    refine r_iload_n F dX12_failsInWords_9 rfl ?_
    refine c_Vi (ci := 12) F G (mm_isThere hS (hX.rg hv) hf) (cwV 1 F.2.2.2.2 (zgV km_X12_195 ki_X12_isThere ke_X12_X12_isThere kn_X12 ko_X12_isThere) rfl rfl rfl ⟨rfl, hd_yX12_isThere⟩ ⟨Nat.le_of_ble_eq_true rfl, Nat.le_of_ble_eq_true rfl⟩) rfl (by decide) hS.al rfl rfl (Nat.le_of_ble_eq_true rfl) dX12_failsInWords_10 ⟨Nat.le_of_ble_eq_true rfl, Nat.le_of_ble_eq_true rfl⟩ (fun r10 S10 h10 => ?_)
    obtain ⟨a10, e10⟩ := h10
    have hs10 := e10.symm
    subst hs10
    rw [hX.c (by omega)] at a10
    refine r_if_ne (tgt := 19) F dX12_failsInWords_13 (by decide) (fun c13 => ?_) (fun c13 => ?_)
    · have ht := a10.t c13
      refine r_sipush (v := 1000) F dX12_failsInWords_19 (by decide) ?_
      refine r_iload_n F dX12_failsInWords_22 rfl ?_
      refine r_bipush (v := 8) F dX12_failsInWords_23 (by decide) ?_
      refine r_idiv F dX12_failsInWords_25 (by decide) ?_
      refine r_imul F dX12_failsInWords_26 ?_
      refine r_bipush (v := 100) F dX12_failsInWords_27 (by decide) ?_
      refine r_iload_n F dX12_failsInWords_29 rfl ?_
      refine r_bipush (v := 8) F dX12_failsInWords_30 (by decide) ?_
      refine r_irem F dX12_failsInWords_32 (by decide) ?_
      refine r_imul F dX12_failsInWords_33 ?_
      refine r_iadd F dX12_failsInWords_34 ?_
      rw [show nI f / 8 = nI (f / 8) by rw [nl8]; exact nI_div (by omega) (by omega), show nI f - nI (f / 8) * 8 = nI (f % 8) by rw [nl8, ← nI_mod (a := f) (b := 8) (by omega) (by omega), nI_div (by omega) (by omega)], show (1000 : Int32) * nI (f / 8) + 100 * nI (f % 8) = (nI (1000 * (f / 8) + 100 * (f % 8))) by rw [show (1000 : Int32) = nI 1000 from rfl, show (100 : Int32) = nI 100 from rfl, nI_mul, nI_mul, nI_add]]
      refine r_istore_n F dX12_failsInWords_35 (by decide) ?_
      refine r_iload_n F dX12_failsInWords_36 rfl ?_
      refine r_iconst (v := 2) F dX12_failsInWords_37 (by decide) ?_
      refine r_icmp_ne (tgt := 63) F dX12_failsInWords_38 (by decide) (fun _ => ?_) (fun h9 => absurd h9 (by decide))
      refine r_iconst (v := 0) F dX12_failsInWords_63 (by decide) ?_
      refine r_istore F dX12_failsInWords_64 (by decide) ?_
      refine z_loop (fun n2 S9 lv => ∃ k, k + n2 = cn v 1208 f ∧ S = S9 ∧ (∀ k', k' < k → ¬ bW v 6 f k') ∧ lv = [(4, .int (nI k)), (3, .int (nI (1000 * (f / 8) + 100 * (f % 8)))), (2, .int (nI f)), (0, .ref g), (1, .int (nI 6))]) (cn v 1208 f) ?_ ⟨0, by omega, rfl, fun k' h9 => absurd h9 (Nat.not_lt_zero k'), rfl⟩
      rintro n2 S9 lv ⟨k, hn2, rfl, hst2, rfl⟩ ih2
      refine r_iload F dX12_failsInWords_66 rfl ?_
      refine r_aload_n F dX12_failsInWords_68 rfl ?_
      refine gq_words F G hS dX12_failsInWords_69 ?_
      refine r_iload_n F dX12_failsInWords_72 rfl ?_
      refine al_words F G hS (f) rfl hf dX12_failsInWords_73 ?_
      rw [hX.1 1208 f (by omega), hlen.1]
      refine r_icmp_ge (tgt := 153) F dX12_failsInWords_74 (by decide) (fun c74 => ?_) (fun c74 => ?_)
      · have hnb : ∀ k', ¬ bW v 6 f k' := fun k' h9 => by
          have hkl : k = cn v 1208 f := by rw [nI_leI (by omega) (by omega)] at c74; omega
          have h8 := h9.2
          rw [if_neg (by decide)] at h8
          exact hst2 k' (by omega) h9
        refine zsub (lv' := [(2, .int (nI f)), (0, .ref g), (1, .int (nI 6))]) (by simp [zs1, Value.category, show ((1 : Fin 4) : Nat) = 1 from rfl, show ((2 : Fin 4) : Nat) = 2 from rfl, show ((3 : Fin 4) : Nat) = 3 from rfl]) ?_
        refine r_iinc F dX12_failsInWords_153 rfl (by decide) ?_
        refine r_goto (tgt := 2) F dX12_failsInWords_156 (by decide) ?_
        exact ih (n - 1) _ _ (by omega) ⟨f + 1, _, by omega, hS, hX, fun f' k' hf' h9 => by
          rcases Nat.lt_or_ge f' f with h8 | h8
          · exact hst f' k' h8 h9
          · rw [show f' = f by omega] at h9
            exact hnb k' h9, by rw [show nI f + Int32.ofInt 1 = nI (f + 1) from nI_add f 1]; rfl⟩
      · have hk : k < cn v 1208 f := by rw [nI_leI (by omega) (by omega)] at c74; omega
        have hix : 60 * f + k < 2880 := by omega
        have hwd := rg_1209 hv hix
        have hw36 : cn v 1209 (60 * f + k) < 36 := by have := hwd.2; omega
        refine r_aload_n F dX12_failsInWords_77 rfl ?_
        refine gq_word F G hS dX12_failsInWords_78 ?_
        refine r_bipush (v := 60) F dX12_failsInWords_81 (by decide) ?_
        refine r_iload_n F dX12_failsInWords_83 rfl ?_
        refine r_imul F dX12_failsInWords_84 ?_
        refine r_iload F dX12_failsInWords_85 rfl ?_
        refine r_iadd F dX12_failsInWords_87 ?_
        refine al_word F G hS (60 * f + k) (show (60 : Int32) * nI f + nI k = _ by rw [nl60, nI_mul, nI_add]) hix dX12_failsInWords_88 ?_
        rw [hX.1 1209 _ (by omega), hwd.1]
        refine r_istore F dX12_failsInWords_89 (by decide) ?_
        refine r_aload_n F dX12_failsInWords_91 rfl ?_
        refine gq_number F G hS dX12_failsInWords_92 ?_
        refine r_bipush (v := 60) F dX12_failsInWords_95 (by decide) ?_
        refine r_iload_n F dX12_failsInWords_97 rfl ?_
        refine r_imul F dX12_failsInWords_98 ?_
        refine r_iload F dX12_failsInWords_99 rfl ?_
        refine r_iadd F dX12_failsInWords_101 ?_
        refine al_number F G hS (60 * f + k) (show (60 : Int32) * nI f + nI k = _ by rw [nl60, nI_mul, nI_add]) hix dX12_failsInWords_102 ?_
        rw [hX.1 1210 _ (by omega)]
        refine r_istore F dX12_failsInWords_103 (by decide) ?_
        refine r_iload_n F dX12_failsInWords_105 rfl ?_
        refine r_iconst (v := 1) F dX12_failsInWords_106 (by decide) ?_
        refine r_icmp_ne (tgt := 125) F dX12_failsInWords_107 (by decide) (fun _ => ?_) (fun h9 => absurd h9 (by decide))
        refine r_aload_n F dX12_failsInWords_125 rfl ?_
        refine r_iload_n F dX12_failsInWords_126 rfl ?_
        refine r_iload F dX12_failsInWords_127 rfl ?_
        refine r_iload F dX12_failsInWords_129 rfl ?_
        refine c_Vi (ci := 12) F G (mm_isWrongCall hS (hX.rg hv) (hX.A hA) (hX.D hD) hf hw36 (fun h9 => by obtain ⟨j, q1, q2, _⟩ := (hg.g hf ht hk).2.2.2.2.1 (Or.inl h9); exact ⟨j, q2, by rw [hX.c (by omega)]; exact q1⟩)) (cwV 3 F.2.2.2.2 (zgV km_X12_207 ki_X12_isWrongCall ke_X12_X12_isWrongCall kn_X12 ko_X12_isWrongCall) rfl rfl rfl ⟨rfl, hd_yX12_isWrongCall⟩ ⟨Nat.le_of_ble_eq_true rfl, Nat.le_of_ble_eq_true rfl⟩) rfl (by decide) hS.al rfl rfl (Nat.le_of_ble_eq_true rfl) dX12_failsInWords_131 ⟨Nat.le_of_ble_eq_true rfl, Nat.le_of_ble_eq_true rfl⟩ (fun r131 S131 h131 => ?_)
        obtain ⟨a131, e131⟩ := h131
        have hs131 := e131.symm
        subst hs131
        rw [show wC v1 f (cn v 1209 (60 * f + k)) (v.1 1210 (60 * f + k)) = wC v f (cn v 1209 (60 * f + k)) (v.1 1210 (60 * f + k)) from hX.ewC _ _ _] at a131
        refine r_if_eq (tgt := 147) F dX12_failsInWords_134 (by decide) (fun c134 => ?_) (fun c134 => ?_)
        · have hnb : ¬ bW v 6 f k := fun h9 => by have h8 := h9.2; rw [if_neg (by decide)] at h8; have h7 := h8.2; rw [if_neg (by decide)] at h7; exact a131.f c134 h7
          refine r_iinc F dX12_failsInWords_147 rfl (by decide) ?_
          refine r_goto (tgt := 66) F dX12_failsInWords_150 (by decide) ?_
          refine zsub (lv' := [(4, .int (nI (k + 1))), (3, .int (nI (1000 * (f / 8) + 100 * (f % 8)))), (2, .int (nI f)), (0, .ref g), (1, .int (nI 6))]) (by rw [show nI (k + 1) = nI k + Int32.ofInt 1 from (nI_add k 1).symm]; simp [zs1, Value.category, show ((1 : Fin 4) : Nat) = 1 from rfl, show ((2 : Fin 4) : Nat) = 2 from rfl, show ((3 : Fin 4) : Nat) = 3 from rfl]) ?_
          exact ih2 (n2 - 1) _ _ (by omega) ⟨k + 1, by omega, rfl, fun k' hk' h9 => by
            rcases Nat.lt_or_ge k' k with h8 | h8
            · exact hst2 k' h8 h9
            · rw [show k' = k by omega] at h9
              exact hnb h9, rfl⟩
        · refine r_aload_n F dX12_failsInWords_137 rfl ?_
          refine r_iload_n F dX12_failsInWords_138 rfl ?_
          refine r_iload_n F dX12_failsInWords_139 rfl ?_
          refine r_iload F dX12_failsInWords_140 rfl ?_
          refine r_iadd F dX12_failsInWords_142 ?_
          rw [show nI (1000 * (f / 8) + 100 * (f % 8)) + nI k = nI (plW f k) from nI_add _ _]
          refine c_Vi (ci := 12) F G (mm_fails hS) (cwV 2 F.2.2.2.2 (zgV km_X12_201 ki_X12_fails ke_X12_X12_fails kn_X12 ko_X12_fails) rfl rfl rfl ⟨rfl, hd_yX12_fails⟩ ⟨Nat.le_of_ble_eq_true rfl, Nat.le_of_ble_eq_true rfl⟩) rfl (by decide) hS.al rfl rfl (Nat.le_of_ble_eq_true rfl) dX12_failsInWords_143 ⟨Nat.le_of_ble_eq_true rfl, Nat.le_of_ble_eq_true rfl⟩ (fun r143 S143 h143 => ?_)
          obtain ⟨a143, b143⟩ := h143
          subst a143
          exact e_zret F hr rfl hlk (Or.inr ⟨rfl, f, k, v1, hf, ⟨ht, by rw [if_neg (by decide)]; exact ⟨hk, by rw [if_neg (by decide)]; exact a131.t c134⟩⟩, hst, hst2, hX, b143⟩) (by decide) (by decide) dX12_failsInWords_146
    · refine r_goto (tgt := 153) F dX12_failsInWords_16 (by decide) ?_
      have hnb : ∀ k', ¬ bW v 6 f k' := fun k' h9 => a10.f c13 h9.1
      refine zsub (lv' := [(2, .int (nI f)), (0, .ref g), (1, .int (nI 6))]) (by simp [zs1, Value.category, show ((1 : Fin 4) : Nat) = 1 from rfl, show ((2 : Fin 4) : Nat) = 2 from rfl, show ((3 : Fin 4) : Nat) = 3 from rfl]) ?_
      refine r_iinc F dX12_failsInWords_153 rfl (by decide) ?_
      refine r_goto (tgt := 2) F dX12_failsInWords_156 (by decide) ?_
      exact ih (n - 1) _ _ (by omega) ⟨f + 1, _, by omega, hS, hX, fun f' k' hf' h9 => by
        rcases Nat.lt_or_ge f' f with h8 | h8
        · exact hst f' k' h8 h9
        · rw [show f' = f by omega] at h9
          exact hnb k' h9, by rw [show nI f + Int32.ofInt 1 = nI (f + 1) from nI_add f 1]; rfl⟩
