/-- where behind stops -/
def bhT (v : zV) (f p : Nat) (o3 : Int32) (e9 : Nat) : Prop := p < e9 ∧ e9 < cn v 1208 f ∧ (kn (kq v f e9) = kn (kq v f p) + 1 ∧ (kw v f e9 = 27 ∨ (¬ o3 = 0 ∧ kw v f e9 = 26))) ∧ (∀ j, p < j → j < e9 → ¬ (kn (kq v f j) = kn (kq v f p) + 1 ∧ (kw v f j = 27 ∨ (¬ o3 = 0 ∧ kw v f j = 26)))) ∧ ∀ j, p < j → j ≤ e9 → kn (kq v f p) + 1 ≤ kn (kq v f j)
theorem bhT.e {v : zV} {f p e : Nat} (h : cOK v f) (hc : kCl v f p e) : bhT v f p 0 e := by
  refine ⟨hc.1, hc.2.1, ⟨hc.2.2.2.1, Or.inl hc.2.2.1⟩, fun j j1 j2 h9 => ?_, fun j j1 j2 => (hc.2.2.2.2.2.2.2.2.2.2.2.1 j j1 j2).1⟩
  rcases h9.2 with h8 | h8
  · have hcj := (kCl_of h (by have := hc.2.1; omega) h8).2
    have ho := (hc.2.2.2.2.2.2.2.2.2.2.2.1 j j1 (by omega)).2
    rw [show kn (kq v f j) - 1 = kn (kq v f p) by have := h9.1; omega, ho] at hcj
    have := hc.eq h hcj
    omega
  · exact h8.1 rfl
theorem bhT.x {v : zV} {f p e : Nat} (h : cOK v f) (hc : kCl v f p e) : bhT v f p 1 (match ke (kq v f e) (kn (kq v f p)) with | some x => x | none => e) := by
  have hn27 : ∀ j, p < j → j < e → kn (kq v f j) = kn (kq v f p) + 1 → ¬ kw v f j = 27 := fun j j1 j2 h1 h8 => by
    have hcj := (kCl_of h (by have := hc.2.1; omega) h8).2
    have ho := (hc.2.2.2.2.2.2.2.2.2.2.2.1 j j1 (by omega)).2
    rw [show kn (kq v f j) - 1 = kn (kq v f p) by omega, ho] at hcj
    have := hc.eq h hcj
    omega
  cases hx : ke (kq v f e) (kn (kq v f p)) with
  | none =>
    show bhT v f p 1 e
    refine ⟨hc.1, hc.2.1, ⟨hc.2.2.2.1, Or.inl hc.2.2.1⟩, fun j j1 j2 h9 => ?_, fun j j1 j2 => (hc.2.2.2.2.2.2.2.2.2.2.2.1 j j1 j2).1⟩
    rcases h9.2 with h8 | h8
    · exact hn27 j j1 j2 h9.1 h8
    · exact hc.2.2.2.2.2.2.2.2.2.2.2.2.1 hx j j1 j2 ⟨h8.2, h9.1⟩
  | some x =>
    show bhT v f p 1 x
    obtain ⟨x1, x2, x3, x4, x5⟩ := hc.2.2.2.2.2.2.2.2.2.2.2.2.2 x hx
    refine ⟨x1, by have := hc.2.1; omega, ⟨x4, Or.inr ⟨by decide, x3⟩⟩, fun j j1 j2 h9 => ?_, fun j j1 j2 => (hc.2.2.2.2.2.2.2.2.2.2.2.1 j j1 (by omega)).1⟩
    rcases h9.2 with h8 | h8
    · exact hn27 j j1 (by omega) h9.1 h8
    · exact x5 j j1 j2 ⟨h8.2, h9.1⟩
set_option maxRecDepth 100000 in
set_option maxHeartbeats 4000000 in
theorem mm_behind {l : Launch} {N0 t0 : Nat} {D : va_G} {cy : Nat → ClassId} {S : zS} {S0 : zS} {g : Nat} {qa : Nat → Nat} {v : zV} (hS : zmR S0 g qa v S) {f p9 e9 : Nat} {o3 : Int32} (hv : vRg v) (hf : f < 48) (h : cOK v f) (hT : bhT v f p9 o3 e9) : zMi l yX12_behind (zws yX12_behind cX12_behind 7 (some .int)) { frames := 0, cells := 0, slots := 0, locals := 0 } N0 t0 D cy S [.ref g, .int (nI f), .int (nI p9), .int o3] (fun r S' => r = nI e9 ∧ S' = S) 0 0 := by
  refine zMi.of (cc := cX12_behind) (maxL := 7) (ret := (some .int)) (by decide) rfl (Nat.le_of_ble_eq_true rfl) ?_
  intro p e s m args below meth c F G hr hlk hnm
  obtain ⟨t1, t2, t3, t4, t5⟩ := hT
  have h60 := rg_1208 hv hf
  have h602 := h60.2
  have hkn := fun k hk => (kOpn_all h k hk).1
  have hkI : ∀ k, k ≤ cn v 1208 f → kn (kq v f k) ≤ k + 1 := fun k => by
    induction k with
    | zero => intro _; exact Nat.le_refl _
    | succ k ih =>
      intro hk
      have h1 := (kq_1 h (show k < cn v 1208 f by omega)).n
      have h2 := ih (by omega)
      by_cases c1 : 23 ≤ kw v f k ∧ kw v f k ≤ 25
      · have := h1.1 c1; omega
      · by_cases c2 : kw v f k = 27
        · have := (h1.2.1 c2).2; omega
        · have := h1.2.2 c1 c2; omega
  refine r_iconst (v := 0) F dX12_behind_0 (by decide) ?_
  refine r_istore F dX12_behind_1 (by decide) ?_
  refine r_iload_n F dX12_behind_3 rfl ?_
  refine r_iconst (v := 1) F dX12_behind_4 (by decide) ?_
  refine r_iadd F dX12_behind_5 ?_
  refine r_istore F dX12_behind_6 (by decide) ?_
  rw [show nI p9 + 1 = nI (p9 + 1) from nI_add p9 1]
  have hst : kn (kq v f (p9 + 1)) = kn (kq v f p9) + 1 := by
    have h1 := t5 (p9 + 1) (by omega) (by omega)
    have h2 := (kq_1 h (show p9 < cn v 1208 f by omega)).n
    by_cases c1 : 23 ≤ kw v f p9 ∧ kw v f p9 ≤ 25
    · exact h2.1 c1
    · by_cases c2 : kw v f p9 = 27
      · have := (h2.2.1 c2).2; omega
      · have := h2.2.2 c1 c2; omega
  refine zsub (lv' := [(4, .int (nI 0)), (5, .int (nI (p9 + 1))), (0, .ref g), (1, .int (nI f)), (2, .int (nI p9)), (3, .int o3)]) (by simp [zs1, lv_args, Value.category, show ((1 : Fin 4) : Nat) = 1 from rfl, show ((2 : Fin 4) : Nat) = 2 from rfl, show ((3 : Fin 4) : Nat) = 3 from rfl, show nI 0 = (0 : Int32) from rfl]) ?_
  refine z_loop (fun n S9 lv => ∃ k, k + n = e9 ∧ p9 < k ∧ S = S9 ∧ lv = [(4, .int (nI (kn (kq v f k) - (kn (kq v f p9) + 1)))), (5, .int (nI k)), (0, .ref g), (1, .int (nI f)), (2, .int (nI p9)), (3, .int o3)]) (e9 - (p9 + 1)) ?_ ⟨p9 + 1, by omega, by omega, rfl, by rw [hst, Nat.sub_self]⟩
  rintro n S9 lv ⟨k, hkn9, hpk, rfl, rfl⟩ ih
  have hq1 := (kq_1 h (show k < cn v 1208 f by omega)).n
  have hk5 := t5 k hpk (by omega)
  have hwr := rg_1209 hv (k := 60 * f + k) (by omega)
  have hwr1 : v.1 1209 (60 * f + k) = nI (kw v f k) := hwr.1
  have hwr2 : kw v f k ≤ 35 := hwr.2
  have hb61 := hkI k (by omega)
  refine r_iload F dX12_behind_8 rfl ?_
  refine r_aload_n F dX12_behind_10 rfl ?_
  refine gq_words F G hS dX12_behind_11 ?_
  refine r_iload_n F dX12_behind_14 rfl ?_
  refine al_words F G hS (f) rfl hf dX12_behind_15 ?_
  rw [h60.1]
  refine r_icmp_ge (tgt := 92) F dX12_behind_16 (by decide) (fun h9 => absurd h9 (by rw [nI_leI (by omega) (by omega)]; omega)) (fun _ => ?_)
  refine r_aload_n F dX12_behind_19 rfl ?_
  refine gq_word F G hS dX12_behind_20 ?_
  refine r_bipush (v := 60) F dX12_behind_23 (by decide) ?_
  refine r_iload_n F dX12_behind_25 rfl ?_
  refine r_imul F dX12_behind_26 ?_
  refine r_iload F dX12_behind_27 rfl ?_
  refine r_iadd F dX12_behind_29 ?_
  refine al_word F G hS (60 * f + k) (by rw [show (60 : Int32) = nI 60 from rfl, nI_mul, nI_add]) (by omega) dX12_behind_30 ?_
  rw [hwr1]
  refine r_istore F dX12_behind_31 (by decide) ?_
  refine r_iload F dX12_behind_33 rfl ?_
  refine r_bipush (v := 23) F dX12_behind_35 (by decide) ?_
  rw [show (23 : Int32) = nI 23 from rfl]
  refine r_icmp_lt (tgt := 50) F dX12_behind_37 (by decide) (fun c37 => ?_) (fun c37 => ?_)
  · refine r_iload F dX12_behind_50 rfl ?_
    refine r_if_ne (tgt := 76) F dX12_behind_52 (by decide) (fun c52 => ?_) (fun c52 => ?_)
    · refine r_iload F dX12_behind_76 rfl ?_
      refine r_bipush (v := 27) F dX12_behind_78 (by decide) ?_
      refine r_icmp_ne (tgt := 86) F dX12_behind_80 (by decide) (fun c80 => ?_) (fun c80 => ?_)
      · have hwi : ∀ a, a < 100 → (nI (kw v f k) = nI a ↔ kw v f k = a) := fun a ha => nI_eq (by omega) (by omega)
        have hn27 : ¬ kw v f k = 27 := fun h9 => c80 ((hwi 27 (by omega)).mpr h9)
        have hnop : ¬ (23 ≤ kw v f k ∧ kw v f k ≤ 25) := by have c8 := c37; rw [nI_ltI (by omega) (by omega)] at c8; omega
        have hk1 : k < e9 := by
          rcases Nat.lt_or_ge k e9 with h9 | h9
          · exact h9
          · exact absurd (show nI (kn (kq v f k) - (kn (kq v f p9) + 1)) = 0 by rw [show (kn (kq v f k) - (kn (kq v f p9) + 1)) = 0 by have := t3.1; rw [show e9 = k by omega] at this; omega]; rfl) c52
        have ed : (kn (kq v f (k + 1)) - (kn (kq v f p9) + 1)) = (kn (kq v f k) - (kn (kq v f p9) + 1)) := by rw [hq1.2.2 hnop hn27]
        refine r_iinc F dX12_behind_86 rfl (by decide) ?_
        refine r_goto (tgt := 8) F dX12_behind_89 (by decide) ?_
        refine zsub (lv' := [(4, .int (nI (kn (kq v f (k + 1)) - (kn (kq v f p9) + 1)))), (5, .int (nI (k + 1))), (0, .ref g), (1, .int (nI f)), (2, .int (nI p9)), (3, .int o3)]) (by rw [show nI (k + 1) = nI k + Int32.ofInt 1 from (nI_add k 1).symm]; rw [ed]; simp [zs1, lv_args, Value.category, show ((1 : Fin 4) : Nat) = 1 from rfl, show ((2 : Fin 4) : Nat) = 2 from rfl, show ((3 : Fin 4) : Nat) = 3 from rfl, show nI 0 = (0 : Int32) from rfl]) ?_
        exact ih (n - 1) _ _ (by omega) ⟨k + 1, by omega, by omega, rfl, rfl⟩
      · refine r_iinc F dX12_behind_83 rfl (by decide) ?_
        have hwi : ∀ a, a < 100 → (nI (kw v f k) = nI a ↔ kw v f k = a) := fun a ha => nI_eq (by omega) (by omega)
        have hw27 : kw v f k = 27 := (hwi 27 (by omega)).mp c80
        have hk1 : k < e9 ∧ ¬ (kn (kq v f k) - (kn (kq v f p9) + 1)) = 0 := by
          have hd : ¬ (kn (kq v f k) - (kn (kq v f p9) + 1)) = 0 := fun h9 => c52 (by rw [h9]; rfl)
          refine ⟨?_, hd⟩
          rcases Nat.lt_or_ge k e9 with h9 | h9
          · exact h9
          · have := t3.1; rw [show e9 = k by omega] at this; omega
        have ed : nI (kn (kq v f k) - (kn (kq v f p9) + 1)) + Int32.ofInt (-1) = nI (kn (kq v f (k + 1)) - (kn (kq v f p9) + 1)) := by
          rw [show nI (kn (kq v f k) - (kn (kq v f p9) + 1)) + Int32.ofInt (-1) = nI (kn (kq v f k) - (kn (kq v f p9) + 1)) - 1 from (Int32.sub_eq_add_neg _ 1).symm, nl1, nI_sub (by omega), (hq1.2.1 hw27).2]
          congr 1
          omega
        refine r_iinc F dX12_behind_86 rfl (by decide) ?_
        refine r_goto (tgt := 8) F dX12_behind_89 (by decide) ?_
        refine zsub (lv' := [(4, .int (nI (kn (kq v f (k + 1)) - (kn (kq v f p9) + 1)))), (5, .int (nI (k + 1))), (0, .ref g), (1, .int (nI f)), (2, .int (nI p9)), (3, .int o3)]) (by rw [show nI (k + 1) = nI k + Int32.ofInt 1 from (nI_add k 1).symm]; rw [← ed]; simp [zs1, lv_args, Value.category, show ((1 : Fin 4) : Nat) = 1 from rfl, show ((2 : Fin 4) : Nat) = 2 from rfl, show ((3 : Fin 4) : Nat) = 3 from rfl, show nI 0 = (0 : Int32) from rfl]) ?_
        exact ih (n - 1) _ _ (by omega) ⟨k + 1, by omega, by omega, rfl, rfl⟩
    · refine r_iload F dX12_behind_55 rfl ?_
      refine r_bipush (v := 27) F dX12_behind_57 (by decide) ?_
      refine r_icmp_eq (tgt := 73) F dX12_behind_59 (by decide) (fun c59 => ?_) (fun c59 => ?_)
      · refine r_iload F dX12_behind_73 rfl ?_
        have hwi : ∀ a, a < 100 → (nI (kw v f k) = nI a ↔ kw v f k = a) := fun a ha => nI_eq (by omega) (by omega)
        have hd0 : (kn (kq v f k) - (kn (kq v f p9) + 1)) = 0 := by have c9 := c52; rw [nl0, nI_eq (by omega) (by omega)] at c9; exact c9
        have hke : k = e9 := by
          rcases Nat.lt_or_ge k e9 with h9 | h9
          · exact absurd ⟨by omega, Or.inl ((hwi 27 (by omega)).mp c59)⟩ (t4 k hpk h9)
          · omega
        subst hke
        exact e_iret F hr hlk ⟨rfl, rfl⟩ (by decide) (by decide) dX12_behind_75
      · refine r_iload_n F dX12_behind_62 rfl ?_
        refine r_if_eq (tgt := 76) F dX12_behind_63 (by decide) (fun c63 => ?_) (fun c63 => ?_)
        · refine r_iload F dX12_behind_76 rfl ?_
          refine r_bipush (v := 27) F dX12_behind_78 (by decide) ?_
          refine r_icmp_ne (tgt := 86) F dX12_behind_80 (by decide) (fun c80 => ?_) (fun c80 => ?_)
          · have hwi : ∀ a, a < 100 → (nI (kw v f k) = nI a ↔ kw v f k = a) := fun a ha => nI_eq (by omega) (by omega)
            have hn27 : ¬ kw v f k = 27 := fun h9 => c80 ((hwi 27 (by omega)).mpr h9)
            have hnop : ¬ (23 ≤ kw v f k ∧ kw v f k ≤ 25) := by have c8 := c37; rw [nI_ltI (by omega) (by omega)] at c8; omega
            have hk1 : k < e9 := by
              rcases Nat.lt_or_ge k e9 with h9 | h9
              · exact h9
              · exfalso
                have h8 := t3.2
                rw [show e9 = k by omega] at h8
                rcases h8 with h8 | h8
                · exact hn27 h8
                · exact h8.1 c63
            have ed : (kn (kq v f (k + 1)) - (kn (kq v f p9) + 1)) = (kn (kq v f k) - (kn (kq v f p9) + 1)) := by rw [hq1.2.2 hnop hn27]
            refine r_iinc F dX12_behind_86 rfl (by decide) ?_
            refine r_goto (tgt := 8) F dX12_behind_89 (by decide) ?_
            refine zsub (lv' := [(4, .int (nI (kn (kq v f (k + 1)) - (kn (kq v f p9) + 1)))), (5, .int (nI (k + 1))), (0, .ref g), (1, .int (nI f)), (2, .int (nI p9)), (3, .int o3)]) (by rw [show nI (k + 1) = nI k + Int32.ofInt 1 from (nI_add k 1).symm]; rw [ed]; simp [zs1, lv_args, Value.category, show ((1 : Fin 4) : Nat) = 1 from rfl, show ((2 : Fin 4) : Nat) = 2 from rfl, show ((3 : Fin 4) : Nat) = 3 from rfl, show nI 0 = (0 : Int32) from rfl]) ?_
            exact ih (n - 1) _ _ (by omega) ⟨k + 1, by omega, by omega, rfl, rfl⟩
          · refine r_iinc F dX12_behind_83 rfl (by decide) ?_
            have hwi : ∀ a, a < 100 → (nI (kw v f k) = nI a ↔ kw v f k = a) := fun a ha => nI_eq (by omega) (by omega)
            have hw27 : kw v f k = 27 := (hwi 27 (by omega)).mp c80
            have hk1 : k < e9 ∧ ¬ (kn (kq v f k) - (kn (kq v f p9) + 1)) = 0 := by
              have hd : ¬ (kn (kq v f k) - (kn (kq v f p9) + 1)) = 0 := fun h9 => absurd ((hwi 27 (by omega)).mpr hw27) c59
              refine ⟨?_, hd⟩
              rcases Nat.lt_or_ge k e9 with h9 | h9
              · exact h9
              · have := t3.1; rw [show e9 = k by omega] at this; omega
            have ed : nI (kn (kq v f k) - (kn (kq v f p9) + 1)) + Int32.ofInt (-1) = nI (kn (kq v f (k + 1)) - (kn (kq v f p9) + 1)) := by
              rw [show nI (kn (kq v f k) - (kn (kq v f p9) + 1)) + Int32.ofInt (-1) = nI (kn (kq v f k) - (kn (kq v f p9) + 1)) - 1 from (Int32.sub_eq_add_neg _ 1).symm, nl1, nI_sub (by omega), (hq1.2.1 hw27).2]
              congr 1
              omega
            refine r_iinc F dX12_behind_86 rfl (by decide) ?_
            refine r_goto (tgt := 8) F dX12_behind_89 (by decide) ?_
            refine zsub (lv' := [(4, .int (nI (kn (kq v f (k + 1)) - (kn (kq v f p9) + 1)))), (5, .int (nI (k + 1))), (0, .ref g), (1, .int (nI f)), (2, .int (nI p9)), (3, .int o3)]) (by rw [show nI (k + 1) = nI k + Int32.ofInt 1 from (nI_add k 1).symm]; rw [← ed]; simp [zs1, lv_args, Value.category, show ((1 : Fin 4) : Nat) = 1 from rfl, show ((2 : Fin 4) : Nat) = 2 from rfl, show ((3 : Fin 4) : Nat) = 3 from rfl, show nI 0 = (0 : Int32) from rfl]) ?_
            exact ih (n - 1) _ _ (by omega) ⟨k + 1, by omega, by omega, rfl, rfl⟩
        · refine r_iload F dX12_behind_66 rfl ?_
          refine r_bipush (v := 26) F dX12_behind_68 (by decide) ?_
          refine r_icmp_ne (tgt := 76) F dX12_behind_70 (by decide) (fun c70 => ?_) (fun c70 => ?_)
          · refine r_iload F dX12_behind_76 rfl ?_
            refine r_bipush (v := 27) F dX12_behind_78 (by decide) ?_
            refine r_icmp_ne (tgt := 86) F dX12_behind_80 (by decide) (fun c80 => ?_) (fun c80 => ?_)
            · have hwi : ∀ a, a < 100 → (nI (kw v f k) = nI a ↔ kw v f k = a) := fun a ha => nI_eq (by omega) (by omega)
              have hn27 : ¬ kw v f k = 27 := fun h9 => c80 ((hwi 27 (by omega)).mpr h9)
              have hnop : ¬ (23 ≤ kw v f k ∧ kw v f k ≤ 25) := by have c8 := c37; rw [nI_ltI (by omega) (by omega)] at c8; omega
              have hk1 : k < e9 := by
                rcases Nat.lt_or_ge k e9 with h9 | h9
                · exact h9
                · exfalso
                  have h8 := t3.2
                  rw [show e9 = k by omega] at h8
                  rcases h8 with h8 | h8
                  · exact hn27 h8
                  · exact c70 ((hwi 26 (by omega)).mpr h8.2)
              have ed : (kn (kq v f (k + 1)) - (kn (kq v f p9) + 1)) = (kn (kq v f k) - (kn (kq v f p9) + 1)) := by rw [hq1.2.2 hnop hn27]
              refine r_iinc F dX12_behind_86 rfl (by decide) ?_
              refine r_goto (tgt := 8) F dX12_behind_89 (by decide) ?_
              refine zsub (lv' := [(4, .int (nI (kn (kq v f (k + 1)) - (kn (kq v f p9) + 1)))), (5, .int (nI (k + 1))), (0, .ref g), (1, .int (nI f)), (2, .int (nI p9)), (3, .int o3)]) (by rw [show nI (k + 1) = nI k + Int32.ofInt 1 from (nI_add k 1).symm]; rw [ed]; simp [zs1, lv_args, Value.category, show ((1 : Fin 4) : Nat) = 1 from rfl, show ((2 : Fin 4) : Nat) = 2 from rfl, show ((3 : Fin 4) : Nat) = 3 from rfl, show nI 0 = (0 : Int32) from rfl]) ?_
              exact ih (n - 1) _ _ (by omega) ⟨k + 1, by omega, by omega, rfl, rfl⟩
            · refine r_iinc F dX12_behind_83 rfl (by decide) ?_
              have hwi : ∀ a, a < 100 → (nI (kw v f k) = nI a ↔ kw v f k = a) := fun a ha => nI_eq (by omega) (by omega)
              have hw27 : kw v f k = 27 := (hwi 27 (by omega)).mp c80
              have hk1 : k < e9 ∧ ¬ (kn (kq v f k) - (kn (kq v f p9) + 1)) = 0 := by
                have hd : ¬ (kn (kq v f k) - (kn (kq v f p9) + 1)) = 0 := fun h9 => absurd ((hwi 27 (by omega)).mpr hw27) c59
                refine ⟨?_, hd⟩
                rcases Nat.lt_or_ge k e9 with h9 | h9
                · exact h9
                · have := t3.1; rw [show e9 = k by omega] at this; omega
              have ed : nI (kn (kq v f k) - (kn (kq v f p9) + 1)) + Int32.ofInt (-1) = nI (kn (kq v f (k + 1)) - (kn (kq v f p9) + 1)) := by
                rw [show nI (kn (kq v f k) - (kn (kq v f p9) + 1)) + Int32.ofInt (-1) = nI (kn (kq v f k) - (kn (kq v f p9) + 1)) - 1 from (Int32.sub_eq_add_neg _ 1).symm, nl1, nI_sub (by omega), (hq1.2.1 hw27).2]
                congr 1
                omega
              refine r_iinc F dX12_behind_86 rfl (by decide) ?_
              refine r_goto (tgt := 8) F dX12_behind_89 (by decide) ?_
              refine zsub (lv' := [(4, .int (nI (kn (kq v f (k + 1)) - (kn (kq v f p9) + 1)))), (5, .int (nI (k + 1))), (0, .ref g), (1, .int (nI f)), (2, .int (nI p9)), (3, .int o3)]) (by rw [show nI (k + 1) = nI k + Int32.ofInt 1 from (nI_add k 1).symm]; rw [← ed]; simp [zs1, lv_args, Value.category, show ((1 : Fin 4) : Nat) = 1 from rfl, show ((2 : Fin 4) : Nat) = 2 from rfl, show ((3 : Fin 4) : Nat) = 3 from rfl, show nI 0 = (0 : Int32) from rfl]) ?_
              exact ih (n - 1) _ _ (by omega) ⟨k + 1, by omega, by omega, rfl, rfl⟩
          · refine r_iload F dX12_behind_73 rfl ?_
            have hwi : ∀ a, a < 100 → (nI (kw v f k) = nI a ↔ kw v f k = a) := fun a ha => nI_eq (by omega) (by omega)
            have hd0 : (kn (kq v f k) - (kn (kq v f p9) + 1)) = 0 := by have c9 := c52; rw [nl0, nI_eq (by omega) (by omega)] at c9; exact c9
            have hke : k = e9 := by
              rcases Nat.lt_or_ge k e9 with h9 | h9
              · exact absurd ⟨by omega, Or.inr ⟨c63, (hwi 26 (by omega)).mp c70⟩⟩ (t4 k hpk h9)
              · omega
            subst hke
            exact e_iret F hr hlk ⟨rfl, rfl⟩ (by decide) (by decide) dX12_behind_75
  · refine r_iload F dX12_behind_40 rfl ?_
    refine r_bipush (v := 25) F dX12_behind_42 (by decide) ?_
    rw [show (25 : Int32) = nI 25 from rfl]
    refine r_icmp_gt (tgt := 50) F dX12_behind_44 (by decide) (fun c44 => ?_) (fun c44 => ?_)
    · refine r_iload F dX12_behind_50 rfl ?_
      refine r_if_ne (tgt := 76) F dX12_behind_52 (by decide) (fun c52 => ?_) (fun c52 => ?_)
      · refine r_iload F dX12_behind_76 rfl ?_
        refine r_bipush (v := 27) F dX12_behind_78 (by decide) ?_
        refine r_icmp_ne (tgt := 86) F dX12_behind_80 (by decide) (fun c80 => ?_) (fun c80 => ?_)
        · have hwi : ∀ a, a < 100 → (nI (kw v f k) = nI a ↔ kw v f k = a) := fun a ha => nI_eq (by omega) (by omega)
          have hn27 : ¬ kw v f k = 27 := fun h9 => c80 ((hwi 27 (by omega)).mpr h9)
          have hnop : ¬ (23 ≤ kw v f k ∧ kw v f k ≤ 25) := by have c8 := c44; rw [nI_ltI (by omega) (by omega)] at c8; omega
          have hk1 : k < e9 := by
            rcases Nat.lt_or_ge k e9 with h9 | h9
            · exact h9
            · exact absurd (show nI (kn (kq v f k) - (kn (kq v f p9) + 1)) = 0 by rw [show (kn (kq v f k) - (kn (kq v f p9) + 1)) = 0 by have := t3.1; rw [show e9 = k by omega] at this; omega]; rfl) c52
          have ed : (kn (kq v f (k + 1)) - (kn (kq v f p9) + 1)) = (kn (kq v f k) - (kn (kq v f p9) + 1)) := by rw [hq1.2.2 hnop hn27]
          refine r_iinc F dX12_behind_86 rfl (by decide) ?_
          refine r_goto (tgt := 8) F dX12_behind_89 (by decide) ?_
          refine zsub (lv' := [(4, .int (nI (kn (kq v f (k + 1)) - (kn (kq v f p9) + 1)))), (5, .int (nI (k + 1))), (0, .ref g), (1, .int (nI f)), (2, .int (nI p9)), (3, .int o3)]) (by rw [show nI (k + 1) = nI k + Int32.ofInt 1 from (nI_add k 1).symm]; rw [ed]; simp [zs1, lv_args, Value.category, show ((1 : Fin 4) : Nat) = 1 from rfl, show ((2 : Fin 4) : Nat) = 2 from rfl, show ((3 : Fin 4) : Nat) = 3 from rfl, show nI 0 = (0 : Int32) from rfl]) ?_
          exact ih (n - 1) _ _ (by omega) ⟨k + 1, by omega, by omega, rfl, rfl⟩
        · refine r_iinc F dX12_behind_83 rfl (by decide) ?_
          have hwi : ∀ a, a < 100 → (nI (kw v f k) = nI a ↔ kw v f k = a) := fun a ha => nI_eq (by omega) (by omega)
          have hw27 : kw v f k = 27 := (hwi 27 (by omega)).mp c80
          have hk1 : k < e9 ∧ ¬ (kn (kq v f k) - (kn (kq v f p9) + 1)) = 0 := by
            have hd : ¬ (kn (kq v f k) - (kn (kq v f p9) + 1)) = 0 := fun h9 => c52 (by rw [h9]; rfl)
            refine ⟨?_, hd⟩
            rcases Nat.lt_or_ge k e9 with h9 | h9
            · exact h9
            · have := t3.1; rw [show e9 = k by omega] at this; omega
          have ed : nI (kn (kq v f k) - (kn (kq v f p9) + 1)) + Int32.ofInt (-1) = nI (kn (kq v f (k + 1)) - (kn (kq v f p9) + 1)) := by
            rw [show nI (kn (kq v f k) - (kn (kq v f p9) + 1)) + Int32.ofInt (-1) = nI (kn (kq v f k) - (kn (kq v f p9) + 1)) - 1 from (Int32.sub_eq_add_neg _ 1).symm, nl1, nI_sub (by omega), (hq1.2.1 hw27).2]
            congr 1
            omega
          refine r_iinc F dX12_behind_86 rfl (by decide) ?_
          refine r_goto (tgt := 8) F dX12_behind_89 (by decide) ?_
          refine zsub (lv' := [(4, .int (nI (kn (kq v f (k + 1)) - (kn (kq v f p9) + 1)))), (5, .int (nI (k + 1))), (0, .ref g), (1, .int (nI f)), (2, .int (nI p9)), (3, .int o3)]) (by rw [show nI (k + 1) = nI k + Int32.ofInt 1 from (nI_add k 1).symm]; rw [← ed]; simp [zs1, lv_args, Value.category, show ((1 : Fin 4) : Nat) = 1 from rfl, show ((2 : Fin 4) : Nat) = 2 from rfl, show ((3 : Fin 4) : Nat) = 3 from rfl, show nI 0 = (0 : Int32) from rfl]) ?_
          exact ih (n - 1) _ _ (by omega) ⟨k + 1, by omega, by omega, rfl, rfl⟩
      · refine r_iload F dX12_behind_55 rfl ?_
        refine r_bipush (v := 27) F dX12_behind_57 (by decide) ?_
        refine r_icmp_eq (tgt := 73) F dX12_behind_59 (by decide) (fun c59 => ?_) (fun c59 => ?_)
        · refine r_iload F dX12_behind_73 rfl ?_
          have hwi : ∀ a, a < 100 → (nI (kw v f k) = nI a ↔ kw v f k = a) := fun a ha => nI_eq (by omega) (by omega)
          have hd0 : (kn (kq v f k) - (kn (kq v f p9) + 1)) = 0 := by have c9 := c52; rw [nl0, nI_eq (by omega) (by omega)] at c9; exact c9
          have hke : k = e9 := by
            rcases Nat.lt_or_ge k e9 with h9 | h9
            · exact absurd ⟨by omega, Or.inl ((hwi 27 (by omega)).mp c59)⟩ (t4 k hpk h9)
            · omega
          subst hke
          exact e_iret F hr hlk ⟨rfl, rfl⟩ (by decide) (by decide) dX12_behind_75
        · refine r_iload_n F dX12_behind_62 rfl ?_
          refine r_if_eq (tgt := 76) F dX12_behind_63 (by decide) (fun c63 => ?_) (fun c63 => ?_)
          · refine r_iload F dX12_behind_76 rfl ?_
            refine r_bipush (v := 27) F dX12_behind_78 (by decide) ?_
            refine r_icmp_ne (tgt := 86) F dX12_behind_80 (by decide) (fun c80 => ?_) (fun c80 => ?_)
            · have hwi : ∀ a, a < 100 → (nI (kw v f k) = nI a ↔ kw v f k = a) := fun a ha => nI_eq (by omega) (by omega)
              have hn27 : ¬ kw v f k = 27 := fun h9 => c80 ((hwi 27 (by omega)).mpr h9)
              have hnop : ¬ (23 ≤ kw v f k ∧ kw v f k ≤ 25) := by have c8 := c44; rw [nI_ltI (by omega) (by omega)] at c8; omega
              have hk1 : k < e9 := by
                rcases Nat.lt_or_ge k e9 with h9 | h9
                · exact h9
                · exfalso
                  have h8 := t3.2
                  rw [show e9 = k by omega] at h8
                  rcases h8 with h8 | h8
                  · exact hn27 h8
                  · exact h8.1 c63
              have ed : (kn (kq v f (k + 1)) - (kn (kq v f p9) + 1)) = (kn (kq v f k) - (kn (kq v f p9) + 1)) := by rw [hq1.2.2 hnop hn27]
              refine r_iinc F dX12_behind_86 rfl (by decide) ?_
              refine r_goto (tgt := 8) F dX12_behind_89 (by decide) ?_
              refine zsub (lv' := [(4, .int (nI (kn (kq v f (k + 1)) - (kn (kq v f p9) + 1)))), (5, .int (nI (k + 1))), (0, .ref g), (1, .int (nI f)), (2, .int (nI p9)), (3, .int o3)]) (by rw [show nI (k + 1) = nI k + Int32.ofInt 1 from (nI_add k 1).symm]; rw [ed]; simp [zs1, lv_args, Value.category, show ((1 : Fin 4) : Nat) = 1 from rfl, show ((2 : Fin 4) : Nat) = 2 from rfl, show ((3 : Fin 4) : Nat) = 3 from rfl, show nI 0 = (0 : Int32) from rfl]) ?_
              exact ih (n - 1) _ _ (by omega) ⟨k + 1, by omega, by omega, rfl, rfl⟩
            · refine r_iinc F dX12_behind_83 rfl (by decide) ?_
              have hwi : ∀ a, a < 100 → (nI (kw v f k) = nI a ↔ kw v f k = a) := fun a ha => nI_eq (by omega) (by omega)
              have hw27 : kw v f k = 27 := (hwi 27 (by omega)).mp c80
              have hk1 : k < e9 ∧ ¬ (kn (kq v f k) - (kn (kq v f p9) + 1)) = 0 := by
                have hd : ¬ (kn (kq v f k) - (kn (kq v f p9) + 1)) = 0 := fun h9 => absurd ((hwi 27 (by omega)).mpr hw27) c59
                refine ⟨?_, hd⟩
                rcases Nat.lt_or_ge k e9 with h9 | h9
                · exact h9
                · have := t3.1; rw [show e9 = k by omega] at this; omega
              have ed : nI (kn (kq v f k) - (kn (kq v f p9) + 1)) + Int32.ofInt (-1) = nI (kn (kq v f (k + 1)) - (kn (kq v f p9) + 1)) := by
                rw [show nI (kn (kq v f k) - (kn (kq v f p9) + 1)) + Int32.ofInt (-1) = nI (kn (kq v f k) - (kn (kq v f p9) + 1)) - 1 from (Int32.sub_eq_add_neg _ 1).symm, nl1, nI_sub (by omega), (hq1.2.1 hw27).2]
                congr 1
                omega
              refine r_iinc F dX12_behind_86 rfl (by decide) ?_
              refine r_goto (tgt := 8) F dX12_behind_89 (by decide) ?_
              refine zsub (lv' := [(4, .int (nI (kn (kq v f (k + 1)) - (kn (kq v f p9) + 1)))), (5, .int (nI (k + 1))), (0, .ref g), (1, .int (nI f)), (2, .int (nI p9)), (3, .int o3)]) (by rw [show nI (k + 1) = nI k + Int32.ofInt 1 from (nI_add k 1).symm]; rw [← ed]; simp [zs1, lv_args, Value.category, show ((1 : Fin 4) : Nat) = 1 from rfl, show ((2 : Fin 4) : Nat) = 2 from rfl, show ((3 : Fin 4) : Nat) = 3 from rfl, show nI 0 = (0 : Int32) from rfl]) ?_
              exact ih (n - 1) _ _ (by omega) ⟨k + 1, by omega, by omega, rfl, rfl⟩
          · refine r_iload F dX12_behind_66 rfl ?_
            refine r_bipush (v := 26) F dX12_behind_68 (by decide) ?_
            refine r_icmp_ne (tgt := 76) F dX12_behind_70 (by decide) (fun c70 => ?_) (fun c70 => ?_)
            · refine r_iload F dX12_behind_76 rfl ?_
              refine r_bipush (v := 27) F dX12_behind_78 (by decide) ?_
              refine r_icmp_ne (tgt := 86) F dX12_behind_80 (by decide) (fun c80 => ?_) (fun c80 => ?_)
              · have hwi : ∀ a, a < 100 → (nI (kw v f k) = nI a ↔ kw v f k = a) := fun a ha => nI_eq (by omega) (by omega)
                have hn27 : ¬ kw v f k = 27 := fun h9 => c80 ((hwi 27 (by omega)).mpr h9)
                have hnop : ¬ (23 ≤ kw v f k ∧ kw v f k ≤ 25) := by have c8 := c44; rw [nI_ltI (by omega) (by omega)] at c8; omega
                have hk1 : k < e9 := by
                  rcases Nat.lt_or_ge k e9 with h9 | h9
                  · exact h9
                  · exfalso
                    have h8 := t3.2
                    rw [show e9 = k by omega] at h8
                    rcases h8 with h8 | h8
                    · exact hn27 h8
                    · exact c70 ((hwi 26 (by omega)).mpr h8.2)
                have ed : (kn (kq v f (k + 1)) - (kn (kq v f p9) + 1)) = (kn (kq v f k) - (kn (kq v f p9) + 1)) := by rw [hq1.2.2 hnop hn27]
                refine r_iinc F dX12_behind_86 rfl (by decide) ?_
                refine r_goto (tgt := 8) F dX12_behind_89 (by decide) ?_
                refine zsub (lv' := [(4, .int (nI (kn (kq v f (k + 1)) - (kn (kq v f p9) + 1)))), (5, .int (nI (k + 1))), (0, .ref g), (1, .int (nI f)), (2, .int (nI p9)), (3, .int o3)]) (by rw [show nI (k + 1) = nI k + Int32.ofInt 1 from (nI_add k 1).symm]; rw [ed]; simp [zs1, lv_args, Value.category, show ((1 : Fin 4) : Nat) = 1 from rfl, show ((2 : Fin 4) : Nat) = 2 from rfl, show ((3 : Fin 4) : Nat) = 3 from rfl, show nI 0 = (0 : Int32) from rfl]) ?_
                exact ih (n - 1) _ _ (by omega) ⟨k + 1, by omega, by omega, rfl, rfl⟩
              · refine r_iinc F dX12_behind_83 rfl (by decide) ?_
                have hwi : ∀ a, a < 100 → (nI (kw v f k) = nI a ↔ kw v f k = a) := fun a ha => nI_eq (by omega) (by omega)
                have hw27 : kw v f k = 27 := (hwi 27 (by omega)).mp c80
                have hk1 : k < e9 ∧ ¬ (kn (kq v f k) - (kn (kq v f p9) + 1)) = 0 := by
                  have hd : ¬ (kn (kq v f k) - (kn (kq v f p9) + 1)) = 0 := fun h9 => absurd ((hwi 27 (by omega)).mpr hw27) c59
                  refine ⟨?_, hd⟩
                  rcases Nat.lt_or_ge k e9 with h9 | h9
                  · exact h9
                  · have := t3.1; rw [show e9 = k by omega] at this; omega
                have ed : nI (kn (kq v f k) - (kn (kq v f p9) + 1)) + Int32.ofInt (-1) = nI (kn (kq v f (k + 1)) - (kn (kq v f p9) + 1)) := by
                  rw [show nI (kn (kq v f k) - (kn (kq v f p9) + 1)) + Int32.ofInt (-1) = nI (kn (kq v f k) - (kn (kq v f p9) + 1)) - 1 from (Int32.sub_eq_add_neg _ 1).symm, nl1, nI_sub (by omega), (hq1.2.1 hw27).2]
                  congr 1
                  omega
                refine r_iinc F dX12_behind_86 rfl (by decide) ?_
                refine r_goto (tgt := 8) F dX12_behind_89 (by decide) ?_
                refine zsub (lv' := [(4, .int (nI (kn (kq v f (k + 1)) - (kn (kq v f p9) + 1)))), (5, .int (nI (k + 1))), (0, .ref g), (1, .int (nI f)), (2, .int (nI p9)), (3, .int o3)]) (by rw [show nI (k + 1) = nI k + Int32.ofInt 1 from (nI_add k 1).symm]; rw [← ed]; simp [zs1, lv_args, Value.category, show ((1 : Fin 4) : Nat) = 1 from rfl, show ((2 : Fin 4) : Nat) = 2 from rfl, show ((3 : Fin 4) : Nat) = 3 from rfl, show nI 0 = (0 : Int32) from rfl]) ?_
                exact ih (n - 1) _ _ (by omega) ⟨k + 1, by omega, by omega, rfl, rfl⟩
            · refine r_iload F dX12_behind_73 rfl ?_
              have hwi : ∀ a, a < 100 → (nI (kw v f k) = nI a ↔ kw v f k = a) := fun a ha => nI_eq (by omega) (by omega)
              have hd0 : (kn (kq v f k) - (kn (kq v f p9) + 1)) = 0 := by have c9 := c52; rw [nl0, nI_eq (by omega) (by omega)] at c9; exact c9
              have hke : k = e9 := by
                rcases Nat.lt_or_ge k e9 with h9 | h9
                · exact absurd ⟨by omega, Or.inr ⟨c63, (hwi 26 (by omega)).mp c70⟩⟩ (t4 k hpk h9)
                · omega
              subst hke
              exact e_iret F hr hlk ⟨rfl, rfl⟩ (by decide) (by decide) dX12_behind_75
    · refine r_iinc F dX12_behind_47 rfl (by decide) ?_
      refine r_iload F dX12_behind_50 rfl ?_
      refine r_if_ne (tgt := 76) F dX12_behind_52 (by decide) (fun c52 => ?_) (fun c52 => ?_)
      · refine r_iload F dX12_behind_76 rfl ?_
        refine r_bipush (v := 27) F dX12_behind_78 (by decide) ?_
        refine r_icmp_ne (tgt := 86) F dX12_behind_80 (by decide) (fun c80 => ?_) (fun c80 => ?_)
        · have hwi : ∀ a, a < 100 → (nI (kw v f k) = nI a ↔ kw v f k = a) := fun a ha => nI_eq (by omega) (by omega)
          have hop : 23 ≤ kw v f k ∧ kw v f k ≤ 25 := by have c8 := c37; have c9 := c44; rw [nI_ltI (by omega) (by omega)] at c8 c9; omega
          have hk1 : k < e9 := by
            rcases Nat.lt_or_ge k e9 with h9 | h9
            · exact h9
            · have := t3.2; rw [show e9 = k by omega] at this; omega
          have ed : nI (kn (kq v f k) - (kn (kq v f p9) + 1)) + Int32.ofInt 1 = nI (kn (kq v f (k + 1)) - (kn (kq v f p9) + 1)) := by rw [hq1.1 hop, show kn (kq v f k) + 1 - (kn (kq v f p9) + 1) = (kn (kq v f k) - (kn (kq v f p9) + 1)) + 1 by omega]; exact nI_add _ 1
          refine r_iinc F dX12_behind_86 rfl (by decide) ?_
          refine r_goto (tgt := 8) F dX12_behind_89 (by decide) ?_
          refine zsub (lv' := [(4, .int (nI (kn (kq v f (k + 1)) - (kn (kq v f p9) + 1)))), (5, .int (nI (k + 1))), (0, .ref g), (1, .int (nI f)), (2, .int (nI p9)), (3, .int o3)]) (by rw [show nI (k + 1) = nI k + Int32.ofInt 1 from (nI_add k 1).symm]; rw [← ed]; simp [zs1, lv_args, Value.category, show ((1 : Fin 4) : Nat) = 1 from rfl, show ((2 : Fin 4) : Nat) = 2 from rfl, show ((3 : Fin 4) : Nat) = 3 from rfl, show nI 0 = (0 : Int32) from rfl]) ?_
          exact ih (n - 1) _ _ (by omega) ⟨k + 1, by omega, by omega, rfl, rfl⟩
        · refine r_iinc F dX12_behind_83 rfl (by decide) ?_
          have hwi : ∀ a, a < 100 → (nI (kw v f k) = nI a ↔ kw v f k = a) := fun a ha => nI_eq (by omega) (by omega)
          exact absurd ((hwi 27 (by omega)).mp c80) (by have c8 := c37; have c9 := c44; rw [nI_ltI (by omega) (by omega)] at c8 c9; omega)
      · refine r_iload F dX12_behind_55 rfl ?_
        refine r_bipush (v := 27) F dX12_behind_57 (by decide) ?_
        refine r_icmp_eq (tgt := 73) F dX12_behind_59 (by decide) (fun c59 => ?_) (fun c59 => ?_)
        · refine r_iload F dX12_behind_73 rfl ?_
          have hwi : ∀ a, a < 100 → (nI (kw v f k) = nI a ↔ kw v f k = a) := fun a ha => nI_eq (by omega) (by omega)
          exact absurd c52 (by rw [show nI (kn (kq v f k) - (kn (kq v f p9) + 1)) + Int32.ofInt 1 = nI ((kn (kq v f k) - (kn (kq v f p9) + 1)) + 1) from nI_add _ 1, nl0, nI_eq (by omega) (by omega)]; omega)
        · refine r_iload_n F dX12_behind_62 rfl ?_
          refine r_if_eq (tgt := 76) F dX12_behind_63 (by decide) (fun c63 => ?_) (fun c63 => ?_)
          · refine r_iload F dX12_behind_76 rfl ?_
            refine r_bipush (v := 27) F dX12_behind_78 (by decide) ?_
            refine r_icmp_ne (tgt := 86) F dX12_behind_80 (by decide) (fun c80 => ?_) (fun c80 => ?_)
            · have hwi : ∀ a, a < 100 → (nI (kw v f k) = nI a ↔ kw v f k = a) := fun a ha => nI_eq (by omega) (by omega)
              have hop : 23 ≤ kw v f k ∧ kw v f k ≤ 25 := by have c8 := c37; have c9 := c44; rw [nI_ltI (by omega) (by omega)] at c8 c9; omega
              have hk1 : k < e9 := by
                rcases Nat.lt_or_ge k e9 with h9 | h9
                · exact h9
                · have := t3.2; rw [show e9 = k by omega] at this; omega
              have ed : nI (kn (kq v f k) - (kn (kq v f p9) + 1)) + Int32.ofInt 1 = nI (kn (kq v f (k + 1)) - (kn (kq v f p9) + 1)) := by rw [hq1.1 hop, show kn (kq v f k) + 1 - (kn (kq v f p9) + 1) = (kn (kq v f k) - (kn (kq v f p9) + 1)) + 1 by omega]; exact nI_add _ 1
              refine r_iinc F dX12_behind_86 rfl (by decide) ?_
              refine r_goto (tgt := 8) F dX12_behind_89 (by decide) ?_
              refine zsub (lv' := [(4, .int (nI (kn (kq v f (k + 1)) - (kn (kq v f p9) + 1)))), (5, .int (nI (k + 1))), (0, .ref g), (1, .int (nI f)), (2, .int (nI p9)), (3, .int o3)]) (by rw [show nI (k + 1) = nI k + Int32.ofInt 1 from (nI_add k 1).symm]; rw [← ed]; simp [zs1, lv_args, Value.category, show ((1 : Fin 4) : Nat) = 1 from rfl, show ((2 : Fin 4) : Nat) = 2 from rfl, show ((3 : Fin 4) : Nat) = 3 from rfl, show nI 0 = (0 : Int32) from rfl]) ?_
              exact ih (n - 1) _ _ (by omega) ⟨k + 1, by omega, by omega, rfl, rfl⟩
            · refine r_iinc F dX12_behind_83 rfl (by decide) ?_
              have hwi : ∀ a, a < 100 → (nI (kw v f k) = nI a ↔ kw v f k = a) := fun a ha => nI_eq (by omega) (by omega)
              exact absurd ((hwi 27 (by omega)).mp c80) (by have c8 := c37; have c9 := c44; rw [nI_ltI (by omega) (by omega)] at c8 c9; omega)
          · refine r_iload F dX12_behind_66 rfl ?_
            refine r_bipush (v := 26) F dX12_behind_68 (by decide) ?_
            refine r_icmp_ne (tgt := 76) F dX12_behind_70 (by decide) (fun c70 => ?_) (fun c70 => ?_)
            · refine r_iload F dX12_behind_76 rfl ?_
              refine r_bipush (v := 27) F dX12_behind_78 (by decide) ?_
              refine r_icmp_ne (tgt := 86) F dX12_behind_80 (by decide) (fun c80 => ?_) (fun c80 => ?_)
              · have hwi : ∀ a, a < 100 → (nI (kw v f k) = nI a ↔ kw v f k = a) := fun a ha => nI_eq (by omega) (by omega)
                have hop : 23 ≤ kw v f k ∧ kw v f k ≤ 25 := by have c8 := c37; have c9 := c44; rw [nI_ltI (by omega) (by omega)] at c8 c9; omega
                have hk1 : k < e9 := by
                  rcases Nat.lt_or_ge k e9 with h9 | h9
                  · exact h9
                  · have := t3.2; rw [show e9 = k by omega] at this; omega
                have ed : nI (kn (kq v f k) - (kn (kq v f p9) + 1)) + Int32.ofInt 1 = nI (kn (kq v f (k + 1)) - (kn (kq v f p9) + 1)) := by rw [hq1.1 hop, show kn (kq v f k) + 1 - (kn (kq v f p9) + 1) = (kn (kq v f k) - (kn (kq v f p9) + 1)) + 1 by omega]; exact nI_add _ 1
                refine r_iinc F dX12_behind_86 rfl (by decide) ?_
                refine r_goto (tgt := 8) F dX12_behind_89 (by decide) ?_
                refine zsub (lv' := [(4, .int (nI (kn (kq v f (k + 1)) - (kn (kq v f p9) + 1)))), (5, .int (nI (k + 1))), (0, .ref g), (1, .int (nI f)), (2, .int (nI p9)), (3, .int o3)]) (by rw [show nI (k + 1) = nI k + Int32.ofInt 1 from (nI_add k 1).symm]; rw [← ed]; simp [zs1, lv_args, Value.category, show ((1 : Fin 4) : Nat) = 1 from rfl, show ((2 : Fin 4) : Nat) = 2 from rfl, show ((3 : Fin 4) : Nat) = 3 from rfl, show nI 0 = (0 : Int32) from rfl]) ?_
                exact ih (n - 1) _ _ (by omega) ⟨k + 1, by omega, by omega, rfl, rfl⟩
              · refine r_iinc F dX12_behind_83 rfl (by decide) ?_
                have hwi : ∀ a, a < 100 → (nI (kw v f k) = nI a ↔ kw v f k = a) := fun a ha => nI_eq (by omega) (by omega)
                exact absurd ((hwi 27 (by omega)).mp c80) (by have c8 := c37; have c9 := c44; rw [nI_ltI (by omega) (by omega)] at c8 c9; omega)
            · refine r_iload F dX12_behind_73 rfl ?_
              have hwi : ∀ a, a < 100 → (nI (kw v f k) = nI a ↔ kw v f k = a) := fun a ha => nI_eq (by omega) (by omega)
              exact absurd c52 (by rw [show nI (kn (kq v f k) - (kn (kq v f p9) + 1)) + Int32.ofInt 1 = nI ((kn (kq v f k) - (kn (kq v f p9) + 1)) + 1) from nI_add _ 1, nl0, nI_eq (by omega) (by omega)]; omega)
