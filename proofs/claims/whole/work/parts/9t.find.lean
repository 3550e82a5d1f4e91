/-- tables as before but for slots and types -/
def vF (v v1 : zV) : Prop := (∀ id k, ¬ (1224 ≤ id ∧ id ≤ 1227) → v1.1 id k = v.1 id k) ∧ v1.2 = v.2
theorem vF.rf {v : zV} : vF v v := ⟨fun _ _ _ => rfl, rfl⟩
theorem vF.u {v v1 : zV} (h : vF v v1) {id k : Nat} {x : Int32} (hid : 1224 ≤ id ∧ id ≤ 1227) : vF v (u1 v1 id k x) := ⟨fun j m hj => (u1_n (Or.inl (fun e => hj (by rw [e]; exact hid)))).trans (h.1 j m hj), h.2⟩
theorem vF.L {v v1 : zV} (h : vF v v1) : vL v v1 := fun id k hk => h.1 id k (by omega)
def fS (S0 : zS) (g : Nat) (qa : Nat → Nat) (v : zV) (p : List Nat × List Nat) (S : zS) : Prop := ∃ v1, zmR S0 g qa v1 S ∧ vF v v1 ∧ tQ v1 1226 1227 p.1 ∧ tQ v1 1224 1225 p.2
theorem tQ.o {v : zV} {t c id k : Nat} {x : Int32} {Ts : List Nat} (h : tQ v t c Ts) (h1 : t ≠ id) (h2 : c ≠ id) : tQ (u1 v id k x) t c Ts := ⟨(u1_n (Or.inl h2)).trans h.1, fun j hj => (u1_n (Or.inl h1)).trans (h.2 j hj)⟩
theorem addT_hit {Ts : List Nat} {t k : Nat} (h : plc Ts (some t) = some k) : addT Ts t = Ts := by
  unfold addT
  rw [h]
  exact if_neg (fun h9 => by cases h9)
theorem addT_new {Ts : List Nat} {t : Nat} (h : plc Ts (some t) = none) : addT Ts t = Ts ++ [t] := if_pos h
theorem fS_ty {S0 : zS} {g : Nat} {qa : Nat → Nat} {v v1 : zV} {p : List Nat × List Nat} {S S' : zS} {t : Nat} {r : Int32} (hS : zmR S0 g qa v1 S) (hF : vF v v1) (hT : tQ v1 1226 1227 p.1) (hU : tQ v1 1224 1225 p.2) (h : (∃ k, plc p.1 (some t) = some k ∧ k < p.1.length ∧ r = nI k ∧ S' = S) ∨ (plc p.1 (some t) = none ∧ r = nI p.1.length ∧ zmR S0 g qa (u1 (u1 v1 1226 p.1.length (nI t)) 1227 0 (nI (p.1.length + 1))) S')) : fS S0 g qa v (addT p.1 t, p.2) S' := by
  rcases h with ⟨k, h1, _, _, h2⟩ | ⟨h1, _, h2⟩
  · rw [addT_hit h1, h2]
    exact ⟨v1, hS, hF, hT, hU⟩
  · rw [addT_new h1]
    exact ⟨_, h2, (hF.u (by omega)).u (by omega), hT.add (by decide), (hU.o (by decide) (by decide)).o (by decide) (by decide)⟩
theorem tyF_D {v : zV} (hv : vRg v) : ∀ f, f ≤ 48 → nD (tyF v f) 10
  | 0, _ => nD.nil
  | f + 1, h => by
    show nD (if f % 8 < cn v 1202 (f / 8) then addT (tyF v f) (sh v f) else tyF v f) 10
    split
    · exact (tyF_D hv f (by omega)).add (by have := sh_le hv (f := f) (by omega); omega)
    · exact tyF_D hv f (by omega)
theorem wdS_D {v : zV} (hv : vRg v) (hD : vD v) {f k : Nat} {p : List Nat × List Nat} (hf : f < 48) (hg : gW v f (cn v 1209 (60 * f + k)) (v.1 1210 (60 * f + k))) (h : nD p.1 10 ∧ nD p.2 48) : nD (wdS v f k p).1 10 ∧ nD (wdS v f k p).2 48 := by
  constructor
  · show nD (if cn v 1209 (60 * f + k) = 32 then addT p.1 (cn v 1210 (60 * f + k)) else p.1) 10
    split
    · rename_i h1
      obtain ⟨j, hj, ej⟩ := hg.2.2.2.2.2.1 h1
      exact h.1.add (by show (v.1 1210 (60 * f + k)).toNatClampNeg < 10; rw [ej, nI_clamp (by omega)]; omega)
    · exact h.1
  · show nD (if cn v 1209 (60 * f + k) = 34 then adO p.2 (fO v (16 * (f / 8) + cn v 1210 (60 * f + k))) else p.2) 48
    split
    · rename_i h1
      obtain ⟨j, hj, ej, _⟩ := hg.2.2.2.2.1 (Or.inr h1)
      have hyb := (rg_1204 hv (k := f / 8) (by omega)).2
      have ec : cn v 1210 (60 * f + k) = j := by show (v.1 1210 (60 * f + k)).toNatClampNeg = j; rw [ej, nI_clamp (by omega)]
      rw [ec]
      cases he : fO v (16 * (f / 8) + j) with
      | none => exact h.2
      | some g => exact h.2.add (fO_lt hv hD (by omega) (by rw [show (16 * (f / 8) + j) / 16 = f / 8 by omega]; omega) he)
    · exact h.2
theorem wdK_D {v : zV} (hv : vRg v) (hD : vD v) {f : Nat} {p : List Nat × List Nat} (hf : f < 48) (hg : ∀ k, k < cn v 1208 f → gW v f (cn v 1209 (60 * f + k)) (v.1 1210 (60 * f + k))) (h : nD p.1 10 ∧ nD p.2 48) : ∀ k, k ≤ cn v 1208 f → nD (wdK v f p k).1 10 ∧ nD (wdK v f p k).2 48
  | 0, _ => h
  | k + 1, hk => wdS_D hv hD hf (hg k (by omega)) (wdK_D hv hD hf hg h k (by omega))
theorem wdF_D {v : zV} (hv : vRg v) (hD : vD v) (hg : allG v) : ∀ f, f ≤ 48 → nD (wdF v f).1 10 ∧ nD (wdF v f).2 48
  | 0, _ => ⟨tyF_D hv 48 (Nat.le_refl _), nD.nil⟩
  | f + 1, h => by
    show nD (if f % 8 < cn v 1202 (f / 8) then wdK v f (wdF v f) (cn v 1208 f) else wdF v f).1 10 ∧ nD (if f % 8 < cn v 1202 (f / 8) then wdK v f (wdF v f) (cn v 1208 f) else wdF v f).2 48
    split
    · rename_i ht
      exact wdK_D hv hD (by omega) (fun k hk => hg.g (by omega) ht hk) (wdF_D hv hD hg f (by omega)) _ (Nat.le_refl _)
    · exact wdF_D hv hD hg f (by omega)
set_option maxRecDepth 100000 in
set_option maxHeartbeats 4000000 in
theorem mm_findST {l : Launch} {N0 t0 : Nat} {D : va_G} {cy : Nat → ClassId} {S : zS} {S0 : zS} {g : Nat} {qa : Nat → Nat} {v : zV} (hS : zmR S0 g qa v S) (hv : vRg v) (hA : vA v) (hD : vD v) (hg : allG v) : zMv l yX12_findSlotsAndTypes (zws yX12_findSlotsAndTypes cX12_findSlotsAndTypes 7 none) { frames := 2, cells := 0, slots := 0, locals := 46 } N0 t0 D cy S [.ref g] (fun S' => fS S0 g qa v (wdF v 48) S') 0 0 := by
  refine zMv.of (cc := cX12_findSlotsAndTypes) (maxL := 7) (ret := none) (by decide) rfl (Nat.le_of_ble_eq_true rfl) ?_
  intro p e s m args below meth c F G hr hlk hnm
  refine r_aload_n F dX12_findSlotsAndTypes_0 rfl ?_
  refine r_iconst (v := 0) F dX12_findSlotsAndTypes_1 (by decide) ?_
  refine pi_slots F G hS dX12_findSlotsAndTypes_2 (fun S hS => ?_)
  refine r_aload_n F dX12_findSlotsAndTypes_5 rfl ?_
  refine r_iconst (v := 0) F dX12_findSlotsAndTypes_6 (by decide) ?_
  refine pi_types F G hS dX12_findSlotsAndTypes_7 (fun S hS => ?_)
  refine r_iconst (v := 0) F dX12_findSlotsAndTypes_10 (by decide) ?_
  refine r_istore_n F dX12_findSlotsAndTypes_11 (by decide) ?_
  refine r_iconst (v := 0) F dX12_findSlotsAndTypes_12 (by decide) ?_
  refine r_istore_n F dX12_findSlotsAndTypes_13 (by decide) ?_
  refine z_loop (fun n S9 lv => ∃ f x, f + n = 48 ∧ fS S0 g qa v (tyF v f, []) S9 ∧ lv = [(2, .int (nI f)), (1, .int x), (0, .ref g)]) 48 ?_ ⟨0, 0, rfl, ⟨_, hS, (vF.rf.u (by omega)).u (by omega), ⟨u1_s, fun k hk => absurd hk (Nat.not_lt_zero k)⟩, ⟨(u1_n (Or.inl (by decide))).trans u1_s, fun k hk => absurd hk (Nat.not_lt_zero k)⟩⟩, rfl⟩
  clear hS
  rintro n S lv ⟨f, x, hfn, hm, rfl⟩ ih
  obtain ⟨v1, hS, hF, hT, hU⟩ := hm
  have hL := hF.L
  have hDt := tyF_D hv f (by omega)
  have hle := nD_len _ _ hDt
  refine r_iload_n F dX12_findSlotsAndTypes_14 rfl ?_
  refine r_bipush (v := 48) F dX12_findSlotsAndTypes_15 (by decide) ?_
  refine r_icmp_ge (tgt := 44) F dX12_findSlotsAndTypes_17 (by decide) (fun c17 => ?_) (fun c17 => ?_)
  · have hf48 : f = 48 := by rw [show (48 : Int32) = nI 48 from rfl, nI_leI (by omega) (by omega)] at c17; omega
    subst hf48
    clear ih
    refine r_iconst (v := 0) F dX12_findSlotsAndTypes_44 (by decide) ?_
    refine r_istore_n F dX12_findSlotsAndTypes_45 (by decide) ?_
    refine z_loop (fun n S9 lv => ∃ f x, f + n = 48 ∧ fS S0 g qa v (wdF v f) S9 ∧ lv = [(2, .int (nI f)), (1, .int x), (0, .ref g)]) 48 ?_ ⟨0, x, rfl, ⟨v1, hS, hF, hT, hU⟩, rfl⟩
    clear hS hF hT hU hL hDt hle hfn
    rintro n S lv ⟨f, x, hfn, hm, rfl⟩ ih
    refine r_iload_n F dX12_findSlotsAndTypes_46 rfl ?_
    refine r_bipush (v := 48) F dX12_findSlotsAndTypes_47 (by decide) ?_
    refine r_icmp_ge (tgt := 189) F dX12_findSlotsAndTypes_49 (by decide) (fun c49 => ?_) (fun c49 => ?_)
    · have hf48 : f = 48 := by rw [show (48 : Int32) = nI 48 from rfl, nI_leI (by omega) (by omega)] at c49; omega
      subst hf48
      exact e_vret F hr hlk hm (by decide) (by decide) dX12_findSlotsAndTypes_189
    · have hf : f < 48 := by rw [show (48 : Int32) = nI 48 from rfl, nI_leI (by omega) (by omega)] at c49; omega
      refine r_iconst (v := 0) F dX12_findSlotsAndTypes_52 (by decide) ?_
      refine r_istore_n F dX12_findSlotsAndTypes_53 (by decide) ?_
      refine z_loop (fun n2 S9 lv => ∃ k x, k + n2 = cn v 1208 f ∧ (k = 0 ∨ f % 8 < cn v 1202 (f / 8)) ∧ fS S0 g qa v (wdK v f (wdF v f) k) S9 ∧ lv = [(3, .int (nI k)), (2, .int (nI f)), (1, .int x), (0, .ref g)]) (cn v 1208 f) ?_ ⟨0, x, by omega, Or.inl rfl, hm, rfl⟩
      clear hm
      rintro n2 S lv ⟨k, x, hkn, hk0, hm, rfl⟩ ih2
      obtain ⟨v1, hS, hF, hT, hU⟩ := hm
      have hL := hF.L
      have hlen := rg_1208 hv hf
      have hlen2 := hlen.2
      refine r_iload_n F dX12_findSlotsAndTypes_54 rfl ?_
      refine r_aload_n F dX12_findSlotsAndTypes_55 rfl ?_
      refine gq_words F G hS dX12_findSlotsAndTypes_56 ?_
      refine r_iload_n F dX12_findSlotsAndTypes_59 rfl ?_
      refine al_words F G hS (f) rfl hf dX12_findSlotsAndTypes_60 ?_
      rw [hL 1208 f (by omega), hlen.1]
      refine r_icmp_ge (tgt := 183) F dX12_findSlotsAndTypes_61 (by decide) (fun c61 => ?_) (fun c61 => ?_)
      · have hke : k = cn v 1208 f := by rw [nI_leI (by omega) (by omega)] at c61; omega
        have est : wdF v (f + 1) = (wdK v f (wdF v f) k) := by
          show (if f % 8 < cn v 1202 (f / 8) then wdK v f (wdF v f) (cn v 1208 f) else wdF v f) = _
          by_cases ht : f % 8 < cn v 1202 (f / 8)
          · rw [if_pos ht, hke]
          · rw [if_neg ht, hk0.resolve_right ht]
            rfl
        refine r_iinc F dX12_findSlotsAndTypes_183 rfl (by decide) ?_
        refine r_goto (tgt := 46) F dX12_findSlotsAndTypes_186 (by decide) ?_
        refine zsub (lv' := [(2, .int (nI (f + 1))), (1, .int x), (0, .ref g)]) (by rw [show nI (f + 1) = nI f + Int32.ofInt 1 from (nI_add f 1).symm]; simp [zs1, Value.category, show ((1 : Fin 4) : Nat) = 1 from rfl, show ((2 : Fin 4) : Nat) = 2 from rfl, show ((3 : Fin 4) : Nat) = 3 from rfl]) ?_
        exact ih (n - 1) _ _ (by omega) ⟨f + 1, x, by omega, by rw [est]; exact ⟨v1, hS, hF, hT, hU⟩, rfl⟩
      · refine r_aload_n F dX12_findSlotsAndTypes_64 rfl ?_
        refine r_iload_n F dX12_findSlotsAndTypes_65 rfl ?_
        refine c_Vi (ci := 12) F G (mm_isThere hS (hL.rg hv) hf) (cwV 1 F.2.2.2.2 (zgV km_X12_195 ki_X12_isThere ke_X12_X12_isThere kn_X12 ko_X12_isThere) rfl rfl rfl ⟨rfl, hd_yX12_isThere⟩ ⟨Nat.le_of_ble_eq_true rfl, Nat.le_of_ble_eq_true rfl⟩) rfl (by decide) hS.al rfl rfl (Nat.le_of_ble_eq_true rfl) dX12_findSlotsAndTypes_66 ⟨Nat.le_of_ble_eq_true rfl, Nat.le_of_ble_eq_true rfl⟩ (fun r66 S66 h66 => ?_)
        obtain ⟨a66, e66⟩ := h66
        have hs66 := e66.symm
        subst hs66
        refine r_if_eq (tgt := 183) F dX12_findSlotsAndTypes_69 (by decide) (fun c69 => ?_) (fun c69 => ?_)
        · have htn : ¬ f % 8 < cn v 1202 (f / 8) := by have h9 := a66.f c69; rw [hL.c (by omega)] at h9; exact h9
          have est : wdF v (f + 1) = (wdK v f (wdF v f) k) := by
            show (if f % 8 < cn v 1202 (f / 8) then wdK v f (wdF v f) (cn v 1208 f) else wdF v f) = _
            rw [if_neg htn, hk0.resolve_right htn]
            rfl
          refine r_iinc F dX12_findSlotsAndTypes_183 rfl (by decide) ?_
          refine r_goto (tgt := 46) F dX12_findSlotsAndTypes_186 (by decide) ?_
          refine zsub (lv' := [(2, .int (nI (f + 1))), (1, .int x), (0, .ref g)]) (by rw [show nI (f + 1) = nI f + Int32.ofInt 1 from (nI_add f 1).symm]; simp [zs1, Value.category, show ((1 : Fin 4) : Nat) = 1 from rfl, show ((2 : Fin 4) : Nat) = 2 from rfl, show ((3 : Fin 4) : Nat) = 3 from rfl]) ?_
          exact ih (n - 1) _ _ (by omega) ⟨f + 1, x, by omega, by rw [est]; exact ⟨v1, hS, hF, hT, hU⟩, rfl⟩
        · have hk : k < cn v 1208 f := by rw [nI_leI (by omega) (by omega)] at c61; omega
          have ht : f % 8 < cn v 1202 (f / 8) := by have h9 := a66.t c69; rw [hL.c (by omega)] at h9; exact h9
          have hgk := hg.g hf ht hk
          have hDD := wdK_D hv hD hf (fun k hk => hg.g hf ht hk) (wdF_D hv hD hg f (by omega)) k (by omega)
          have hle1 := nD_len _ _ hDD.1
          have hle2 := nD_len _ _ hDD.2
          have h36 := (rg_1209 hv (k := 60 * f + k) (by omega)).2
          have hw := (rg_1209 hv (k := 60 * f + k) (by omega)).1
          generalize hwe : cn v 1209 (60 * f + k) = w at hw h36 hgk
          refine r_aload_n F dX12_findSlotsAndTypes_72 rfl ?_
          refine gq_word F G hS dX12_findSlotsAndTypes_73 ?_
          refine r_bipush (v := 60) F dX12_findSlotsAndTypes_76 (by decide) ?_
          refine r_iload_n F dX12_findSlotsAndTypes_78 rfl ?_
          refine r_imul F dX12_findSlotsAndTypes_79 ?_
          refine r_iload_n F dX12_findSlotsAndTypes_80 rfl ?_
          refine r_iadd F dX12_findSlotsAndTypes_81 ?_
          refine al_word F G hS (60 * f + k) (show (60 : Int32) * nI f + nI k = _ by rw [nl60, nI_mul, nI_add]) (by omega) dX12_findSlotsAndTypes_82 ?_
          rw [hL 1209 _ (by omega), hw]
          refine r_istore F dX12_findSlotsAndTypes_83 (by decide) ?_
          refine r_aload_n F dX12_findSlotsAndTypes_85 rfl ?_
          refine gq_number F G hS dX12_findSlotsAndTypes_86 ?_
          refine r_bipush (v := 60) F dX12_findSlotsAndTypes_89 (by decide) ?_
          refine r_iload_n F dX12_findSlotsAndTypes_91 rfl ?_
          refine r_imul F dX12_findSlotsAndTypes_92 ?_
          refine r_iload_n F dX12_findSlotsAndTypes_93 rfl ?_
          refine r_iadd F dX12_findSlotsAndTypes_94 ?_
          refine al_number F G hS (60 * f + k) (show (60 : Int32) * nI f + nI k = _ by rw [nl60, nI_mul, nI_add]) (by omega) dX12_findSlotsAndTypes_95 ?_
          rw [hL 1210 _ (by omega)]
          refine r_istore F dX12_findSlotsAndTypes_96 (by decide) ?_
          refine r_iload F dX12_findSlotsAndTypes_98 rfl ?_
          refine r_bipush (v := 32) F dX12_findSlotsAndTypes_100 (by decide) ?_
          refine r_icmp_ne (tgt := 112) F dX12_findSlotsAndTypes_102 (by decide) (fun c102 => ?_) (fun c102 => ?_)
          · refine r_iload F dX12_findSlotsAndTypes_112 rfl ?_
            refine r_bipush (v := 34) F dX12_findSlotsAndTypes_114 (by decide) ?_
            refine r_icmp_ne (tgt := 136) F dX12_findSlotsAndTypes_116 (by decide) (fun c116 => ?_) (fun c116 => ?_)
            · refine r_iconst (v := -1) F dX12_findSlotsAndTypes_136 (by decide) ?_
              refine r_istore F dX12_findSlotsAndTypes_137 (by decide) ?_
              refine r_iload F dX12_findSlotsAndTypes_139 rfl ?_
              refine r_if_lt (tgt := 177) F dX12_findSlotsAndTypes_141 (by decide) (fun _ => ?_) (fun h9 => absurd (show (-1 : Int32) < 0 by decide) h9)
              refine r_iinc F dX12_findSlotsAndTypes_177 rfl (by decide) ?_
              refine r_goto (tgt := 54) F dX12_findSlotsAndTypes_180 (by decide) ?_
              refine zsub (lv' := [(3, .int (nI (k + 1))), (2, .int (nI f)), (1, .int x), (0, .ref g)]) (by rw [show nI (k + 1) = nI k + Int32.ofInt 1 from (nI_add k 1).symm]; simp [zs1, Value.category, show ((1 : Fin 4) : Nat) = 1 from rfl, show ((2 : Fin 4) : Nat) = 2 from rfl, show ((3 : Fin 4) : Nat) = 3 from rfl]) ?_
              have est : wdK v f (wdF v f) (k + 1) = (wdK v f (wdF v f) k) := by show wdS v f k _ = _; unfold wdS; rw [hwe, if_neg (fun h9 => c102 (by rw [h9]; rfl)), if_neg (fun h9 => c116 (by rw [h9]; rfl))]
              exact ih2 (n2 - 1) _ _ (by omega) ⟨k + 1, x, by omega, Or.inr ht, by rw [est]; exact ⟨v1, hS, hF, hT, hU⟩, rfl⟩
            · have hw34 : w = 34 := by have c9 := c116; rw [show (34 : Int32) = nI 34 from rfl, nI_eq (by omega) (by omega)] at c9; exact c9
              obtain ⟨j, hj, ej, hk9⟩ := hgk.2.2.2.2.1 (Or.inr hw34)
              have hyb := (rg_1204 hv (k := f / 8) (by omega)).2
              have hy : 16 * (f / 8) + j < 96 := by omega
              have ht9 : (16 * (f / 8) + j) % 16 < cn v 1204 ((16 * (f / 8) + j) / 16) := by rw [show (16 * (f / 8) + j) / 16 = f / 8 by omega]; omega
              rw [ej]
              refine r_aload_n F dX12_findSlotsAndTypes_119 rfl ?_
              refine r_bipush (v := 16) F dX12_findSlotsAndTypes_120 (by decide) ?_
              refine r_iload_n F dX12_findSlotsAndTypes_122 rfl ?_
              refine r_bipush (v := 8) F dX12_findSlotsAndTypes_123 (by decide) ?_
              refine r_idiv F dX12_findSlotsAndTypes_125 (by decide) ?_
              refine r_imul F dX12_findSlotsAndTypes_126 ?_
              refine r_iload F dX12_findSlotsAndTypes_127 rfl ?_
              refine r_iadd F dX12_findSlotsAndTypes_129 ?_
              rw [show (16 : Int32) * (nI f / 8) + nI j = nI (16 * (f / 8) + j) by rw [nl16, nl8, nI_div (by omega) (by omega), nI_mul, nI_add]]
              refine c_Vi (ci := 12) F G (mm_functionOf hS (hL.rg hv) (hL.A hA) (hL.D hD) hy (by rw [hL.c (by omega)]; exact ht9)) (cwV 1 F.2.2.2.2 (zgV km_X12_189 ki_X12_functionOf ke_X12_X12_functionOf kn_X12 ko_X12_functionOf) rfl rfl rfl ⟨rfl, hd_yX12_functionOf⟩ ⟨Nat.le_of_ble_eq_true rfl, Nat.le_of_ble_eq_true rfl⟩) rfl (by decide) hS.al rfl rfl (Nat.le_of_ble_eq_true rfl) dX12_findSlotsAndTypes_130 ⟨Nat.le_of_ble_eq_true rfl, Nat.le_of_ble_eq_true rfl⟩ (fun r130 S130 h130 => ?_)
              obtain ⟨a130, e130⟩ := h130
              have hs130 := e130.symm
              subst hs130
              subst a130
              rw [hL.efO]
              refine r_goto (tgt := 137) F dX12_findSlotsAndTypes_133 (by decide) ?_
              refine r_istore F dX12_findSlotsAndTypes_137 (by decide) ?_
              refine r_iload F dX12_findSlotsAndTypes_139 rfl ?_
              refine r_if_lt (tgt := 177) F dX12_findSlotsAndTypes_141 (by decide) (fun c141 => ?_) (fun c141 => ?_)
              · refine r_iinc F dX12_findSlotsAndTypes_177 rfl (by decide) ?_
                refine r_goto (tgt := 54) F dX12_findSlotsAndTypes_180 (by decide) ?_
                refine zsub (lv' := [(3, .int (nI (k + 1))), (2, .int (nI f)), (1, .int x), (0, .ref g)]) (by rw [show nI (k + 1) = nI k + Int32.ofInt 1 from (nI_add k 1).symm]; simp [zs1, Value.category, show ((1 : Fin 4) : Nat) = 1 from rfl, show ((2 : Fin 4) : Nat) = 2 from rfl, show ((3 : Fin 4) : Nat) = 3 from rfl]) ?_
                have est : wdK v f (wdF v f) (k + 1) = ((wdK v f (wdF v f) k).1, adO (wdK v f (wdF v f) k).2 (fO v (16 * (f / 8) + j))) := by show wdS v f k _ = _; unfold wdS; rw [hwe, if_neg (by omega), if_pos hw34, show cn v 1210 (60 * f + k) = j by show (v.1 1210 (60 * f + k)).toNatClampNeg = j; rw [ej, nI_clamp (by omega)]]
                exact ih2 (n2 - 1) _ _ (by omega) ⟨k + 1, x, by omega, Or.inr ht, by rw [est]; exact (by rw [(enc_lt (fun z hz => by have := fO_lt hv hD hy ht9 hz; omega)).mp c141]; exact ⟨v1, hS, hF, hT, hU⟩), rfl⟩
              · obtain ⟨gg, hfo⟩ : ∃ gg, fO v (16 * (f / 8) + j) = some gg := by
                  cases he : fO v (16 * (f / 8) + j) with
                  | none => exact absurd (show enc (fO v (16 * (f / 8) + j)) < 0 by rw [he]; decide) (c141)
                  | some gg => exact ⟨gg, rfl⟩
                have hgg := fO_lt hv hD hy ht9 hfo
                refine r_aload_n F dX12_findSlotsAndTypes_144 rfl ?_
                refine r_iload F dX12_findSlotsAndTypes_145 rfl ?_
                refine c_Vi (ci := 12) F G (mm_slotOf hS hU (by omega) (fun k hk => Nat.lt_trans (hDD.2.2 _ (getD_mem hk)) (by decide)) (x := fO v (16 * (f / 8) + j)) (fun z hz => by have := fO_lt hv hD hy ht9 hz; omega)) (cwV 1 F.2.2.2.2 (zgV km_X12_257 ki_X12_slotOf ke_X12_X12_slotOf kn_X12 ko_X12_slotOf) rfl rfl rfl ⟨rfl, hd_yX12_slotOf⟩ ⟨Nat.le_of_ble_eq_true rfl, Nat.le_of_ble_eq_true rfl⟩) rfl (by decide) hS.al rfl rfl (Nat.le_of_ble_eq_true rfl) dX12_findSlotsAndTypes_147 ⟨Nat.le_of_ble_eq_true rfl, Nat.le_of_ble_eq_true rfl⟩ (fun r147 S147 h147 => ?_)
                obtain ⟨e147, h147⟩ := h147
                have hs147 := e147.symm
                subst hs147
                refine r_if_le (tgt := 156) F dX12_findSlotsAndTypes_150 (by decide) (fun c150 => ?_) (fun c150 => ?_)
                · have hnw : plc (wdK v f (wdF v f) k).2 (some gg) = none := by
                    rcases h147 with ⟨k9, _, q0, q1⟩ | ⟨q1, _⟩
                    · exact absurd c150 (by rw [q1, nl0, nI_leI (by omega) (by omega)]; omega)
                    · rw [← hfo]
                      exact q1
                  have hl48 : (wdK v f (wdF v f) k).2.length < 48 := by
                    have h9 := nD_len _ _ (hDD.2.add hgg)
                    rw [addT_new hnw, List.length_append] at h9
                    exact h9
                  refine r_aload_n F dX12_findSlotsAndTypes_156 rfl ?_
                  refine gq_slot F G hS dX12_findSlotsAndTypes_157 ?_
                  refine r_aload_n F dX12_findSlotsAndTypes_160 rfl ?_
                  refine gi_slots F G hS dX12_findSlotsAndTypes_161 ?_
                  refine r_iload F dX12_findSlotsAndTypes_164 rfl ?_
                  rw [hfo]
                  refine as_slot F G hS (wdK v f (wdF v f) k).2.length hU.1 hl48 dX12_findSlotsAndTypes_166 (fun S hS => ?_)
                  refine r_aload_n F dX12_findSlotsAndTypes_167 rfl ?_
                  refine r_dup F dX12_findSlotsAndTypes_168 rfl ?_
                  refine gi_slots F G hS dX12_findSlotsAndTypes_169 ?_
                  refine r_iconst (v := 1) F dX12_findSlotsAndTypes_172 (by decide) ?_
                  refine r_iadd F dX12_findSlotsAndTypes_173 ?_
                  rw [show (u1 v1 1224 (wdK v f (wdF v f) k).2.length (enc (some gg))).1 1225 0 = nI (wdK v f (wdF v f) k).2.length from (u1_n (Or.inl (by decide))).trans hU.1, show nI (wdK v f (wdF v f) k).2.length + 1 = nI ((wdK v f (wdF v f) k).2.length + 1) from nI_add _ 1]
                  refine pi_slots F G hS dX12_findSlotsAndTypes_174 (fun S hS => ?_)
                  refine r_iinc F dX12_findSlotsAndTypes_177 rfl (by decide) ?_
                  refine r_goto (tgt := 54) F dX12_findSlotsAndTypes_180 (by decide) ?_
                  refine zsub (lv' := [(3, .int (nI (k + 1))), (2, .int (nI f)), (1, .int x), (0, .ref g)]) (by rw [show nI (k + 1) = nI k + Int32.ofInt 1 from (nI_add k 1).symm]; simp [zs1, Value.category, show ((1 : Fin 4) : Nat) = 1 from rfl, show ((2 : Fin 4) : Nat) = 2 from rfl, show ((3 : Fin 4) : Nat) = 3 from rfl]) ?_
                  have est : wdK v f (wdF v f) (k + 1) = ((wdK v f (wdF v f) k).1, adO (wdK v f (wdF v f) k).2 (fO v (16 * (f / 8) + j))) := by show wdS v f k _ = _; unfold wdS; rw [hwe, if_neg (by omega), if_pos hw34, show cn v 1210 (60 * f + k) = j by show (v.1 1210 (60 * f + k)).toNatClampNeg = j; rw [ej, nI_clamp (by omega)]]
                  exact ih2 (n2 - 1) _ _ (by omega) ⟨k + 1, x, by omega, Or.inr ht, by rw [est]; exact (by rw [hfo, show adO _ (some gg) = addT _ gg from rfl, addT_new hnw]; exact ⟨_, hS, (hF.u (by omega)).u (by omega), (hT.o (by decide) (by decide)).o (by decide) (by decide), hU.add (by decide)⟩), rfl⟩
                · have hadd : addT (wdK v f (wdF v f) k).2 gg = (wdK v f (wdF v f) k).2 := by
                    rcases h147 with ⟨k9, q1, _, _⟩ | ⟨_, q2⟩
                    · rw [hfo] at q1
                      exact addT_hit q1
                    · exact absurd (show r147 ≤ 0 by rw [q2]; decide) c150
                  refine r_goto (tgt := 177) F dX12_findSlotsAndTypes_153 (by decide) ?_
                  refine r_iinc F dX12_findSlotsAndTypes_177 rfl (by decide) ?_
                  refine r_goto (tgt := 54) F dX12_findSlotsAndTypes_180 (by decide) ?_
                  refine zsub (lv' := [(3, .int (nI (k + 1))), (2, .int (nI f)), (1, .int x), (0, .ref g)]) (by rw [show nI (k + 1) = nI k + Int32.ofInt 1 from (nI_add k 1).symm]; simp [zs1, Value.category, show ((1 : Fin 4) : Nat) = 1 from rfl, show ((2 : Fin 4) : Nat) = 2 from rfl, show ((3 : Fin 4) : Nat) = 3 from rfl]) ?_
                  have est : wdK v f (wdF v f) (k + 1) = ((wdK v f (wdF v f) k).1, adO (wdK v f (wdF v f) k).2 (fO v (16 * (f / 8) + j))) := by show wdS v f k _ = _; unfold wdS; rw [hwe, if_neg (by omega), if_pos hw34, show cn v 1210 (60 * f + k) = j by show (v.1 1210 (60 * f + k)).toNatClampNeg = j; rw [ej, nI_clamp (by omega)]]
                  exact ih2 (n2 - 1) _ _ (by omega) ⟨k + 1, x, by omega, Or.inr ht, by rw [est]; exact (by rw [hfo, show adO _ (some gg) = addT _ gg from rfl, hadd]; exact ⟨v1, hS, hF, hT, hU⟩), rfl⟩
          · have hw32 : w = 32 := by have c9 := c102; rw [show (32 : Int32) = nI 32 from rfl, nI_eq (by omega) (by omega)] at c9; exact c9
            obtain ⟨j, hj, ej⟩ := hgk.2.2.2.2.2.1 hw32
            rw [ej]
            refine r_aload_n F dX12_findSlotsAndTypes_105 rfl ?_
            refine r_iload F dX12_findSlotsAndTypes_106 rfl ?_
            refine c_Vi (ci := 12) F G (mm_typeOf hS hT (by omega) (fun k hk => Nat.lt_trans (hDD.1.2 _ (getD_mem hk)) (by decide)) (t := j) (by omega)) (cwV 1 F.2.2.2.2 (zgV km_X12_254 ki_X12_typeOf ke_X12_X12_typeOf kn_X12 ko_X12_typeOf) rfl rfl rfl ⟨rfl, hd_yX12_typeOf⟩ ⟨Nat.le_of_ble_eq_true rfl, Nat.le_of_ble_eq_true rfl⟩) rfl (by decide) hS.al rfl rfl (Nat.le_of_ble_eq_true rfl) dX12_findSlotsAndTypes_108 ⟨Nat.le_of_ble_eq_true rfl, Nat.le_of_ble_eq_true rfl⟩ (fun r108 S108 h108 => ?_)
            have hm108 := fS_ty hS hF hT hU h108
            refine r_istore_n F dX12_findSlotsAndTypes_111 (by decide) ?_
            refine r_iload F dX12_findSlotsAndTypes_112 rfl ?_
            refine r_bipush (v := 34) F dX12_findSlotsAndTypes_114 (by decide) ?_
            refine r_icmp_ne (tgt := 136) F dX12_findSlotsAndTypes_116 (by decide) (fun _ => ?_) (fun h9 => absurd h9 (fun h9 => by rw [hw32] at h9; exact absurd h9 (by decide)))
            refine r_iconst (v := -1) F dX12_findSlotsAndTypes_136 (by decide) ?_
            refine r_istore F dX12_findSlotsAndTypes_137 (by decide) ?_
            refine r_iload F dX12_findSlotsAndTypes_139 rfl ?_
            refine r_if_lt (tgt := 177) F dX12_findSlotsAndTypes_141 (by decide) (fun _ => ?_) (fun h9 => absurd (show (-1 : Int32) < 0 by decide) h9)
            refine r_iinc F dX12_findSlotsAndTypes_177 rfl (by decide) ?_
            refine r_goto (tgt := 54) F dX12_findSlotsAndTypes_180 (by decide) ?_
            refine zsub (lv' := [(3, .int (nI (k + 1))), (2, .int (nI f)), (1, .int r108), (0, .ref g)]) (by rw [show nI (k + 1) = nI k + Int32.ofInt 1 from (nI_add k 1).symm]; simp [zs1, Value.category, show ((1 : Fin 4) : Nat) = 1 from rfl, show ((2 : Fin 4) : Nat) = 2 from rfl, show ((3 : Fin 4) : Nat) = 3 from rfl]) ?_
            have est : wdK v f (wdF v f) (k + 1) = (addT (wdK v f (wdF v f) k).1 j, (wdK v f (wdF v f) k).2) := by show wdS v f k _ = _; unfold wdS; rw [hwe, if_pos hw32, if_neg (by omega), show cn v 1210 (60 * f + k) = j by show (v.1 1210 (60 * f + k)).toNatClampNeg = j; rw [ej, nI_clamp (by omega)]]
            exact ih2 (n2 - 1) _ _ (by omega) ⟨k + 1, r108, by omega, Or.inr ht, by rw [est]; exact hm108, rfl⟩
  · have hf : f < 48 := by rw [show (48 : Int32) = nI 48 from rfl, nI_leI (by omega) (by omega)] at c17; omega
    refine r_aload_n F dX12_findSlotsAndTypes_20 rfl ?_
    refine r_iload_n F dX12_findSlotsAndTypes_21 rfl ?_
    refine c_Vi (ci := 12) F G (mm_isThere hS (hL.rg hv) hf) (cwV 1 F.2.2.2.2 (zgV km_X12_195 ki_X12_isThere ke_X12_X12_isThere kn_X12 ko_X12_isThere) rfl rfl rfl ⟨rfl, hd_yX12_isThere⟩ ⟨Nat.le_of_ble_eq_true rfl, Nat.le_of_ble_eq_true rfl⟩) rfl (by decide) hS.al rfl rfl (Nat.le_of_ble_eq_true rfl) dX12_findSlotsAndTypes_22 ⟨Nat.le_of_ble_eq_true rfl, Nat.le_of_ble_eq_true rfl⟩ (fun r22 S22 h22 => ?_)
    obtain ⟨a22, e22⟩ := h22
    have hs22 := e22.symm
    subst hs22
    refine r_if_eq (tgt := 38) F dX12_findSlotsAndTypes_25 (by decide) (fun c25 => ?_) (fun c25 => ?_)
    · refine r_iinc F dX12_findSlotsAndTypes_38 rfl (by decide) ?_
      refine r_goto (tgt := 14) F dX12_findSlotsAndTypes_41 (by decide) ?_
      refine zsub (lv' := [(2, .int (nI (f + 1))), (1, .int x), (0, .ref g)]) (by rw [show nI (f + 1) = nI f + Int32.ofInt 1 from (nI_add f 1).symm]; simp [zs1, Value.category, show ((1 : Fin 4) : Nat) = 1 from rfl, show ((2 : Fin 4) : Nat) = 2 from rfl, show ((3 : Fin 4) : Nat) = 3 from rfl]) ?_
      exact ih (n - 1) _ _ (by omega) ⟨f + 1, x, by omega, by rw [show tyF v (f + 1) = tyF v f from if_neg (by have h9 := a22.f c25; rw [hL.c (by omega)] at h9; exact h9)]; exact ⟨v1, hS, hF, hT, hU⟩, rfl⟩
    · have ht : f % 8 < cn v 1202 (f / 8) := by have h9 := a22.t c25; rw [hL.c (by omega)] at h9; exact h9
      refine r_aload_n F dX12_findSlotsAndTypes_28 rfl ?_
      refine r_aload_n F dX12_findSlotsAndTypes_29 rfl ?_
      refine r_iload_n F dX12_findSlotsAndTypes_30 rfl ?_
      refine c_Vi (ci := 12) F G (mm_shape hS (hL.rg hv) hf) (cwV 1 F.2.2.2.2 (zgV km_X12_156 ki_X12_shape ke_X12_X12_shape kn_X12 ko_X12_shape) rfl rfl rfl ⟨rfl, hd_yX12_shape⟩ ⟨Nat.le_of_ble_eq_true rfl, Nat.le_of_ble_eq_true rfl⟩) rfl (by decide) hS.al rfl rfl (Nat.le_of_ble_eq_true rfl) dX12_findSlotsAndTypes_31 ⟨Nat.le_of_ble_eq_true rfl, Nat.le_of_ble_eq_true rfl⟩ (fun r31 S31 h31 => ?_)
      obtain ⟨a31, e31⟩ := h31
      have hs31 := e31.symm
      subst hs31
      subst a31
      rw [hL.esh]
      have hsh := sh_le hv hf
      refine c_Vi (ci := 12) F G (mm_typeOf hS hT (by show (tyF v f).length < 60; omega) (fun k hk => Nat.lt_trans (hDt.2 _ (getD_mem hk)) (by decide)) (t := sh v f) (by omega)) (cwV 1 F.2.2.2.2 (zgV km_X12_254 ki_X12_typeOf ke_X12_X12_typeOf kn_X12 ko_X12_typeOf) rfl rfl rfl ⟨rfl, hd_yX12_typeOf⟩ ⟨Nat.le_of_ble_eq_true rfl, Nat.le_of_ble_eq_true rfl⟩) rfl (by decide) hS.al rfl rfl (Nat.le_of_ble_eq_true rfl) dX12_findSlotsAndTypes_34 ⟨Nat.le_of_ble_eq_true rfl, Nat.le_of_ble_eq_true rfl⟩ (fun r34 S34 h34 => ?_)
      have hm34 := fS_ty hS hF hT hU h34
      refine r_istore_n F dX12_findSlotsAndTypes_37 (by decide) ?_
      refine r_iinc F dX12_findSlotsAndTypes_38 rfl (by decide) ?_
      refine r_goto (tgt := 14) F dX12_findSlotsAndTypes_41 (by decide) ?_
      refine zsub (lv' := [(2, .int (nI (f + 1))), (1, .int r34), (0, .ref g)]) (by rw [show nI (f + 1) = nI f + Int32.ofInt 1 from (nI_add f 1).symm]; simp [zs1, Value.category, show ((1 : Fin 4) : Nat) = 1 from rfl, show ((2 : Fin 4) : Nat) = 2 from rfl, show ((3 : Fin 4) : Nat) = 3 from rfl]) ?_
      exact ih (n - 1) _ _ (by omega) ⟨f + 1, r34, by omega, by rw [show tyF v (f + 1) = addT (tyF v f) (sh v f) from if_pos ht]; exact hm34, rfl⟩
