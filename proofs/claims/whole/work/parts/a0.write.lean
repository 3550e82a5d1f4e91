/-- what write stands on, behind findSlotsAndTypes -/
def wOK (v : zV) (Ts Ss : List Nat) : Prop := vRg v ∧ vA v ∧ vD v ∧ tQ v 1226 1227 Ts ∧ tQ v 1224 1225 Ss ∧ nD Ts 10 ∧ nD Ss 48 ∧ (∀ f, f < 48 → f % 8 < cn v 1202 (f / 8) → ∀ k, k < cn v 1208 f → gW v f (cn v 1209 (60 * f + k)) (v.1 1210 (60 * f + k))) ∧ kEq v ∧ (∀ f, f < 48 → f % 8 < cn v 1202 (f / 8) → ∃ j, plc Ts (some (sh v f)) = some j) ∧ (∀ f, f < 48 → f % 8 < cn v 1202 (f / 8) → ∀ k, k < cn v 1208 f → cn v 1209 (60 * f + k) = 32 → ∃ j, plc Ts (some (cn v 1210 (60 * f + k))) = some j)
theorem wOK.of {v v1 : zV} (hF : vF v v1) (hv : vRg v) (hA : vA v) (hD : vD v) (hg : allG v) (hk : kEq v) (hT : tQ v1 1226 1227 (wdF v 48).1) (hU : tQ v1 1224 1225 (wdF v 48).2) : wOK v1 (wdF v 48).1 (wdF v 48).2 := by
  have hL := hF.L
  have hDD := wdF_D hv hD hg 48 (Nat.le_refl _)
  refine ⟨hL.rg hv, hL.A hA, hL.D hD, hT, hU, hDD.1, hDD.2, fun f hf ht k hk9 => ?_, hL.ekEq hk, fun f hf ht => ?_, fun f hf ht k hk9 hw => ?_⟩
  · rw [hL.c (by omega)] at ht hk9
    rw [hL.egW, hL.c (by omega), hL 1210 _ (by omega)]
    exact hg.g hf ht hk9
  · rw [hL.c (by omega)] at ht
    rw [hL.esh]
    exact plc_sh hf ht
  · rw [hL.c (by omega)] at ht hk9 hw
    rw [hL.c (by omega)]
    exact plc_32 hf ht hk9 hw
theorem wOK.k {v : zV} {Ts Ss : List Nat} (h : wOK v Ts Ss) {f k : Nat} (hf : f < 48) (ht : f % 8 < cn v 1202 (f / 8)) (hk : k < cn v 1208 f) (hw : cn v 1209 (60 * f + k) = 33) : ∀ z, mng v (16 * (f / 8) + (v.1 1210 (60 * f + k)).toNatClampNeg) = some z → ¬ v.1 1215 z = 0 := by
  intro z hz
  obtain ⟨hv, hA, hD, hT, hU, hnT, hnS, hg, hK, hPT, h32⟩ := h
  obtain ⟨j, hj, ej, hk9⟩ := (hg f hf ht k hk).2.2.2.2.2.2 hw
  have hyb := (rg_1204 hv (k := f / 8) (by omega)).2
  rw [ej, nI_clamp (by omega)] at hz
  rw [hK _ (by omega) (by rw [show (16 * (f / 8) + j) / 16 = f / 8 by omega]; omega) z hz, hk9]
  decide
theorem pS_6 {v v2 : zV} (hX : vM v v2) (hv : vRg v) (hA : vA v) {t : Nat} (ht : t = 1202 ∨ t = 1203 ∨ t = 1204) : pS v2 t (cn v2 1201 0) = pS v t 6 := by
  have h6 := (rg_1201 hv (k := 0) (by omega)).2
  rw [hX.L.epS (by omega), hX.c (by decide) (by decide), pS_top hA ht (o := 6) (by omega) (Nat.le_refl _)]
theorem pS6_b {v : zV} (hv : vRg v) : pS v 1202 6 ≤ 48 ∧ pS v 1203 6 ≤ 24 := ⟨pS_b (M := 8) (fun o ho => (by have := (rg_1202 hv ho).2; omega)) 6 (Nat.le_refl _), pS_b (M := 4) (fun o ho => (by have := (rg_1203 hv ho).2; omega)) 6 (Nat.le_refl _)⟩
set_option maxRecDepth 100000 in
set_option maxHeartbeats 4000000 in
theorem mm_write {l : Launch} {N0 t0 : Nat} {D : va_G} {cy : Nat → ClassId} {S : zS} {S0 : zS} {g : Nat} {qa : Nat → Nat} {v : zV} (hS : zmR S0 g qa v S) (hv : vRg v) (hA : vA v) (hD : vD v) (hg : allG v) (hk : kEq v) : zMv l yX12_write (zws yX12_write cX12_write 4 none) { frames := 5, cells := 0, slots := 0, locals := 114 } N0 t0 D cy S [.ref g] (fun S' => ∃ v1, vF v v1 ∧ tQ v1 1226 1227 (wdF v 48).1 ∧ tQ v1 1224 1225 (wdF v 48).2 ∧ mZ S0 g qa v1 (mdB v (wdF v 48).1 (wdF v 48).2) S') 0 0 := by
  refine zMv.of (cc := cX12_write) (maxL := 4) (ret := none) (by decide) rfl (Nat.le_of_ble_eq_true rfl) ?_
  intro p e s m args below meth c F G hr hlk hnm
  refine r_aload_n F dX12_write_0 rfl ?_
  refine c_Vv (ci := 12) F G (mm_findST hS hv hA hD hg) (cwV 0 F.2.2.2.2 (zgV km_X12_260 ki_X12_findSlotsAndTypes ke_X12_X12_findSlotsAndTypes kn_X12 ko_X12_findSlotsAndTypes) rfl rfl rfl ⟨rfl, hd_yX12_findSlotsAndTypes⟩ ⟨Nat.le_of_ble_eq_true rfl, Nat.le_of_ble_eq_true rfl⟩) rfl (by decide) hS.al rfl rfl (Nat.le_of_ble_eq_true rfl) dX12_write_1 ⟨Nat.le_of_ble_eq_true rfl, Nat.le_of_ble_eq_true rfl⟩ (fun S1 h1 => ?_)
  obtain ⟨v1, hS, hF, hT, hU⟩ := h1
  have hOK := wOK.of hF hv hA hD hg hk hT hU
  obtain ⟨hv1, hA1, hD1, _, _, hnT, hnS, hG1, hK1, hPT, h32⟩ := id hOK
  have hlT0 := nD_len _ _ hnT
  have hlS0 := nD_len _ _ hnS
  have hp6 := (pS6_b hv1).1
  have hq6 := (pS6_b hv1).2
  refine z_cut (fun S9 lv9 => mZ S0 g qa v1 (md9 v1 (wdF v 48).1 (wdF v 48).2) S9 ∧ lv9 = [(0, .ref g)]) 370 ?_ (fun k370 => ?_)
  · rintro S lv ⟨hmz, rfl⟩
    obtain ⟨L9, eL9, haL9, hlL9⟩ : ∃ L, L = md9 v1 (wdF v 48).1 (wdF v 48).2 ∧ aB L ∧ L.length ≤ 700 := ⟨_, rfl, md9_ok v1 hnT hnS⟩
    rw [← eL9] at hmz
    obtain ⟨T, hm0⟩ := hmz
    have hm1 := hm0
    obtain ⟨v2, hS, hX, hB⟩ := hm1
    refine r_aload_n F dX12_write_370 rfl ?_
    refine r_bipush (v := 10) F dX12_write_371 (by decide) ?_
    refine c_Vi (ci := 12) F G (mm_begin hm0 (x := nI 10) (by first | omega | (simp only [List.length_append, List.length_cons, List.length_nil]; omega))) (cwV 1 F.2.2.2.2 (zgV km_X12_263 ki_X12_begin ke_X12_X12_begin kn_X12 ko_X12_begin) rfl rfl rfl ⟨rfl, hd_yX12_begin⟩ ⟨Nat.le_of_ble_eq_true rfl, Nat.le_of_ble_eq_true rfl⟩) rfl (by decide) hS.al rfl rfl (Nat.le_of_ble_eq_true rfl) dX12_write_373 ⟨Nat.le_of_ble_eq_true rfl, Nat.le_of_ble_eq_true rfl⟩ (fun r373 S373 h373 => ?_)
    obtain ⟨er373, hm373⟩ := h373
    subst er373
    have hm0 := hm373
    obtain ⟨v2, hS, hX, hB⟩ := hm373
    refine r_istore_n F dX12_write_376 (by decide) ?_
    refine r_aload_n F dX12_write_377 rfl ?_
    refine r_aload_n F dX12_write_378 rfl ?_
    refine c_Vi (ci := 12) F G (mm_functionCount hS (hX.L.rg hv1)) (cwV 0 F.2.2.2.2 (zgV km_X12_269 ki_X12_functionCount ke_X12_X12_functionCount kn_X12 ko_X12_functionCount) rfl rfl rfl ⟨rfl, hd_yX12_functionCount⟩ ⟨Nat.le_of_ble_eq_true rfl, Nat.le_of_ble_eq_true rfl⟩) rfl (by decide) hS.al rfl rfl (Nat.le_of_ble_eq_true rfl) dX12_write_379 ⟨Nat.le_of_ble_eq_true rfl, Nat.le_of_ble_eq_true rfl⟩ (fun r379 S379 h379 => ?_)
    obtain ⟨a379, e379⟩ := h379
    have hs379 := e379.symm
    subst hs379
    rw [pS_6 hX hv1 hA1 (Or.inl rfl)] at a379
    subst a379
    refine c_Vv (ci := 12) F G (mm_unsigned hm0 (n := pS v1 1202 6) (by omega) (by first | omega | (simp only [List.length_append, List.length_cons, List.length_nil]; omega))) (cwV 1 F.2.2.2.2 (zgV km_X12_245 ki_X12_unsigned ke_X12_X12_unsigned kn_X12 ko_X12_unsigned) rfl rfl rfl ⟨rfl, hd_yX12_unsigned⟩ ⟨Nat.le_of_ble_eq_true rfl, Nat.le_of_ble_eq_true rfl⟩) rfl (by decide) hS.al rfl rfl (Nat.le_of_ble_eq_true rfl) dX12_write_382 ⟨Nat.le_of_ble_eq_true rfl, Nat.le_of_ble_eq_true rfl⟩ (fun S382 hm382 => ?_)
    have hm0 := hm382
    obtain ⟨v2, hS, hX, hB⟩ := hm382
    refine r_iconst (v := 0) F dX12_write_385 (by decide) ?_
    refine r_istore_n F dX12_write_386 (by decide) ?_
    refine zsub (lv' := [(2, .int (nI 0)), (1, .int (nI (L9.length + 1))), (0, .ref g)]) (by simp [zs1, lv_args, Value.category, show ((1 : Fin 4) : Nat) = 1 from rfl, show ((2 : Fin 4) : Nat) = 2 from rfl, show ((3 : Fin 4) : Nat) = 3 from rfl, show nI 0 = (0 : Int32) from rfl]) ?_
    refine z_loop (fun n S9 lv => ∃ f, f + n = 48 ∧ mZ S0 g qa v1 (L9 ++ [bv (nI 10)] ++ (uns (pS v1 1202 6) ++ ctB v1 1202 8 (fnW v1 (wdF v 48).1 (wdF v 48).2) f)) S9 ∧ lv = [(2, .int (nI f)), (1, .int (nI (L9.length + 1))), (0, .ref g)]) 48 ?_ ⟨0, rfl, ⟨T, by rw [show ctB v1 1202 8 (fnW v1 (wdF v 48).1 (wdF v 48).2) 0 = [] from rfl, List.append_nil]; exact hm0⟩, rfl⟩
    clear hm0 hS hX hB
    rintro n S lv ⟨f, hfn, hmz, rfl⟩ ih
    obtain ⟨T, hm0⟩ := hmz
    have hm1 := hm0
    obtain ⟨v2, hS, hX, hB⟩ := hm1
    have okf := ctB_ok (v := v1) (t := 1202) (M := 8) (B := fnW v1 (wdF v 48).1 (wdF v 48).2) (q := 489) f (fun x hx => fnW_ok hv1 (by omega))
    have okb := uns_b (pS v1 1202 6)
    refine r_iload_n F dX12_write_387 rfl ?_
    refine r_bipush (v := 48) F dX12_write_388 (by decide) ?_
    rw [show (48 : Int32) = nI 48 from rfl]
    refine r_icmp_ge (tgt := 412) F dX12_write_390 (by decide) (fun c390 => ?_) (fun c390 => ?_)
    · have hf48 : f = 48 := by have c9 := c390; rw [nI_leI (by omega) (by omega)] at c9; omega
      subst hf48
      have okB := scA_ok (wdF v 48).1 (wdF v 48).2 hv1
      clear ih okf okb
      refine r_aload_n F dX12_write_412 rfl ?_
      refine r_iload_n F dX12_write_413 rfl ?_
      have hmB : mT S0 g qa v1 T (L9 ++ [bv (nI 10)] ++ (scA v1 (wdF v 48).1 (wdF v 48).2)) S := hm0
      refine c_Vv (ci := 12) F G (mm_sized hmB (t := L9.length + 1) ((haL9.app aB.nil.cons).app okB.1).hb (by first | omega | (simp only [List.length_append, List.length_cons, List.length_nil]; omega)) (by first | omega | (simp only [List.length_append, List.length_cons, List.length_nil]; omega))) (cwV 1 F.2.2.2.2 (zgV km_X12_266 ki_X12_sized ke_X12_X12_sized kn_X12 ko_X12_sized) rfl rfl rfl ⟨rfl, hd_yX12_sized⟩ ⟨Nat.le_of_ble_eq_true rfl, Nat.le_of_ble_eq_true rfl⟩) rfl (by decide) hS.al rfl rfl (Nat.le_of_ble_eq_true rfl) dX12_write_414 ⟨Nat.le_of_ble_eq_true rfl, Nat.le_of_ble_eq_true rfl⟩ (fun S414 hm414 => ?_)
      rw [szd_sec L9 10 (scA v1 (wdF v 48).1 (wdF v 48).2)] at hm414
      obtain ⟨LA, eLA, haLA, hlLA⟩ : ∃ L, L = mdA v1 (wdF v 48).1 (wdF v 48).2 ∧ aB L ∧ L.length ≤ 24200 := ⟨_, rfl, mdA_ok hv1 hnT hnS⟩
      rw [show L9 ++ sec 10 (scA v1 (wdF v 48).1 (wdF v 48).2) = LA by rw [eLA, eL9]; rfl] at hm414
      have hmA := hm414
      obtain ⟨T, hm0⟩ := hm414
      have hm1 := hm0
      obtain ⟨v2, hS, hX, hB⟩ := hm1
      clear okB
      refine r_aload_n F dX12_write_417 rfl ?_
      refine c_Vi (ci := 12) F G (mm_segmentCount hS (hX.L.rg hv1)) (cwV 0 F.2.2.2.2 (zgV km_X12_278 ki_X12_segmentCount ke_X12_X12_segmentCount kn_X12 ko_X12_segmentCount) rfl rfl rfl ⟨rfl, hd_yX12_segmentCount⟩ ⟨Nat.le_of_ble_eq_true rfl, Nat.le_of_ble_eq_true rfl⟩) rfl (by decide) hS.al rfl rfl (Nat.le_of_ble_eq_true rfl) dX12_write_418 ⟨Nat.le_of_ble_eq_true rfl, Nat.le_of_ble_eq_true rfl⟩ (fun r418 S418 h418 => ?_)
      obtain ⟨a418, e418⟩ := h418
      have hs418 := e418.symm
      subst hs418
      rw [pS_6 hX hv1 hA1 (Or.inr (Or.inl rfl))] at a418
      subst a418
      refine r_if_le (tgt := 477) F dX12_write_421 (by decide) (fun c421 => ?_) (fun c421 => ?_)
      · exact e_vret F hr hlk ⟨v1, hF, hT, hU, by rw [← hF.L.emdB]; unfold mdB; rw [if_neg (by have c9 := c421; rw [nl0, nI_leI (by omega) (by omega)] at c9; omega), ← eLA]; exact (by rw [List.append_nil]; exact hmA)⟩ (by decide) (by decide) dX12_write_477
      · have hgp : 0 < pS v1 1203 6 := by have c9 := c421; rw [nl0, nI_leI (by omega) (by omega)] at c9; omega
        refine r_aload_n F dX12_write_424 rfl ?_
        refine r_bipush (v := 11) F dX12_write_425 (by decide) ?_
        refine c_Vi (ci := 12) F G (mm_begin hm0 (x := nI 11) (by first | omega | (simp only [List.length_append, List.length_cons, List.length_nil]; omega))) (cwV 1 F.2.2.2.2 (zgV km_X12_263 ki_X12_begin ke_X12_X12_begin kn_X12 ko_X12_begin) rfl rfl rfl ⟨rfl, hd_yX12_begin⟩ ⟨Nat.le_of_ble_eq_true rfl, Nat.le_of_ble_eq_true rfl⟩) rfl (by decide) hS.al rfl rfl (Nat.le_of_ble_eq_true rfl) dX12_write_427 ⟨Nat.le_of_ble_eq_true rfl, Nat.le_of_ble_eq_true rfl⟩ (fun r427 S427 h427 => ?_)
        obtain ⟨er427, hm427⟩ := h427
        subst er427
        have hm0 := hm427
        obtain ⟨v2, hS, hX, hB⟩ := hm427
        refine r_istore_n F dX12_write_430 (by decide) ?_
        refine r_aload_n F dX12_write_431 rfl ?_
        refine r_aload_n F dX12_write_432 rfl ?_
        refine c_Vi (ci := 12) F G (mm_segmentCount hS (hX.L.rg hv1)) (cwV 0 F.2.2.2.2 (zgV km_X12_278 ki_X12_segmentCount ke_X12_X12_segmentCount kn_X12 ko_X12_segmentCount) rfl rfl rfl ⟨rfl, hd_yX12_segmentCount⟩ ⟨Nat.le_of_ble_eq_true rfl, Nat.le_of_ble_eq_true rfl⟩) rfl (by decide) hS.al rfl rfl (Nat.le_of_ble_eq_true rfl) dX12_write_433 ⟨Nat.le_of_ble_eq_true rfl, Nat.le_of_ble_eq_true rfl⟩ (fun r433 S433 h433 => ?_)
        obtain ⟨a433, e433⟩ := h433
        have hs433 := e433.symm
        subst hs433
        rw [pS_6 hX hv1 hA1 (Or.inr (Or.inl rfl))] at a433
        subst a433
        refine c_Vv (ci := 12) F G (mm_unsigned hm0 (n := pS v1 1203 6) (by omega) (by first | omega | (simp only [List.length_append, List.length_cons, List.length_nil]; omega))) (cwV 1 F.2.2.2.2 (zgV km_X12_245 ki_X12_unsigned ke_X12_X12_unsigned kn_X12 ko_X12_unsigned) rfl rfl rfl ⟨rfl, hd_yX12_unsigned⟩ ⟨Nat.le_of_ble_eq_true rfl, Nat.le_of_ble_eq_true rfl⟩) rfl (by decide) hS.al rfl rfl (Nat.le_of_ble_eq_true rfl) dX12_write_436 ⟨Nat.le_of_ble_eq_true rfl, Nat.le_of_ble_eq_true rfl⟩ (fun S436 hm436 => ?_)
        have hm0 := hm436
        obtain ⟨v2, hS, hX, hB⟩ := hm436
        refine r_iconst (v := 0) F dX12_write_439 (by decide) ?_
        refine r_istore_n F dX12_write_440 (by decide) ?_
        refine zsub (lv' := [(2, .int (nI 0)), (1, .int (nI (LA.length + 1))), (0, .ref g)]) (by simp [zs1, lv_args, Value.category, show ((1 : Fin 4) : Nat) = 1 from rfl, show ((2 : Fin 4) : Nat) = 2 from rfl, show ((3 : Fin 4) : Nat) = 3 from rfl, show nI 0 = (0 : Int32) from rfl]) ?_
        refine z_loop (fun n S9 lv => ∃ f, f + n = 24 ∧ mZ S0 g qa v1 (LA ++ [bv (nI 11)] ++ (uns (pS v1 1203 6) ++ ctB v1 1203 4 (sgB v1) f)) S9 ∧ lv = [(2, .int (nI f)), (1, .int (nI (LA.length + 1))), (0, .ref g)]) 24 ?_ ⟨0, rfl, ⟨T, by rw [show ctB v1 1203 4 (sgB v1) 0 = [] from rfl, List.append_nil]; exact hm0⟩, rfl⟩
        clear hm0 hS hX hB
        rintro n S lv ⟨f, hfn, hmz, rfl⟩ ih
        obtain ⟨T, hm0⟩ := hmz
        have hm1 := hm0
        obtain ⟨v2, hS, hX, hB⟩ := hm1
        have okf := ctB_ok (v := v1) (t := 1203) (M := 4) (B := sgB v1) (q := 77) f (fun x hx => sgB_ok hv1 (by omega))
        have okb := uns_b (pS v1 1203 6)
        refine r_iload_n F dX12_write_441 rfl ?_
        refine r_bipush (v := 24) F dX12_write_442 (by decide) ?_
        rw [show (24 : Int32) = nI 24 from rfl]
        refine r_icmp_ge (tgt := 472) F dX12_write_444 (by decide) (fun c444 => ?_) (fun c444 => ?_)
        · have hf24 : f = 24 := by have c9 := c444; rw [nI_leI (by omega) (by omega)] at c9; omega
          subst hf24
          have okB := scB_ok hv1
          clear ih okf okb
          refine r_aload_n F dX12_write_472 rfl ?_
          refine r_iload_n F dX12_write_473 rfl ?_
          have hmB : mT S0 g qa v1 T (LA ++ [bv (nI 11)] ++ (scB v1)) S := hm0
          refine c_Vv (ci := 12) F G (mm_sized hmB (t := LA.length + 1) ((haLA.app aB.nil.cons).app okB.1).hb (by first | omega | (simp only [List.length_append, List.length_cons, List.length_nil]; omega)) (by first | omega | (simp only [List.length_append, List.length_cons, List.length_nil]; omega))) (cwV 1 F.2.2.2.2 (zgV km_X12_266 ki_X12_sized ke_X12_X12_sized kn_X12 ko_X12_sized) rfl rfl rfl ⟨rfl, hd_yX12_sized⟩ ⟨Nat.le_of_ble_eq_true rfl, Nat.le_of_ble_eq_true rfl⟩) rfl (by decide) hS.al rfl rfl (Nat.le_of_ble_eq_true rfl) dX12_write_474 ⟨Nat.le_of_ble_eq_true rfl, Nat.le_of_ble_eq_true rfl⟩ (fun S474 hm474 => ?_)
          rw [szd_sec LA 11 (scB v1)] at hm474
          exact e_vret F hr hlk ⟨v1, hF, hT, hU, by rw [← hF.L.emdB]; unfold mdB; rw [if_pos hgp, ← eLA]; exact hm474⟩ (by decide) (by decide) dX12_write_477
        · have hf : f < 24 := by have c9 := c444; rw [nI_leI (by omega) (by omega)] at c9; omega
          have hct := rg_1203 hv1 (k := f / 4) (by omega)
          have hct2 := hct.2
          refine r_iload_n F dX12_write_447 rfl ?_
          refine r_iconst (v := 4) F dX12_write_448 (by decide) ?_
          refine r_irem F dX12_write_449 (by decide) ?_
          rw [show nI f - nI f / 4 * 4 = nI (f % 4) from by rw [nl4]; exact nI_mod (by omega) (by omega)]
          refine r_aload_n F dX12_write_450 rfl ?_
          refine gq_segments F G hS dX12_write_451 ?_
          refine r_iload_n F dX12_write_454 rfl ?_
          refine r_iconst (v := 4) F dX12_write_455 (by decide) ?_
          refine r_idiv F dX12_write_456 (by decide) ?_
          rw [show nI f / 4 = nI (f / 4) from by rw [nl4]; exact nI_div (by omega) (by omega)]
          refine al_segments F G hS (f / 4) rfl (by omega) dX12_write_457 ?_
          rw [hX.1 1203 _ (by decide) (by decide), hct.1]
          refine r_icmp_ge (tgt := 466) F dX12_write_458 (by decide) (fun c458 => ?_) (fun c458 => ?_)
          · have htn : ¬ f % 4 < cn v1 1203 (f / 4) := by have c9 := c458; rw [nI_leI (by omega) (by omega)] at c9; omega
            have hmF : mZ S0 g qa v1 _ S := ⟨T, hm0⟩
            refine r_iinc F dX12_write_466 rfl (by decide) ?_
            refine r_goto (tgt := 441) F dX12_write_469 (by decide) ?_
            refine zsub (lv' := [(2, .int (nI (f + 1))), (1, .int (nI (LA.length + 1))), (0, .ref g)]) (by rw [show nI (f + 1) = nI f + Int32.ofInt 1 from (nI_add f 1).symm]; simp [zs1, lv_args, Value.category, show ((1 : Fin 4) : Nat) = 1 from rfl, show ((2 : Fin 4) : Nat) = 2 from rfl, show ((3 : Fin 4) : Nat) = 3 from rfl, show nI 0 = (0 : Int32) from rfl]) ?_
            exact ih (n - 1) _ _ (by omega) ⟨f + 1, by omega, (by rw [show ctB v1 1203 4 (sgB v1) (f + 1) = ctB v1 1203 4 (sgB v1) f from if_neg htn]; exact hmF), rfl⟩
          · have ht : f % 4 < cn v1 1203 (f / 4) := by have c9 := c458; rw [nI_leI (by omega) (by omega)] at c9; omega
            refine r_aload_n F dX12_write_461 rfl ?_
            refine r_iload_n F dX12_write_462 rfl ?_
            refine c_Vv (ci := 12) F G (mm_writeSegment hm0 hv1 hf (by first | omega | (simp only [List.length_append, List.length_cons, List.length_nil]; omega))) (cwV 1 F.2.2.2.2 (zgV km_X12_281 ki_X12_writeSegment ke_X12_X12_writeSegment kn_X12 ko_X12_writeSegment) rfl rfl rfl ⟨rfl, hd_yX12_writeSegment⟩ ⟨Nat.le_of_ble_eq_true rfl, Nat.le_of_ble_eq_true rfl⟩) rfl (by decide) hS.al rfl rfl (Nat.le_of_ble_eq_true rfl) dX12_write_463 ⟨Nat.le_of_ble_eq_true rfl, Nat.le_of_ble_eq_true rfl⟩ (fun S463 hm463 => ?_)
            have hmF : mZ S0 g qa v1 _ S463 := ⟨T, hm463⟩
            refine r_iinc F dX12_write_466 rfl (by decide) ?_
            refine r_goto (tgt := 441) F dX12_write_469 (by decide) ?_
            refine zsub (lv' := [(2, .int (nI (f + 1))), (1, .int (nI (LA.length + 1))), (0, .ref g)]) (by rw [show nI (f + 1) = nI f + Int32.ofInt 1 from (nI_add f 1).symm]; simp [zs1, lv_args, Value.category, show ((1 : Fin 4) : Nat) = 1 from rfl, show ((2 : Fin 4) : Nat) = 2 from rfl, show ((3 : Fin 4) : Nat) = 3 from rfl, show nI 0 = (0 : Int32) from rfl]) ?_
            exact ih (n - 1) _ _ (by omega) ⟨f + 1, by omega, (by rw [show ctB v1 1203 4 (sgB v1) (f + 1) = ctB v1 1203 4 (sgB v1) f ++ sgB v1 f from if_pos ht]; simpa only [List.append_assoc] using hmF), rfl⟩
    · have hf : f < 48 := by have c9 := c390; rw [nI_leI (by omega) (by omega)] at c9; omega
      refine r_aload_n F dX12_write_393 rfl ?_
      refine r_iload_n F dX12_write_394 rfl ?_
      refine c_Vi (ci := 12) F G (mm_isThere hS (hX.L.rg hv1) hf) (cwV 1 F.2.2.2.2 (zgV km_X12_195 ki_X12_isThere ke_X12_X12_isThere kn_X12 ko_X12_isThere) rfl rfl rfl ⟨rfl, hd_yX12_isThere⟩ ⟨Nat.le_of_ble_eq_true rfl, Nat.le_of_ble_eq_true rfl⟩) rfl (by decide) hS.al rfl rfl (Nat.le_of_ble_eq_true rfl) dX12_write_395 ⟨Nat.le_of_ble_eq_true rfl, Nat.le_of_ble_eq_true rfl⟩ (fun r395 S395 h395 => ?_)
      obtain ⟨a395, e395⟩ := h395
      have hs395 := e395.symm
      subst hs395
      refine r_if_eq (tgt := 406) F dX12_write_398 (by decide) (fun c398 => ?_) (fun c398 => ?_)
      · have htn : ¬ f % 8 < cn v1 1202 (f / 8) := by have h9 := a395.f c398; rw [hX.c (by decide) (by decide)] at h9; exact h9
        have hmF : mZ S0 g qa v1 _ S := ⟨T, hm0⟩
        refine r_iinc F dX12_write_406 rfl (by decide) ?_
        refine r_goto (tgt := 387) F dX12_write_409 (by decide) ?_
        refine zsub (lv' := [(2, .int (nI (f + 1))), (1, .int (nI (L9.length + 1))), (0, .ref g)]) (by rw [show nI (f + 1) = nI f + Int32.ofInt 1 from (nI_add f 1).symm]; simp [zs1, lv_args, Value.category, show ((1 : Fin 4) : Nat) = 1 from rfl, show ((2 : Fin 4) : Nat) = 2 from rfl, show ((3 : Fin 4) : Nat) = 3 from rfl, show nI 0 = (0 : Int32) from rfl]) ?_
        exact ih (n - 1) _ _ (by omega) ⟨f + 1, by omega, (by rw [show ctB v1 1202 8 (fnW v1 (wdF v 48).1 (wdF v 48).2) (f + 1) = ctB v1 1202 8 (fnW v1 (wdF v 48).1 (wdF v 48).2) f from if_neg htn]; exact hmF), rfl⟩
      · have ht : f % 8 < cn v1 1202 (f / 8) := by have h9 := a395.t c398; rw [hX.c (by decide) (by decide)] at h9; exact h9
        refine r_aload_n F dX12_write_401 rfl ?_
        refine r_iload_n F dX12_write_402 rfl ?_
        refine c_Vv (ci := 12) F G (mm_writeFunction hm0 hv1 hA1 hD1 hf (hG1 f hf ht) hT hU hnT hnS (h32 f hf ht) (fun k hk9 => hOK.k hf ht hk9) ((haL9.app aB.nil.cons).app ((aB_uns _).app okf.1)) (by first | omega | (simp only [List.length_append, List.length_cons, List.length_nil]; omega))) (cwV 1 F.2.2.2.2 (zgV km_X12_275 ki_X12_writeFunction ke_X12_X12_writeFunction kn_X12 ko_X12_writeFunction) rfl rfl rfl ⟨rfl, hd_yX12_writeFunction⟩ ⟨Nat.le_of_ble_eq_true rfl, Nat.le_of_ble_eq_true rfl⟩) rfl (by decide) hS.al rfl rfl (Nat.le_of_ble_eq_true rfl) dX12_write_403 ⟨Nat.le_of_ble_eq_true rfl, Nat.le_of_ble_eq_true rfl⟩ (fun S403 hm403 => ?_)
        have hmF := hm403
        refine r_iinc F dX12_write_406 rfl (by decide) ?_
        refine r_goto (tgt := 387) F dX12_write_409 (by decide) ?_
        refine zsub (lv' := [(2, .int (nI (f + 1))), (1, .int (nI (L9.length + 1))), (0, .ref g)]) (by rw [show nI (f + 1) = nI f + Int32.ofInt 1 from (nI_add f 1).symm]; simp [zs1, lv_args, Value.category, show ((1 : Fin 4) : Nat) = 1 from rfl, show ((2 : Fin 4) : Nat) = 2 from rfl, show ((3 : Fin 4) : Nat) = 3 from rfl, show nI 0 = (0 : Int32) from rfl]) ?_
        exact ih (n - 1) _ _ (by omega) ⟨f + 1, by omega, (by rw [show ctB v1 1202 8 (fnW v1 (wdF v 48).1 (wdF v 48).2) (f + 1) = ctB v1 1202 8 (fnW v1 (wdF v 48).1 (wdF v 48).2) f ++ fnW v1 (wdF v 48).1 (wdF v 48).2 f from if_pos ht]; simpa only [List.append_assoc] using hmF), rfl⟩
  refine z_cut (fun S9 lv9 => mZ S0 g qa v1 (mdH ++ sec 1 (sc1 (wdF v 48).1)) S9 ∧ lv9 = [(0, .ref g)]) 169 ?_ (fun k169 => ?_)
  · rintro S lv ⟨hmz, rfl⟩
    obtain ⟨L1, eL1, haL1, hlL1⟩ : ∃ L, L = mdH ++ sec 1 (sc1 (wdF v 48).1) ∧ aB L ∧ L.length ≤ 99 := ⟨_, rfl, mdH_ok.1.app (sec_ok (sc1_ok hnT).1).1, by rw [List.length_append, mdH_ok.2]; have h9 := (sec_ok (i := 1) (sc1_ok hnT).1).2; have h8 := (sc1_ok hnT).2; omega⟩
    rw [← eL1] at hmz
    obtain ⟨T, hm0⟩ := hmz
    have hm1 := hm0
    obtain ⟨v2, hS, hX, hB⟩ := hm1
    refine r_aload_n F dX12_write_169 rfl ?_
    refine r_iconst (v := 3) F dX12_write_170 (by decide) ?_
    refine c_Vi (ci := 12) F G (mm_begin hm0 (x := nI 3) (by first | omega | (simp only [List.length_append, List.length_cons, List.length_nil]; omega))) (cwV 1 F.2.2.2.2 (zgV km_X12_263 ki_X12_begin ke_X12_X12_begin kn_X12 ko_X12_begin) rfl rfl rfl ⟨rfl, hd_yX12_begin⟩ ⟨Nat.le_of_ble_eq_true rfl, Nat.le_of_ble_eq_true rfl⟩) rfl (by decide) hS.al rfl rfl (Nat.le_of_ble_eq_true rfl) dX12_write_171 ⟨Nat.le_of_ble_eq_true rfl, Nat.le_of_ble_eq_true rfl⟩ (fun r171 S171 h171 => ?_)
    obtain ⟨er171, hm171⟩ := h171
    subst er171
    have hm0 := hm171
    obtain ⟨v2, hS, hX, hB⟩ := hm171
    refine r_istore_n F dX12_write_174 (by decide) ?_
    refine r_aload_n F dX12_write_175 rfl ?_
    refine r_aload_n F dX12_write_176 rfl ?_
    refine c_Vi (ci := 12) F G (mm_functionCount hS (hX.L.rg hv1)) (cwV 0 F.2.2.2.2 (zgV km_X12_269 ki_X12_functionCount ke_X12_X12_functionCount kn_X12 ko_X12_functionCount) rfl rfl rfl ⟨rfl, hd_yX12_functionCount⟩ ⟨Nat.le_of_ble_eq_true rfl, Nat.le_of_ble_eq_true rfl⟩) rfl (by decide) hS.al rfl rfl (Nat.le_of_ble_eq_true rfl) dX12_write_177 ⟨Nat.le_of_ble_eq_true rfl, Nat.le_of_ble_eq_true rfl⟩ (fun r177 S177 h177 => ?_)
    obtain ⟨a177, e177⟩ := h177
    have hs177 := e177.symm
    subst hs177
    rw [pS_6 hX hv1 hA1 (Or.inl rfl)] at a177
    subst a177
    refine c_Vv (ci := 12) F G (mm_unsigned hm0 (n := pS v1 1202 6) (by omega) (by first | omega | (simp only [List.length_append, List.length_cons, List.length_nil]; omega))) (cwV 1 F.2.2.2.2 (zgV km_X12_245 ki_X12_unsigned ke_X12_X12_unsigned kn_X12 ko_X12_unsigned) rfl rfl rfl ⟨rfl, hd_yX12_unsigned⟩ ⟨Nat.le_of_ble_eq_true rfl, Nat.le_of_ble_eq_true rfl⟩) rfl (by decide) hS.al rfl rfl (Nat.le_of_ble_eq_true rfl) dX12_write_180 ⟨Nat.le_of_ble_eq_true rfl, Nat.le_of_ble_eq_true rfl⟩ (fun S180 hm180 => ?_)
    have hm0 := hm180
    obtain ⟨v2, hS, hX, hB⟩ := hm180
    refine r_iconst (v := 0) F dX12_write_183 (by decide) ?_
    refine r_istore_n F dX12_write_184 (by decide) ?_
    refine zsub (lv' := [(2, .int (nI 0)), (1, .int (nI (L1.length + 1))), (0, .ref g)]) (by simp [zs1, lv_args, Value.category, show ((1 : Fin 4) : Nat) = 1 from rfl, show ((2 : Fin 4) : Nat) = 2 from rfl, show ((3 : Fin 4) : Nat) = 3 from rfl, show nI 0 = (0 : Int32) from rfl]) ?_
    refine z_loop (fun n S9 lv => ∃ f, f + n = 48 ∧ mT S0 g qa v1 T (L1 ++ [bv (nI 3)] ++ (uns (pS v1 1202 6) ++ ctB v1 1202 8 (fun f => uns ((plc (wdF v 48).1 (some (sh v1 f))).getD 0)) f)) S9 ∧ lv = [(2, .int (nI f)), (1, .int (nI (L1.length + 1))), (0, .ref g)]) 48 ?_ ⟨0, rfl, by rw [show ctB v1 1202 8 (fun f => uns ((plc (wdF v 48).1 (some (sh v1 f))).getD 0)) 0 = [] from rfl, List.append_nil]; exact hm0, rfl⟩
    clear hm0 hS hX hB
    rintro n S lv ⟨f, hfn, hm0, rfl⟩ ih
    have hm1 := hm0
    obtain ⟨v2, hS, hX, hB⟩ := hm1
    have okf := ctB_ok (v := v1) (t := 1202) (M := 8) (B := (fun f => uns ((plc (wdF v 48).1 (some (sh v1 f))).getD 0))) (q := 5) f (fun x hx => ⟨aB_uns _, uns_b _⟩)
    have okb := uns_b (pS v1 1202 6)
    refine r_iload_n F dX12_write_185 rfl ?_
    refine r_bipush (v := 48) F dX12_write_186 (by decide) ?_
    rw [show (48 : Int32) = nI 48 from rfl]
    refine r_icmp_ge (tgt := 218) F dX12_write_188 (by decide) (fun c188 => ?_) (fun c188 => ?_)
    · have hf48 : f = 48 := by have c9 := c188; rw [nI_leI (by omega) (by omega)] at c9; omega
      subst hf48
      have okB := sc3_ok v1 (wdF v 48).1
      clear ih okf okb
      refine r_aload_n F dX12_write_218 rfl ?_
      refine r_iload_n F dX12_write_219 rfl ?_
      have hmB : mT S0 g qa v1 T (L1 ++ [bv (nI 3)] ++ (sc3 v1 (wdF v 48).1)) S := hm0
      refine c_Vv (ci := 12) F G (mm_sized hmB (t := L1.length + 1) ((haL1.app aB.nil.cons).app okB.1).hb (by first | omega | (simp only [List.length_append, List.length_cons, List.length_nil]; omega)) (by first | omega | (simp only [List.length_append, List.length_cons, List.length_nil]; omega))) (cwV 1 F.2.2.2.2 (zgV km_X12_266 ki_X12_sized ke_X12_X12_sized kn_X12 ko_X12_sized) rfl rfl rfl ⟨rfl, hd_yX12_sized⟩ ⟨Nat.le_of_ble_eq_true rfl, Nat.le_of_ble_eq_true rfl⟩) rfl (by decide) hS.al rfl rfl (Nat.le_of_ble_eq_true rfl) dX12_write_220 ⟨Nat.le_of_ble_eq_true rfl, Nat.le_of_ble_eq_true rfl⟩ (fun S220 hm220 => ?_)
      rw [szd_sec L1 3 (sc3 v1 (wdF v 48).1)] at hm220
      obtain ⟨L3, eL3, haL3, hlL3⟩ : ∃ L, L = L1 ++ sec 3 (sc3 v1 (wdF v 48).1) ∧ aB L ∧ L.length ≤ 360 := ⟨_, rfl, haL1.app (sec_ok okB.1).1, by rw [List.length_append]; have h9 := (sec_ok (i := 3) okB.1).2; have h8 := okB.2; omega⟩
      rw [← eL3] at hm220
      obtain ⟨T, hm0⟩ := hm220
      have hm1 := hm0
      obtain ⟨v2, hS, hX, hB⟩ := hm1
      clear okB
      refine r_aload_n F dX12_write_223 rfl ?_
      refine r_iconst (v := 4) F dX12_write_224 (by decide) ?_
      refine c_Vi (ci := 12) F G (mm_begin hm0 (x := nI 4) (by first | omega | (simp only [List.length_append, List.length_cons, List.length_nil]; omega))) (cwV 1 F.2.2.2.2 (zgV km_X12_263 ki_X12_begin ke_X12_X12_begin kn_X12 ko_X12_begin) rfl rfl rfl ⟨rfl, hd_yX12_begin⟩ ⟨Nat.le_of_ble_eq_true rfl, Nat.le_of_ble_eq_true rfl⟩) rfl (by decide) hS.al rfl rfl (Nat.le_of_ble_eq_true rfl) dX12_write_225 ⟨Nat.le_of_ble_eq_true rfl, Nat.le_of_ble_eq_true rfl⟩ (fun r225 S225 h225 => ?_)
      obtain ⟨er225, hm225⟩ := h225
      subst er225
      have hm0 := hm225
      obtain ⟨v2, hS, hX, hB⟩ := hm225
      refine r_istore_n F dX12_write_228 (by decide) ?_
      refine r_aload_n F dX12_write_229 rfl ?_
      refine r_iconst (v := 1) F dX12_write_230 (by decide) ?_
      refine c_Vv (ci := 12) F G (mm_put hm0 (x := nI 1) (by first | omega | (simp only [List.length_append, List.length_cons, List.length_nil]; omega))) (cwV 1 F.2.2.2.2 (zgV km_X12_235 ki_X12_put ke_X12_X12_put kn_X12 ko_X12_put) rfl rfl rfl ⟨rfl, hd_yX12_put⟩ ⟨Nat.le_of_ble_eq_true rfl, Nat.le_of_ble_eq_true rfl⟩) rfl (by decide) hS.al rfl rfl (Nat.le_of_ble_eq_true rfl) dX12_write_231 ⟨Nat.le_of_ble_eq_true rfl, Nat.le_of_ble_eq_true rfl⟩ (fun S231 hm231 => ?_)
      have hm0 := hm231
      obtain ⟨v2, hS, hX, hB⟩ := hm231
      refine r_aload_n F dX12_write_234 rfl ?_
      refine r_bipush (v := 112) F dX12_write_235 (by decide) ?_
      refine c_Vv (ci := 12) F G (mm_put hm0 (x := nI 112) (by first | omega | (simp only [List.length_append, List.length_cons, List.length_nil]; omega))) (cwV 1 F.2.2.2.2 (zgV km_X12_235 ki_X12_put ke_X12_X12_put kn_X12 ko_X12_put) rfl rfl rfl ⟨rfl, hd_yX12_put⟩ ⟨Nat.le_of_ble_eq_true rfl, Nat.le_of_ble_eq_true rfl⟩) rfl (by decide) hS.al rfl rfl (Nat.le_of_ble_eq_true rfl) dX12_write_237 ⟨Nat.le_of_ble_eq_true rfl, Nat.le_of_ble_eq_true rfl⟩ (fun S237 hm237 => ?_)
      have hm0 := hm237
      obtain ⟨v2, hS, hX, hB⟩ := hm237
      refine r_aload_n F dX12_write_240 rfl ?_
      refine r_iconst (v := 0) F dX12_write_241 (by decide) ?_
      refine c_Vv (ci := 12) F G (mm_put hm0 (x := nI 0) (by first | omega | (simp only [List.length_append, List.length_cons, List.length_nil]; omega))) (cwV 1 F.2.2.2.2 (zgV km_X12_235 ki_X12_put ke_X12_X12_put kn_X12 ko_X12_put) rfl rfl rfl ⟨rfl, hd_yX12_put⟩ ⟨Nat.le_of_ble_eq_true rfl, Nat.le_of_ble_eq_true rfl⟩) rfl (by decide) hS.al rfl rfl (Nat.le_of_ble_eq_true rfl) dX12_write_242 ⟨Nat.le_of_ble_eq_true rfl, Nat.le_of_ble_eq_true rfl⟩ (fun S242 hm242 => ?_)
      have hm0 := hm242
      obtain ⟨v2, hS, hX, hB⟩ := hm242
      refine r_aload_n F dX12_write_245 rfl ?_
      refine r_aload_n F dX12_write_246 rfl ?_
      refine gi_slots F G hS dX12_write_247 ?_
      rw [hX.1 1225 0 (by decide) (by decide), hU.1]
      have hlS := hlS0
      refine r_iconst (v := 1) F dX12_write_250 (by decide) ?_
      refine r_iadd F dX12_write_251 ?_
      rw [show nI (wdF v 48).2.length + 1 = nI ((wdF v 48).2.length + 1) from nI_add _ 1]
      refine c_Vv (ci := 12) F G (mm_unsigned hm0 (n := ((wdF v 48).2.length + 1)) (by omega) (by first | omega | (simp only [List.length_append, List.length_cons, List.length_nil]; omega))) (cwV 1 F.2.2.2.2 (zgV km_X12_245 ki_X12_unsigned ke_X12_X12_unsigned kn_X12 ko_X12_unsigned) rfl rfl rfl ⟨rfl, hd_yX12_unsigned⟩ ⟨Nat.le_of_ble_eq_true rfl, Nat.le_of_ble_eq_true rfl⟩) rfl (by decide) hS.al rfl rfl (Nat.le_of_ble_eq_true rfl) dX12_write_252 ⟨Nat.le_of_ble_eq_true rfl, Nat.le_of_ble_eq_true rfl⟩ (fun S252 hm252 => ?_)
      have hm0 := hm252
      obtain ⟨v2, hS, hX, hB⟩ := hm252
      refine r_aload_n F dX12_write_255 rfl ?_
      refine r_iload_n F dX12_write_256 rfl ?_
      have hmB : mT S0 g qa v1 T (L3 ++ [bv (nI 4)] ++ sc4 (wdF v 48).2) S252 := by
        unfold sc4
        simpa only [List.append_assoc, List.cons_append, List.nil_append] using hm0
      have okB := sc4_ok (wdF v 48).2
      refine c_Vv (ci := 12) F G (mm_sized hmB (t := L3.length + 1) ((haL3.app aB.nil.cons).app okB.1).hb (by first | omega | (simp only [List.length_append, List.length_cons, List.length_nil]; omega)) (by first | omega | (simp only [List.length_append, List.length_cons, List.length_nil]; omega))) (cwV 1 F.2.2.2.2 (zgV km_X12_266 ki_X12_sized ke_X12_X12_sized kn_X12 ko_X12_sized) rfl rfl rfl ⟨rfl, hd_yX12_sized⟩ ⟨Nat.le_of_ble_eq_true rfl, Nat.le_of_ble_eq_true rfl⟩) rfl (by decide) hS.al rfl rfl (Nat.le_of_ble_eq_true rfl) dX12_write_257 ⟨Nat.le_of_ble_eq_true rfl, Nat.le_of_ble_eq_true rfl⟩ (fun S257 hm257 => ?_)
      rw [szd_sec L3 4 (sc4 (wdF v 48).2)] at hm257
      obtain ⟨L4, eL4, haL4, hlL4⟩ : ∃ L, L = L3 ++ sec 4 (sc4 (wdF v 48).2) ∧ aB L ∧ L.length ≤ 374 := ⟨_, rfl, haL3.app (sec_ok okB.1).1, by rw [List.length_append]; have h9 := (sec_ok (i := 4) okB.1).2; have h8 := okB.2; omega⟩
      rw [← eL4] at hm257
      obtain ⟨T, hm0⟩ := hm257
      have hm1 := hm0
      obtain ⟨v2, hS, hX, hB⟩ := hm1
      clear okB
      refine r_aload_n F dX12_write_260 rfl ?_
      refine r_iconst (v := 5) F dX12_write_261 (by decide) ?_
      refine c_Vi (ci := 12) F G (mm_begin hm0 (x := nI 5) (by first | omega | (simp only [List.length_append, List.length_cons, List.length_nil]; omega))) (cwV 1 F.2.2.2.2 (zgV km_X12_263 ki_X12_begin ke_X12_X12_begin kn_X12 ko_X12_begin) rfl rfl rfl ⟨rfl, hd_yX12_begin⟩ ⟨Nat.le_of_ble_eq_true rfl, Nat.le_of_ble_eq_true rfl⟩) rfl (by decide) hS.al rfl rfl (Nat.le_of_ble_eq_true rfl) dX12_write_262 ⟨Nat.le_of_ble_eq_true rfl, Nat.le_of_ble_eq_true rfl⟩ (fun r262 S262 h262 => ?_)
      obtain ⟨er262, hm262⟩ := h262
      subst er262
      have hm0 := hm262
      obtain ⟨v2, hS, hX, hB⟩ := hm262
      refine r_istore_n F dX12_write_265 (by decide) ?_
      refine r_aload_n F dX12_write_266 rfl ?_
      refine r_iconst (v := 1) F dX12_write_267 (by decide) ?_
      refine c_Vv (ci := 12) F G (mm_put hm0 (x := nI 1) (by first | omega | (simp only [List.length_append, List.length_cons, List.length_nil]; omega))) (cwV 1 F.2.2.2.2 (zgV km_X12_235 ki_X12_put ke_X12_X12_put kn_X12 ko_X12_put) rfl rfl rfl ⟨rfl, hd_yX12_put⟩ ⟨Nat.le_of_ble_eq_true rfl, Nat.le_of_ble_eq_true rfl⟩) rfl (by decide) hS.al rfl rfl (Nat.le_of_ble_eq_true rfl) dX12_write_268 ⟨Nat.le_of_ble_eq_true rfl, Nat.le_of_ble_eq_true rfl⟩ (fun S268 hm268 => ?_)
      have hm0 := hm268
      obtain ⟨v2, hS, hX, hB⟩ := hm268
      refine r_aload_n F dX12_write_271 rfl ?_
      refine r_iconst (v := 0) F dX12_write_272 (by decide) ?_
      refine c_Vv (ci := 12) F G (mm_put hm0 (x := nI 0) (by first | omega | (simp only [List.length_append, List.length_cons, List.length_nil]; omega))) (cwV 1 F.2.2.2.2 (zgV km_X12_235 ki_X12_put ke_X12_X12_put kn_X12 ko_X12_put) rfl rfl rfl ⟨rfl, hd_yX12_put⟩ ⟨Nat.le_of_ble_eq_true rfl, Nat.le_of_ble_eq_true rfl⟩) rfl (by decide) hS.al rfl rfl (Nat.le_of_ble_eq_true rfl) dX12_write_273 ⟨Nat.le_of_ble_eq_true rfl, Nat.le_of_ble_eq_true rfl⟩ (fun S273 hm273 => ?_)
      have hm0 := hm273
      obtain ⟨v2, hS, hX, hB⟩ := hm273
      refine r_aload_n F dX12_write_276 rfl ?_
      refine r_iconst (v := 1) F dX12_write_277 (by decide) ?_
      refine c_Vv (ci := 12) F G (mm_put hm0 (x := nI 1) (by first | omega | (simp only [List.length_append, List.length_cons, List.length_nil]; omega))) (cwV 1 F.2.2.2.2 (zgV km_X12_235 ki_X12_put ke_X12_X12_put kn_X12 ko_X12_put) rfl rfl rfl ⟨rfl, hd_yX12_put⟩ ⟨Nat.le_of_ble_eq_true rfl, Nat.le_of_ble_eq_true rfl⟩) rfl (by decide) hS.al rfl rfl (Nat.le_of_ble_eq_true rfl) dX12_write_278 ⟨Nat.le_of_ble_eq_true rfl, Nat.le_of_ble_eq_true rfl⟩ (fun S278 hm278 => ?_)
      have hm0 := hm278
      obtain ⟨v2, hS, hX, hB⟩ := hm278
      refine r_aload_n F dX12_write_281 rfl ?_
      refine r_iload_n F dX12_write_282 rfl ?_
      have hmB : mT S0 g qa v1 T (L4 ++ [bv (nI 5)] ++ sc5) S278 := by
        unfold sc5
        simpa only [List.append_assoc, List.cons_append, List.nil_append] using hm0
      have okB : aB sc5 ∧ sc5.length ≤ 3 := ⟨sc5_ok.1, Nat.le_of_eq sc5_ok.2⟩
      refine c_Vv (ci := 12) F G (mm_sized hmB (t := L4.length + 1) ((haL4.app aB.nil.cons).app okB.1).hb (by first | omega | (simp only [List.length_append, List.length_cons, List.length_nil]; omega)) (by first | omega | (simp only [List.length_append, List.length_cons, List.length_nil]; omega))) (cwV 1 F.2.2.2.2 (zgV km_X12_266 ki_X12_sized ke_X12_X12_sized kn_X12 ko_X12_sized) rfl rfl rfl ⟨rfl, hd_yX12_sized⟩ ⟨Nat.le_of_ble_eq_true rfl, Nat.le_of_ble_eq_true rfl⟩) rfl (by decide) hS.al rfl rfl (Nat.le_of_ble_eq_true rfl) dX12_write_283 ⟨Nat.le_of_ble_eq_true rfl, Nat.le_of_ble_eq_true rfl⟩ (fun S283 hm283 => ?_)
      rw [szd_sec L4 5 sc5] at hm283
      obtain ⟨L5, eL5, haL5, hlL5⟩ : ∃ L, L = md5 v1 (wdF v 48).1 (wdF v 48).2 ∧ aB L ∧ L.length ≤ 400 := ⟨_, rfl, md5_ok v1 hnT⟩
      rw [show L4 ++ sec 5 sc5 = L5 by rw [eL5, eL4, eL3, eL1]; rfl] at hm283
      have hm5 := hm283
      obtain ⟨T, hm0⟩ := hm283
      have hm1 := hm0
      obtain ⟨v2, hS, hX, hB⟩ := hm1
      clear okB
      refine r_aload_n F dX12_write_286 rfl ?_
      refine gi_slots F G hS dX12_write_287 ?_
      rw [hX.1 1225 0 (by decide) (by decide), hU.1]
      refine r_if_le (tgt := 370) F dX12_write_290 (by decide) (fun c290 => ?_) (fun c290 => ?_)
      · refine zsub (lv' := [(0, .ref g)]) (by simp [zs1, lv_args, Value.category, show ((1 : Fin 4) : Nat) = 1 from rfl, show ((2 : Fin 4) : Nat) = 2 from rfl, show ((3 : Fin 4) : Nat) = 3 from rfl, show nI 0 = (0 : Int32) from rfl]) ?_
        exact k370 _ _ ⟨by unfold md9; rw [if_neg (by have c9 := c290; rw [nl0, nI_leI (by omega) (by omega)] at c9; omega), ← eL5]; exact (by rw [List.append_nil]; exact hm5), rfl⟩
      · have hsp : 0 < (wdF v 48).2.length := by have c9 := c290; rw [nl0, nI_leI (by omega) (by omega)] at c9; omega
        refine r_aload_n F dX12_write_293 rfl ?_
        refine r_bipush (v := 9) F dX12_write_294 (by decide) ?_
        refine c_Vi (ci := 12) F G (mm_begin hm0 (x := nI 9) (by first | omega | (simp only [List.length_append, List.length_cons, List.length_nil]; omega))) (cwV 1 F.2.2.2.2 (zgV km_X12_263 ki_X12_begin ke_X12_X12_begin kn_X12 ko_X12_begin) rfl rfl rfl ⟨rfl, hd_yX12_begin⟩ ⟨Nat.le_of_ble_eq_true rfl, Nat.le_of_ble_eq_true rfl⟩) rfl (by decide) hS.al rfl rfl (Nat.le_of_ble_eq_true rfl) dX12_write_296 ⟨Nat.le_of_ble_eq_true rfl, Nat.le_of_ble_eq_true rfl⟩ (fun r296 S296 h296 => ?_)
        obtain ⟨er296, hm296⟩ := h296
        subst er296
        have hm0 := hm296
        obtain ⟨v2, hS, hX, hB⟩ := hm296
        refine r_istore_n F dX12_write_299 (by decide) ?_
        refine r_aload_n F dX12_write_300 rfl ?_
        refine r_iconst (v := 1) F dX12_write_301 (by decide) ?_
        refine c_Vv (ci := 12) F G (mm_put hm0 (x := nI 1) (by first | omega | (simp only [List.length_append, List.length_cons, List.length_nil]; omega))) (cwV 1 F.2.2.2.2 (zgV km_X12_235 ki_X12_put ke_X12_X12_put kn_X12 ko_X12_put) rfl rfl rfl ⟨rfl, hd_yX12_put⟩ ⟨Nat.le_of_ble_eq_true rfl, Nat.le_of_ble_eq_true rfl⟩) rfl (by decide) hS.al rfl rfl (Nat.le_of_ble_eq_true rfl) dX12_write_302 ⟨Nat.le_of_ble_eq_true rfl, Nat.le_of_ble_eq_true rfl⟩ (fun S302 hm302 => ?_)
        have hm0 := hm302
        obtain ⟨v2, hS, hX, hB⟩ := hm302
        refine r_aload_n F dX12_write_305 rfl ?_
        refine r_iconst (v := 0) F dX12_write_306 (by decide) ?_
        refine c_Vv (ci := 12) F G (mm_put hm0 (x := nI 0) (by first | omega | (simp only [List.length_append, List.length_cons, List.length_nil]; omega))) (cwV 1 F.2.2.2.2 (zgV km_X12_235 ki_X12_put ke_X12_X12_put kn_X12 ko_X12_put) rfl rfl rfl ⟨rfl, hd_yX12_put⟩ ⟨Nat.le_of_ble_eq_true rfl, Nat.le_of_ble_eq_true rfl⟩) rfl (by decide) hS.al rfl rfl (Nat.le_of_ble_eq_true rfl) dX12_write_307 ⟨Nat.le_of_ble_eq_true rfl, Nat.le_of_ble_eq_true rfl⟩ (fun S307 hm307 => ?_)
        have hm0 := hm307
        obtain ⟨v2, hS, hX, hB⟩ := hm307
        refine r_aload_n F dX12_write_310 rfl ?_
        refine r_bipush (v := 65) F dX12_write_311 (by decide) ?_
        refine c_Vv (ci := 12) F G (mm_put hm0 (x := nI 65) (by first | omega | (simp only [List.length_append, List.length_cons, List.length_nil]; omega))) (cwV 1 F.2.2.2.2 (zgV km_X12_235 ki_X12_put ke_X12_X12_put kn_X12 ko_X12_put) rfl rfl rfl ⟨rfl, hd_yX12_put⟩ ⟨Nat.le_of_ble_eq_true rfl, Nat.le_of_ble_eq_true rfl⟩) rfl (by decide) hS.al rfl rfl (Nat.le_of_ble_eq_true rfl) dX12_write_313 ⟨Nat.le_of_ble_eq_true rfl, Nat.le_of_ble_eq_true rfl⟩ (fun S313 hm313 => ?_)
        have hm0 := hm313
        obtain ⟨v2, hS, hX, hB⟩ := hm313
        refine r_aload_n F dX12_write_316 rfl ?_
        refine r_iconst (v := 1) F dX12_write_317 (by decide) ?_
        refine c_Vv (ci := 12) F G (mm_put hm0 (x := nI 1) (by first | omega | (simp only [List.length_append, List.length_cons, List.length_nil]; omega))) (cwV 1 F.2.2.2.2 (zgV km_X12_235 ki_X12_put ke_X12_X12_put kn_X12 ko_X12_put) rfl rfl rfl ⟨rfl, hd_yX12_put⟩ ⟨Nat.le_of_ble_eq_true rfl, Nat.le_of_ble_eq_true rfl⟩) rfl (by decide) hS.al rfl rfl (Nat.le_of_ble_eq_true rfl) dX12_write_318 ⟨Nat.le_of_ble_eq_true rfl, Nat.le_of_ble_eq_true rfl⟩ (fun S318 hm318 => ?_)
        have hm0 := hm318
        obtain ⟨v2, hS, hX, hB⟩ := hm318
        refine r_aload_n F dX12_write_321 rfl ?_
        refine r_bipush (v := 11) F dX12_write_322 (by decide) ?_
        refine c_Vv (ci := 12) F G (mm_put hm0 (x := nI 11) (by first | omega | (simp only [List.length_append, List.length_cons, List.length_nil]; omega))) (cwV 1 F.2.2.2.2 (zgV km_X12_235 ki_X12_put ke_X12_X12_put kn_X12 ko_X12_put) rfl rfl rfl ⟨rfl, hd_yX12_put⟩ ⟨Nat.le_of_ble_eq_true rfl, Nat.le_of_ble_eq_true rfl⟩) rfl (by decide) hS.al rfl rfl (Nat.le_of_ble_eq_true rfl) dX12_write_324 ⟨Nat.le_of_ble_eq_true rfl, Nat.le_of_ble_eq_true rfl⟩ (fun S324 hm324 => ?_)
        have hm0 := hm324
        obtain ⟨v2, hS, hX, hB⟩ := hm324
        refine r_aload_n F dX12_write_327 rfl ?_
        refine r_aload_n F dX12_write_328 rfl ?_
        refine gi_slots F G hS dX12_write_329 ?_
        rw [hX.1 1225 0 (by decide) (by decide), hU.1]
        refine c_Vv (ci := 12) F G (mm_unsigned hm0 (n := (wdF v 48).2.length) (by omega) (by first | omega | (simp only [List.length_append, List.length_cons, List.length_nil]; omega))) (cwV 1 F.2.2.2.2 (zgV km_X12_245 ki_X12_unsigned ke_X12_X12_unsigned kn_X12 ko_X12_unsigned) rfl rfl rfl ⟨rfl, hd_yX12_unsigned⟩ ⟨Nat.le_of_ble_eq_true rfl, Nat.le_of_ble_eq_true rfl⟩) rfl (by decide) hS.al rfl rfl (Nat.le_of_ble_eq_true rfl) dX12_write_332 ⟨Nat.le_of_ble_eq_true rfl, Nat.le_of_ble_eq_true rfl⟩ (fun S332 hm332 => ?_)
        have hm0 := hm332
        obtain ⟨v2, hS, hX, hB⟩ := hm332
        refine r_iconst (v := 0) F dX12_write_335 (by decide) ?_
        refine r_istore_n F dX12_write_336 (by decide) ?_
        refine zsub (lv' := [(2, .int (nI 0)), (1, .int (nI (L5.length + 1))), (0, .ref g)]) (by simp [zs1, lv_args, Value.category, show ((1 : Fin 4) : Nat) = 1 from rfl, show ((2 : Fin 4) : Nat) = 2 from rfl, show ((3 : Fin 4) : Nat) = 3 from rfl, show nI 0 = (0 : Int32) from rfl]) ?_
        refine z_loop (fun n S9 lv => ∃ f, f + n = (wdF v 48).2.length ∧ mT S0 g qa v1 T (L5 ++ [bv (nI 9)] ++ (bv (nI 1) :: bv (nI 0) :: bv (nI 65) :: bv (nI 1) :: bv (nI 11) :: (uns (wdF v 48).2.length ++ lsB (wdF v 48).2 (fun f => uns (pN v1 1202 8 f)) f))) S9 ∧ lv = [(2, .int (nI f)), (1, .int (nI (L5.length + 1))), (0, .ref g)]) (wdF v 48).2.length ?_ ⟨0, Nat.zero_add _, by rw [show lsB (wdF v 48).2 (fun f => uns (pN v1 1202 8 f)) 0 = [] from rfl, List.append_nil]; simpa only [List.append_assoc, List.cons_append, List.nil_append] using hm0, rfl⟩
        clear hm0 hS hX hB
        rintro n S lv ⟨f, hfn, hm0, rfl⟩ ih
        have hm1 := hm0
        obtain ⟨v2, hS, hX, hB⟩ := hm1
        have okf := lsB_ok (Ts := (wdF v 48).2) (B := fun f => uns (pN v1 1202 8 f)) (q := 5) f (fun x hx => ⟨aB_uns _, uns_b _⟩)
        have okb := uns_b (wdF v 48).2.length
        refine r_iload_n F dX12_write_337 rfl ?_
        refine r_aload_n F dX12_write_338 rfl ?_
        refine gi_slots F G hS dX12_write_339 ?_
        rw [hX.1 1225 0 (by decide) (by decide), hU.1]
        refine r_icmp_ge (tgt := 365) F dX12_write_342 (by decide) (fun c342 => ?_) (fun c342 => ?_)
        · have hfe : f = (wdF v 48).2.length := by have c9 := c342; rw [nI_leI (by omega) (by omega)] at c9; omega
          subst hfe
          have okB := sc9_ok v1 hnS
          clear ih okf okb
          refine r_aload_n F dX12_write_365 rfl ?_
          refine r_iload_n F dX12_write_366 rfl ?_
          have hmB : mT S0 g qa v1 T (L5 ++ [bv (nI 9)] ++ (sc9 v1 (wdF v 48).2)) S := hm0
          refine c_Vv (ci := 12) F G (mm_sized hmB (t := L5.length + 1) ((haL5.app aB.nil.cons).app okB.1).hb (by first | omega | (simp only [List.length_append, List.length_cons, List.length_nil]; omega)) (by first | omega | (simp only [List.length_append, List.length_cons, List.length_nil]; omega))) (cwV 1 F.2.2.2.2 (zgV km_X12_266 ki_X12_sized ke_X12_X12_sized kn_X12 ko_X12_sized) rfl rfl rfl ⟨rfl, hd_yX12_sized⟩ ⟨Nat.le_of_ble_eq_true rfl, Nat.le_of_ble_eq_true rfl⟩) rfl (by decide) hS.al rfl rfl (Nat.le_of_ble_eq_true rfl) dX12_write_367 ⟨Nat.le_of_ble_eq_true rfl, Nat.le_of_ble_eq_true rfl⟩ (fun S367 hm367 => ?_)
          rw [szd_sec L5 9 (sc9 v1 (wdF v 48).2)] at hm367
          refine zsub (lv' := [(0, .ref g)]) (by simp [zs1, lv_args, Value.category, show ((1 : Fin 4) : Nat) = 1 from rfl, show ((2 : Fin 4) : Nat) = 2 from rfl, show ((3 : Fin 4) : Nat) = 3 from rfl, show nI 0 = (0 : Int32) from rfl]) ?_
          exact k370 _ _ ⟨by unfold md9; rw [if_pos hsp, ← eL5]; exact hm367, rfl⟩
        · have hf : f < (wdF v 48).2.length := by have c9 := c342; rw [nI_leI (by omega) (by omega)] at c9; omega
          have hs48 := hnS.2 _ (getD_mem hf)
          refine r_aload_n F dX12_write_345 rfl ?_
          refine r_aload_n F dX12_write_346 rfl ?_
          refine r_aload_n F dX12_write_347 rfl ?_
          refine gq_slot F G hS dX12_write_348 ?_
          refine r_iload_n F dX12_write_351 rfl ?_
          refine al_slot F G hS (f) rfl (by omega) dX12_write_352 ?_
          rw [hX.1 1224 _ (by decide) (by decide), hU.2 f hf]
          refine c_Vi (ci := 12) F G (mm_numberOf hS (hX.L.rg hv1) hs48) (cwV 1 F.2.2.2.2 (zgV km_X12_272 ki_X12_numberOf ke_X12_X12_numberOf kn_X12 ko_X12_numberOf) rfl rfl rfl ⟨rfl, hd_yX12_numberOf⟩ ⟨Nat.le_of_ble_eq_true rfl, Nat.le_of_ble_eq_true rfl⟩) rfl (by decide) hS.al rfl rfl (Nat.le_of_ble_eq_true rfl) dX12_write_353 ⟨Nat.le_of_ble_eq_true rfl, Nat.le_of_ble_eq_true rfl⟩ (fun r353 S353 h353 => ?_)
          obtain ⟨a353, e353⟩ := h353
          have hs353 := e353.symm
          subst hs353
          rw [show pS v2 1202 ((wdF v 48).2.getD f 0 / 8) + (wdF v 48).2.getD f 0 % 8 = pN v1 1202 8 ((wdF v 48).2.getD f 0) from hX.L.epN (by omega) 8 _] at a353
          subst a353
          have hpn : pN v1 1202 8 ((wdF v 48).2.getD f 0) < 2 ^ 31 := by unfold pN; have := pS_le hv1 ((wdF v 48).2.getD f 0 / 8) (by omega); omega
          refine c_Vv (ci := 12) F G (mm_unsigned hm0 (n := pN v1 1202 8 ((wdF v 48).2.getD f 0)) hpn (by first | omega | (simp only [List.length_append, List.length_cons, List.length_nil]; omega))) (cwV 1 F.2.2.2.2 (zgV km_X12_245 ki_X12_unsigned ke_X12_X12_unsigned kn_X12 ko_X12_unsigned) rfl rfl rfl ⟨rfl, hd_yX12_unsigned⟩ ⟨Nat.le_of_ble_eq_true rfl, Nat.le_of_ble_eq_true rfl⟩) rfl (by decide) hS.al rfl rfl (Nat.le_of_ble_eq_true rfl) dX12_write_356 ⟨Nat.le_of_ble_eq_true rfl, Nat.le_of_ble_eq_true rfl⟩ (fun S356 hm356 => ?_)
          have hm0 := hm356
          obtain ⟨v2, hS, hX, hB⟩ := hm356
          refine r_iinc F dX12_write_359 rfl (by decide) ?_
          refine r_goto (tgt := 337) F dX12_write_362 (by decide) ?_
          refine zsub (lv' := [(2, .int (nI (f + 1))), (1, .int (nI (L5.length + 1))), (0, .ref g)]) (by rw [show nI (f + 1) = nI f + Int32.ofInt 1 from (nI_add f 1).symm]; simp [zs1, lv_args, Value.category, show ((1 : Fin 4) : Nat) = 1 from rfl, show ((2 : Fin 4) : Nat) = 2 from rfl, show ((3 : Fin 4) : Nat) = 3 from rfl, show nI 0 = (0 : Int32) from rfl]) ?_
          exact ih (n - 1) _ _ (by omega) ⟨f + 1, by omega, (by rw [show lsB (wdF v 48).2 (fun f => uns (pN v1 1202 8 f)) (f + 1) = lsB (wdF v 48).2 (fun f => uns (pN v1 1202 8 f)) f ++ uns (pN v1 1202 8 ((wdF v 48).2.getD f 0)) from rfl]; simpa only [List.append_assoc, List.cons_append, List.nil_append] using hm0), rfl⟩
    · have hf : f < 48 := by have c9 := c188; rw [nI_leI (by omega) (by omega)] at c9; omega
      refine r_aload_n F dX12_write_191 rfl ?_
      refine r_iload_n F dX12_write_192 rfl ?_
      refine c_Vi (ci := 12) F G (mm_isThere hS (hX.L.rg hv1) hf) (cwV 1 F.2.2.2.2 (zgV km_X12_195 ki_X12_isThere ke_X12_X12_isThere kn_X12 ko_X12_isThere) rfl rfl rfl ⟨rfl, hd_yX12_isThere⟩ ⟨Nat.le_of_ble_eq_true rfl, Nat.le_of_ble_eq_true rfl⟩) rfl (by decide) hS.al rfl rfl (Nat.le_of_ble_eq_true rfl) dX12_write_193 ⟨Nat.le_of_ble_eq_true rfl, Nat.le_of_ble_eq_true rfl⟩ (fun r193 S193 h193 => ?_)
      obtain ⟨a193, e193⟩ := h193
      have hs193 := e193.symm
      subst hs193
      refine r_if_eq (tgt := 212) F dX12_write_196 (by decide) (fun c196 => ?_) (fun c196 => ?_)
      · have htn : ¬ f % 8 < cn v1 1202 (f / 8) := by have h9 := a193.f c196; rw [hX.c (by decide) (by decide)] at h9; exact h9
        refine r_iinc F dX12_write_212 rfl (by decide) ?_
        refine r_goto (tgt := 185) F dX12_write_215 (by decide) ?_
        refine zsub (lv' := [(2, .int (nI (f + 1))), (1, .int (nI (L1.length + 1))), (0, .ref g)]) (by rw [show nI (f + 1) = nI f + Int32.ofInt 1 from (nI_add f 1).symm]; simp [zs1, lv_args, Value.category, show ((1 : Fin 4) : Nat) = 1 from rfl, show ((2 : Fin 4) : Nat) = 2 from rfl, show ((3 : Fin 4) : Nat) = 3 from rfl, show nI 0 = (0 : Int32) from rfl]) ?_
        exact ih (n - 1) _ _ (by omega) ⟨f + 1, by omega, (by rw [show ctB v1 1202 8 (fun f => uns ((plc (wdF v 48).1 (some (sh v1 f))).getD 0)) (f + 1) = ctB v1 1202 8 (fun f => uns ((plc (wdF v 48).1 (some (sh v1 f))).getD 0)) f from if_neg htn]; exact hm0), rfl⟩
      · have ht : f % 8 < cn v1 1202 (f / 8) := by have h9 := a193.t c196; rw [hX.c (by decide) (by decide)] at h9; exact h9
        refine r_aload_n F dX12_write_199 rfl ?_
        refine r_aload_n F dX12_write_200 rfl ?_
        refine r_aload_n F dX12_write_201 rfl ?_
        refine r_iload_n F dX12_write_202 rfl ?_
        refine c_Vi (ci := 12) F G (mm_shape hS (hX.L.rg hv1) hf) (cwV 1 F.2.2.2.2 (zgV km_X12_156 ki_X12_shape ke_X12_X12_shape kn_X12 ko_X12_shape) rfl rfl rfl ⟨rfl, hd_yX12_shape⟩ ⟨Nat.le_of_ble_eq_true rfl, Nat.le_of_ble_eq_true rfl⟩) rfl (by decide) hS.al rfl rfl (Nat.le_of_ble_eq_true rfl) dX12_write_203 ⟨Nat.le_of_ble_eq_true rfl, Nat.le_of_ble_eq_true rfl⟩ (fun r203 S203 h203 => ?_)
        obtain ⟨a203, e203⟩ := h203
        have hs203 := e203.symm
        subst hs203
        rw [hX.L.esh] at a203
        subst a203
        have hsh := sh_le hv1 hf
        refine c_Vi (ci := 12) F G (mm_typeOf hS (hX.Q (by decide) (by decide) hT) (by omega) (fun k hk => Nat.lt_trans (hnT.2 _ (getD_mem hk)) (by decide)) (t := sh v1 f) (by omega)) (cwV 1 F.2.2.2.2 (zgV km_X12_254 ki_X12_typeOf ke_X12_X12_typeOf kn_X12 ko_X12_typeOf) rfl rfl rfl ⟨rfl, hd_yX12_typeOf⟩ ⟨Nat.le_of_ble_eq_true rfl, Nat.le_of_ble_eq_true rfl⟩) rfl (by decide) hS.al rfl rfl (Nat.le_of_ble_eq_true rfl) dX12_write_206 ⟨Nat.le_of_ble_eq_true rfl, Nat.le_of_ble_eq_true rfl⟩ (fun r206 S206 h206 => ?_)
        obtain ⟨j, hj9, ej, er206, es206⟩ : ∃ j, j < (wdF v 48).1.length ∧ plc (wdF v 48).1 (some (sh v1 f)) = some j ∧ r206 = nI j ∧ S206 = S := by
          rcases h206 with ⟨k, e1, e2, e3, e4⟩ | ⟨e1, _⟩
          · exact ⟨k, e2, e1, e3, e4⟩
          · obtain ⟨j, ej⟩ := hPT f hf ht
            rw [ej] at e1
            cases e1
        subst er206
        have hs206 := es206.symm
        subst hs206
        refine c_Vv (ci := 12) F G (mm_unsigned hm0 (n := j) (by omega) (by first | omega | (simp only [List.length_append, List.length_cons, List.length_nil]; omega))) (cwV 1 F.2.2.2.2 (zgV km_X12_245 ki_X12_unsigned ke_X12_X12_unsigned kn_X12 ko_X12_unsigned) rfl rfl rfl ⟨rfl, hd_yX12_unsigned⟩ ⟨Nat.le_of_ble_eq_true rfl, Nat.le_of_ble_eq_true rfl⟩) rfl (by decide) hS.al rfl rfl (Nat.le_of_ble_eq_true rfl) dX12_write_209 ⟨Nat.le_of_ble_eq_true rfl, Nat.le_of_ble_eq_true rfl⟩ (fun S209 hm209 => ?_)
        have hm0 := hm209
        obtain ⟨v2, hS, hX, hB⟩ := hm209
        refine r_iinc F dX12_write_212 rfl (by decide) ?_
        refine r_goto (tgt := 185) F dX12_write_215 (by decide) ?_
        refine zsub (lv' := [(2, .int (nI (f + 1))), (1, .int (nI (L1.length + 1))), (0, .ref g)]) (by rw [show nI (f + 1) = nI f + Int32.ofInt 1 from (nI_add f 1).symm]; simp [zs1, lv_args, Value.category, show ((1 : Fin 4) : Nat) = 1 from rfl, show ((2 : Fin 4) : Nat) = 2 from rfl, show ((3 : Fin 4) : Nat) = 3 from rfl, show nI 0 = (0 : Int32) from rfl]) ?_
        exact ih (n - 1) _ _ (by omega) ⟨f + 1, by omega, (by rw [show ctB v1 1202 8 (fun f => uns ((plc (wdF v 48).1 (some (sh v1 f))).getD 0)) (f + 1) = ctB v1 1202 8 (fun f => uns ((plc (wdF v 48).1 (some (sh v1 f))).getD 0)) f ++ uns j from (if_pos ht).trans (congrArg (fun z => ctB v1 1202 8 (fun f => uns ((plc (wdF v 48).1 (some (sh v1 f))).getD 0)) f ++ uns z) (by rw [ej]; rfl))]; simpa only [List.append_assoc] using hm0), rfl⟩
  refine r_aload_n F dX12_write_4 rfl ?_
  refine r_iconst (v := 0) F dX12_write_5 (by decide) ?_
  refine pi_moduleSize F G hS dX12_write_6 (fun S hS => ?_)
  have hm0 : mT S0 g qa v1 (fun k => v1.1 1222 k) [] S := ⟨_, hS, vM.rf.u (Or.inr rfl), u1_s, fun k hk => absurd hk (Nat.not_lt_zero k), fun k _ => u1_n (Or.inl (by decide))⟩
  have hm1 := hm0
  obtain ⟨v2, hS, hX, hB⟩ := hm1
  generalize (fun k => v1.1 1222 k) = T at hm0 hB
  refine r_aload_n F dX12_write_9 rfl ?_
  refine r_iconst (v := 0) F dX12_write_10 (by decide) ?_
  refine c_Vv (ci := 12) F G (mm_put hm0 (x := nI 0) (by first | omega | (simp only [List.length_append, List.length_cons, List.length_nil]; omega))) (cwV 1 F.2.2.2.2 (zgV km_X12_235 ki_X12_put ke_X12_X12_put kn_X12 ko_X12_put) rfl rfl rfl ⟨rfl, hd_yX12_put⟩ ⟨Nat.le_of_ble_eq_true rfl, Nat.le_of_ble_eq_true rfl⟩) rfl (by decide) hS.al rfl rfl (Nat.le_of_ble_eq_true rfl) dX12_write_11 ⟨Nat.le_of_ble_eq_true rfl, Nat.le_of_ble_eq_true rfl⟩ (fun S11 hm11 => ?_)
  have hm0 := hm11
  obtain ⟨v2, hS, hX, hB⟩ := hm11
  refine r_aload_n F dX12_write_14 rfl ?_
  refine r_bipush (v := 97) F dX12_write_15 (by decide) ?_
  refine c_Vv (ci := 12) F G (mm_put hm0 (x := nI 97) (by first | omega | (simp only [List.length_append, List.length_cons, List.length_nil]; omega))) (cwV 1 F.2.2.2.2 (zgV km_X12_235 ki_X12_put ke_X12_X12_put kn_X12 ko_X12_put) rfl rfl rfl ⟨rfl, hd_yX12_put⟩ ⟨Nat.le_of_ble_eq_true rfl, Nat.le_of_ble_eq_true rfl⟩) rfl (by decide) hS.al rfl rfl (Nat.le_of_ble_eq_true rfl) dX12_write_17 ⟨Nat.le_of_ble_eq_true rfl, Nat.le_of_ble_eq_true rfl⟩ (fun S17 hm17 => ?_)
  have hm0 := hm17
  obtain ⟨v2, hS, hX, hB⟩ := hm17
  refine r_aload_n F dX12_write_20 rfl ?_
  refine r_bipush (v := 115) F dX12_write_21 (by decide) ?_
  refine c_Vv (ci := 12) F G (mm_put hm0 (x := nI 115) (by first | omega | (simp only [List.length_append, List.length_cons, List.length_nil]; omega))) (cwV 1 F.2.2.2.2 (zgV km_X12_235 ki_X12_put ke_X12_X12_put kn_X12 ko_X12_put) rfl rfl rfl ⟨rfl, hd_yX12_put⟩ ⟨Nat.le_of_ble_eq_true rfl, Nat.le_of_ble_eq_true rfl⟩) rfl (by decide) hS.al rfl rfl (Nat.le_of_ble_eq_true rfl) dX12_write_23 ⟨Nat.le_of_ble_eq_true rfl, Nat.le_of_ble_eq_true rfl⟩ (fun S23 hm23 => ?_)
  have hm0 := hm23
  obtain ⟨v2, hS, hX, hB⟩ := hm23
  refine r_aload_n F dX12_write_26 rfl ?_
  refine r_bipush (v := 109) F dX12_write_27 (by decide) ?_
  refine c_Vv (ci := 12) F G (mm_put hm0 (x := nI 109) (by first | omega | (simp only [List.length_append, List.length_cons, List.length_nil]; omega))) (cwV 1 F.2.2.2.2 (zgV km_X12_235 ki_X12_put ke_X12_X12_put kn_X12 ko_X12_put) rfl rfl rfl ⟨rfl, hd_yX12_put⟩ ⟨Nat.le_of_ble_eq_true rfl, Nat.le_of_ble_eq_true rfl⟩) rfl (by decide) hS.al rfl rfl (Nat.le_of_ble_eq_true rfl) dX12_write_29 ⟨Nat.le_of_ble_eq_true rfl, Nat.le_of_ble_eq_true rfl⟩ (fun S29 hm29 => ?_)
  have hm0 := hm29
  obtain ⟨v2, hS, hX, hB⟩ := hm29
  refine r_aload_n F dX12_write_32 rfl ?_
  refine r_iconst (v := 1) F dX12_write_33 (by decide) ?_
  refine c_Vv (ci := 12) F G (mm_put hm0 (x := nI 1) (by first | omega | (simp only [List.length_append, List.length_cons, List.length_nil]; omega))) (cwV 1 F.2.2.2.2 (zgV km_X12_235 ki_X12_put ke_X12_X12_put kn_X12 ko_X12_put) rfl rfl rfl ⟨rfl, hd_yX12_put⟩ ⟨Nat.le_of_ble_eq_true rfl, Nat.le_of_ble_eq_true rfl⟩) rfl (by decide) hS.al rfl rfl (Nat.le_of_ble_eq_true rfl) dX12_write_34 ⟨Nat.le_of_ble_eq_true rfl, Nat.le_of_ble_eq_true rfl⟩ (fun S34 hm34 => ?_)
  have hm0 := hm34
  obtain ⟨v2, hS, hX, hB⟩ := hm34
  refine r_aload_n F dX12_write_37 rfl ?_
  refine r_iconst (v := 0) F dX12_write_38 (by decide) ?_
  refine c_Vv (ci := 12) F G (mm_put hm0 (x := nI 0) (by first | omega | (simp only [List.length_append, List.length_cons, List.length_nil]; omega))) (cwV 1 F.2.2.2.2 (zgV km_X12_235 ki_X12_put ke_X12_X12_put kn_X12 ko_X12_put) rfl rfl rfl ⟨rfl, hd_yX12_put⟩ ⟨Nat.le_of_ble_eq_true rfl, Nat.le_of_ble_eq_true rfl⟩) rfl (by decide) hS.al rfl rfl (Nat.le_of_ble_eq_true rfl) dX12_write_39 ⟨Nat.le_of_ble_eq_true rfl, Nat.le_of_ble_eq_true rfl⟩ (fun S39 hm39 => ?_)
  have hm0 := hm39
  obtain ⟨v2, hS, hX, hB⟩ := hm39
  refine r_aload_n F dX12_write_42 rfl ?_
  refine r_iconst (v := 0) F dX12_write_43 (by decide) ?_
  refine c_Vv (ci := 12) F G (mm_put hm0 (x := nI 0) (by first | omega | (simp only [List.length_append, List.length_cons, List.length_nil]; omega))) (cwV 1 F.2.2.2.2 (zgV km_X12_235 ki_X12_put ke_X12_X12_put kn_X12 ko_X12_put) rfl rfl rfl ⟨rfl, hd_yX12_put⟩ ⟨Nat.le_of_ble_eq_true rfl, Nat.le_of_ble_eq_true rfl⟩) rfl (by decide) hS.al rfl rfl (Nat.le_of_ble_eq_true rfl) dX12_write_44 ⟨Nat.le_of_ble_eq_true rfl, Nat.le_of_ble_eq_true rfl⟩ (fun S44 hm44 => ?_)
  have hm0 := hm44
  obtain ⟨v2, hS, hX, hB⟩ := hm44
  refine r_aload_n F dX12_write_47 rfl ?_
  refine r_iconst (v := 0) F dX12_write_48 (by decide) ?_
  refine c_Vv (ci := 12) F G (mm_put hm0 (x := nI 0) (by first | omega | (simp only [List.length_append, List.length_cons, List.length_nil]; omega))) (cwV 1 F.2.2.2.2 (zgV km_X12_235 ki_X12_put ke_X12_X12_put kn_X12 ko_X12_put) rfl rfl rfl ⟨rfl, hd_yX12_put⟩ ⟨Nat.le_of_ble_eq_true rfl, Nat.le_of_ble_eq_true rfl⟩) rfl (by decide) hS.al rfl rfl (Nat.le_of_ble_eq_true rfl) dX12_write_49 ⟨Nat.le_of_ble_eq_true rfl, Nat.le_of_ble_eq_true rfl⟩ (fun S49 hm49 => ?_)
  have hm0 := hm49
  obtain ⟨v2, hS, hX, hB⟩ := hm49
  obtain ⟨LH, eLH, haLH, hlLH⟩ : ∃ L, L = mdH ∧ aB L ∧ L.length = 8 := ⟨_, rfl, mdH_ok⟩
  have hm9 : mT S0 g qa v1 T LH S49 := by rw [eLH]; exact hm0
  have hm0 := hm9
  refine r_aload_n F dX12_write_52 rfl ?_
  refine r_iconst (v := 1) F dX12_write_53 (by decide) ?_
  refine c_Vi (ci := 12) F G (mm_begin hm0 (x := nI 1) (by first | omega | (simp only [List.length_append, List.length_cons, List.length_nil]; omega))) (cwV 1 F.2.2.2.2 (zgV km_X12_263 ki_X12_begin ke_X12_X12_begin kn_X12 ko_X12_begin) rfl rfl rfl ⟨rfl, hd_yX12_begin⟩ ⟨Nat.le_of_ble_eq_true rfl, Nat.le_of_ble_eq_true rfl⟩) rfl (by decide) hS.al rfl rfl (Nat.le_of_ble_eq_true rfl) dX12_write_54 ⟨Nat.le_of_ble_eq_true rfl, Nat.le_of_ble_eq_true rfl⟩ (fun r54 S54 h54 => ?_)
  obtain ⟨er54, hm54⟩ := h54
  subst er54
  have hm0 := hm54
  obtain ⟨v2, hS, hX, hB⟩ := hm54
  refine r_istore_n F dX12_write_57 (by decide) ?_
  refine r_aload_n F dX12_write_58 rfl ?_
  refine r_aload_n F dX12_write_59 rfl ?_
  refine gi_types F G hS dX12_write_60 ?_
  rw [hX.1 1227 0 (by decide) (by decide), hT.1]
  refine c_Vv (ci := 12) F G (mm_unsigned hm0 (n := (wdF v 48).1.length) (by omega) (by first | omega | (simp only [List.length_append, List.length_cons, List.length_nil]; omega))) (cwV 1 F.2.2.2.2 (zgV km_X12_245 ki_X12_unsigned ke_X12_X12_unsigned kn_X12 ko_X12_unsigned) rfl rfl rfl ⟨rfl, hd_yX12_unsigned⟩ ⟨Nat.le_of_ble_eq_true rfl, Nat.le_of_ble_eq_true rfl⟩) rfl (by decide) hS.al rfl rfl (Nat.le_of_ble_eq_true rfl) dX12_write_63 ⟨Nat.le_of_ble_eq_true rfl, Nat.le_of_ble_eq_true rfl⟩ (fun S63 hm63 => ?_)
  have hm0 := hm63
  obtain ⟨v2, hS, hX, hB⟩ := hm63
  refine r_iconst (v := 0) F dX12_write_66 (by decide) ?_
  refine r_istore_n F dX12_write_67 (by decide) ?_
  refine zsub (lv' := [(2, .int (nI 0)), (1, .int (nI (LH.length + 1))), (0, .ref g)]) (by simp [zs1, lv_args, Value.category, show ((1 : Fin 4) : Nat) = 1 from rfl, show ((2 : Fin 4) : Nat) = 2 from rfl, show ((3 : Fin 4) : Nat) = 3 from rfl, show nI 0 = (0 : Int32) from rfl]) ?_
  refine z_loop (fun n S9 lv => ∃ k, k + n = (wdF v 48).1.length ∧ mT S0 g qa v1 T (LH ++ [bv (nI 1)] ++ (uns (wdF v 48).1.length ++ lsB (wdF v 48).1 tyB k)) S9 ∧ lv = [(2, .int (nI k)), (1, .int (nI (LH.length + 1))), (0, .ref g)]) (wdF v 48).1.length ?_ ⟨0, Nat.zero_add _, by rw [show lsB (wdF v 48).1 tyB 0 = [] from rfl, List.append_nil]; exact hm0, rfl⟩
  clear hm0 hS hX hB
  rintro n S lv ⟨k, hkn, hm0, rfl⟩ ih
  have hm1 := hm0
  obtain ⟨v2, hS, hX, hB⟩ := hm1
  refine r_iload_n F dX12_write_68 rfl ?_
  refine r_aload_n F dX12_write_69 rfl ?_
  refine gi_types F G hS dX12_write_70 ?_
  rw [hX.1 1227 0 (by decide) (by decide), hT.1]
  refine r_icmp_ge (tgt := 164) F dX12_write_73 (by decide) (fun c73 => ?_) (fun c73 => ?_)
  · have hke : k = (wdF v 48).1.length := by have c9 := c73; rw [nI_leI (by omega) (by omega)] at c9; omega
    subst hke
    have okB := sc1_ok hnT
    clear ih
    refine r_aload_n F dX12_write_164 rfl ?_
    refine r_iload_n F dX12_write_165 rfl ?_
    have hmB : mT S0 g qa v1 T (LH ++ [bv (nI 1)] ++ (sc1 (wdF v 48).1)) S := hm0
    refine c_Vv (ci := 12) F G (mm_sized hmB (t := LH.length + 1) ((haLH.app aB.nil.cons).app okB.1).hb (by first | omega | (simp only [List.length_append, List.length_cons, List.length_nil]; omega)) (by first | omega | (simp only [List.length_append, List.length_cons, List.length_nil]; omega))) (cwV 1 F.2.2.2.2 (zgV km_X12_266 ki_X12_sized ke_X12_X12_sized kn_X12 ko_X12_sized) rfl rfl rfl ⟨rfl, hd_yX12_sized⟩ ⟨Nat.le_of_ble_eq_true rfl, Nat.le_of_ble_eq_true rfl⟩) rfl (by decide) hS.al rfl rfl (Nat.le_of_ble_eq_true rfl) dX12_write_166 ⟨Nat.le_of_ble_eq_true rfl, Nat.le_of_ble_eq_true rfl⟩ (fun S166 hm166 => ?_)
    rw [szd_sec LH 1 (sc1 (wdF v 48).1)] at hm166
    refine zsub (lv' := [(0, .ref g)]) (by simp [zs1, lv_args, Value.category, show ((1 : Fin 4) : Nat) = 1 from rfl, show ((2 : Fin 4) : Nat) = 2 from rfl, show ((3 : Fin 4) : Nat) = 3 from rfl, show nI 0 = (0 : Int32) from rfl]) ?_
    exact k169 _ _ ⟨by rw [← eLH]; exact hm166, rfl⟩
  · have hk9 : k < (wdF v 48).1.length := by have c9 := c73; rw [nI_leI (by omega) (by omega)] at c9; omega
    have ht10 := hnT.2 _ (getD_mem hk9)
    generalize htd : (wdF v 48).1.getD k 0 = t at ht10
    have hPl : (LH ++ [bv (nI 1)] ++ (uns (wdF v 48).1.length ++ lsB (wdF v 48).1 tyB k)).length ≤ 200 := by
      have h1 := lsB_ok (Ts := (wdF v 48).1) (B := tyB) (q := 8) k (fun j hj => tyB_ok (hnT.2 _ (getD_mem (by omega))))
      have h2 := uns_b (wdF v 48).1.length
      have h3 := h1.2
      simp only [List.length_append, List.length_cons, List.length_nil]
      omega
    generalize hP : LH ++ [bv (nI 1)] ++ (uns (wdF v 48).1.length ++ lsB (wdF v 48).1 tyB k) = P at hm0 hPl
    refine r_aload_n F dX12_write_76 rfl ?_
    refine r_bipush (v := 96) F dX12_write_77 (by decide) ?_
    refine c_Vv (ci := 12) F G (mm_put hm0 (x := nI 96) (by first | omega | (simp only [List.length_append, List.length_cons, List.length_nil]; omega))) (cwV 1 F.2.2.2.2 (zgV km_X12_235 ki_X12_put ke_X12_X12_put kn_X12 ko_X12_put) rfl rfl rfl ⟨rfl, hd_yX12_put⟩ ⟨Nat.le_of_ble_eq_true rfl, Nat.le_of_ble_eq_true rfl⟩) rfl (by decide) hS.al rfl rfl (Nat.le_of_ble_eq_true rfl) dX12_write_79 ⟨Nat.le_of_ble_eq_true rfl, Nat.le_of_ble_eq_true rfl⟩ (fun S79 hm79 => ?_)
    have hm0 := hm79
    obtain ⟨v2, hS, hX, hB⟩ := hm79
    refine r_aload_n F dX12_write_82 rfl ?_
    refine r_aload_n F dX12_write_83 rfl ?_
    refine gq_type F G hS dX12_write_84 ?_
    refine r_iload_n F dX12_write_87 rfl ?_
    refine al_type F G hS (k) rfl (by omega) dX12_write_88 ?_
    rw [hX.1 1226 _ (by decide) (by decide), hT.2 k hk9, htd]
    refine r_iconst (v := 2) F dX12_write_89 (by decide) ?_
    refine r_idiv F dX12_write_90 (by decide) ?_
    rw [show nI t / 2 = nI (t / 2) from by rw [nl2]; exact nI_div (by omega) (by omega)]
    refine c_Vv (ci := 12) F G (mm_put hm0 (x := nI (t / 2)) (by first | omega | (simp only [List.length_append, List.length_cons, List.length_nil]; omega))) (cwV 1 F.2.2.2.2 (zgV km_X12_235 ki_X12_put ke_X12_X12_put kn_X12 ko_X12_put) rfl rfl rfl ⟨rfl, hd_yX12_put⟩ ⟨Nat.le_of_ble_eq_true rfl, Nat.le_of_ble_eq_true rfl⟩) rfl (by decide) hS.al rfl rfl (Nat.le_of_ble_eq_true rfl) dX12_write_91 ⟨Nat.le_of_ble_eq_true rfl, Nat.le_of_ble_eq_true rfl⟩ (fun S91 hm91 => ?_)
    have hm0 := hm91
    obtain ⟨v2, hS, hX, hB⟩ := hm91
    refine r_iconst (v := 0) F dX12_write_94 (by decide) ?_
    refine r_istore_n F dX12_write_95 (by decide) ?_
    refine zsub (lv' := [(3, .int (nI 0)), (2, .int (nI k)), (1, .int (nI (LH.length + 1))), (0, .ref g)]) (by simp [zs1, lv_args, Value.category, show ((1 : Fin 4) : Nat) = 1 from rfl, show ((2 : Fin 4) : Nat) = 2 from rfl, show ((3 : Fin 4) : Nat) = 3 from rfl, show nI 0 = (0 : Int32) from rfl]) ?_
    refine z_loop (fun n9 S9 lv => ∃ j, j + n9 = t / 2 ∧ mT S0 g qa v1 T (P ++ [bv (nI 96)] ++ [bv (nI (t / 2))] ++ vlB j) S9 ∧ lv = [(3, .int (nI j)), (2, .int (nI k)), (1, .int (nI (LH.length + 1))), (0, .ref g)]) (t / 2) ?_ ⟨0, Nat.zero_add _, by rw [show vlB 0 = [] from rfl, List.append_nil]; exact hm0, rfl⟩
    clear hm0 hS hX hB
    rintro n9 S lv ⟨j, hjn, hm0, rfl⟩ ih9
    have hm1 := hm0
    obtain ⟨v2, hS, hX, hB⟩ := hm1
    have hvl := (vlB_ok j).2
    refine r_iload_n F dX12_write_96 rfl ?_
    refine r_aload_n F dX12_write_97 rfl ?_
    refine gq_type F G hS dX12_write_98 ?_
    refine r_iload_n F dX12_write_101 rfl ?_
    refine al_type F G hS (k) rfl (by omega) dX12_write_102 ?_
    rw [hX.1 1226 _ (by decide) (by decide), hT.2 k hk9, htd]
    refine r_iconst (v := 2) F dX12_write_103 (by decide) ?_
    refine r_idiv F dX12_write_104 (by decide) ?_
    rw [show nI t / 2 = nI (t / 2) from by rw [nl2]; exact nI_div (by omega) (by omega)]
    refine r_icmp_ge (tgt := 120) F dX12_write_105 (by decide) (fun c105 => ?_) (fun c105 => ?_)
    · have hje : j = t / 2 := by have c9 := c105; rw [nI_leI (by omega) (by omega)] at c9; omega
      subst hje
      clear ih9 hvl
      have hvl2 := (vlB_ok (t / 2)).2
      refine r_aload_n F dX12_write_120 rfl ?_
      refine r_aload_n F dX12_write_121 rfl ?_
      refine gq_type F G hS dX12_write_122 ?_
      refine r_iload_n F dX12_write_125 rfl ?_
      refine al_type F G hS (k) rfl (by omega) dX12_write_126 ?_
      rw [hX.1 1226 _ (by decide) (by decide), hT.2 k hk9, htd]
      refine r_iconst (v := 2) F dX12_write_127 (by decide) ?_
      refine r_irem F dX12_write_128 (by decide) ?_
      rw [show nI t - nI t / 2 * 2 = nI (t % 2) from by rw [nl2]; exact nI_mod (by omega) (by omega)]
      refine c_Vv (ci := 12) F G (mm_put hm0 (x := nI (t % 2)) (by first | omega | (simp only [List.length_append, List.length_cons, List.length_nil]; omega))) (cwV 1 F.2.2.2.2 (zgV km_X12_235 ki_X12_put ke_X12_X12_put kn_X12 ko_X12_put) rfl rfl rfl ⟨rfl, hd_yX12_put⟩ ⟨Nat.le_of_ble_eq_true rfl, Nat.le_of_ble_eq_true rfl⟩) rfl (by decide) hS.al rfl rfl (Nat.le_of_ble_eq_true rfl) dX12_write_129 ⟨Nat.le_of_ble_eq_true rfl, Nat.le_of_ble_eq_true rfl⟩ (fun S129 hm129 => ?_)
      have hm0 := hm129
      obtain ⟨v2, hS, hX, hB⟩ := hm129
      refine r_iconst (v := 0) F dX12_write_132 (by decide) ?_
      refine r_istore_n F dX12_write_133 (by decide) ?_
      refine zsub (lv' := [(3, .int (nI 0)), (2, .int (nI k)), (1, .int (nI (LH.length + 1))), (0, .ref g)]) (by simp [zs1, lv_args, Value.category, show ((1 : Fin 4) : Nat) = 1 from rfl, show ((2 : Fin 4) : Nat) = 2 from rfl, show ((3 : Fin 4) : Nat) = 3 from rfl, show nI 0 = (0 : Int32) from rfl]) ?_
      refine z_loop (fun n9 S9 lv => ∃ j, j + n9 = t % 2 ∧ mT S0 g qa v1 T (P ++ [bv (nI 96)] ++ [bv (nI (t / 2))] ++ vlB (t / 2) ++ [bv (nI (t % 2))] ++ vlB j) S9 ∧ lv = [(3, .int (nI j)), (2, .int (nI k)), (1, .int (nI (LH.length + 1))), (0, .ref g)]) (t % 2) ?_ ⟨0, Nat.zero_add _, by rw [show vlB 0 = [] from rfl, List.append_nil]; exact hm0, rfl⟩
      clear hm0 hS hX hB
      rintro n9 S lv ⟨j, hjn, hm0, rfl⟩ ih9
      have hm1 := hm0
      obtain ⟨v2, hS, hX, hB⟩ := hm1
      have hvl := (vlB_ok j).2
      refine r_iload_n F dX12_write_134 rfl ?_
      refine r_aload_n F dX12_write_135 rfl ?_
      refine gq_type F G hS dX12_write_136 ?_
      refine r_iload_n F dX12_write_139 rfl ?_
      refine al_type F G hS (k) rfl (by omega) dX12_write_140 ?_
      rw [hX.1 1226 _ (by decide) (by decide), hT.2 k hk9, htd]
      refine r_iconst (v := 2) F dX12_write_141 (by decide) ?_
      refine r_irem F dX12_write_142 (by decide) ?_
      rw [show nI t - nI t / 2 * 2 = nI (t % 2) from by rw [nl2]; exact nI_mod (by omega) (by omega)]
      refine r_icmp_ge (tgt := 158) F dX12_write_143 (by decide) (fun c143 => ?_) (fun c143 => ?_)
      · have hje : j = t % 2 := by have c9 := c143; rw [nI_leI (by omega) (by omega)] at c9; omega
        subst hje
        refine r_iinc F dX12_write_158 rfl (by decide) ?_
        refine r_goto (tgt := 68) F dX12_write_161 (by decide) ?_
        refine zsub (lv' := [(2, .int (nI (k + 1))), (1, .int (nI (LH.length + 1))), (0, .ref g)]) (by rw [show nI (k + 1) = nI k + Int32.ofInt 1 from (nI_add k 1).symm]; simp [zs1, lv_args, Value.category, show ((1 : Fin 4) : Nat) = 1 from rfl, show ((2 : Fin 4) : Nat) = 2 from rfl, show ((3 : Fin 4) : Nat) = 3 from rfl, show nI 0 = (0 : Int32) from rfl]) ?_
        exact ih (n - 1) _ _ (by omega) ⟨k + 1, by omega, (by
          rw [show lsB (wdF v 48).1 tyB (k + 1) = lsB (wdF v 48).1 tyB k ++ tyB t by rw [← htd]; rfl, ← List.append_assoc (uns _), ← List.append_assoc (LH ++ _), hP]
          unfold tyB
          simpa only [List.append_assoc, List.cons_append, List.nil_append] using hm0), rfl⟩
      · have hjl : j < t % 2 := by have c9 := c143; rw [nI_leI (by omega) (by omega)] at c9; omega
        refine r_aload_n F dX12_write_146 rfl ?_
        refine r_bipush (v := 126) F dX12_write_147 (by decide) ?_
        refine c_Vv (ci := 12) F G (mm_put hm0 (x := nI 126) (by first | omega | (simp only [List.length_append, List.length_cons, List.length_nil]; omega))) (cwV 1 F.2.2.2.2 (zgV km_X12_235 ki_X12_put ke_X12_X12_put kn_X12 ko_X12_put) rfl rfl rfl ⟨rfl, hd_yX12_put⟩ ⟨Nat.le_of_ble_eq_true rfl, Nat.le_of_ble_eq_true rfl⟩) rfl (by decide) hS.al rfl rfl (Nat.le_of_ble_eq_true rfl) dX12_write_149 ⟨Nat.le_of_ble_eq_true rfl, Nat.le_of_ble_eq_true rfl⟩ (fun S149 hm149 => ?_)
        have hm0 := hm149
        obtain ⟨v2, hS, hX, hB⟩ := hm149
        refine r_iinc F dX12_write_152 rfl (by decide) ?_
        refine r_goto (tgt := 134) F dX12_write_155 (by decide) ?_
        refine zsub (lv' := [(3, .int (nI (j + 1))), (2, .int (nI k)), (1, .int (nI (LH.length + 1))), (0, .ref g)]) (by rw [show nI (j + 1) = nI j + Int32.ofInt 1 from (nI_add j 1).symm]; simp [zs1, lv_args, Value.category, show ((1 : Fin 4) : Nat) = 1 from rfl, show ((2 : Fin 4) : Nat) = 2 from rfl, show ((3 : Fin 4) : Nat) = 3 from rfl, show nI 0 = (0 : Int32) from rfl]) ?_
        exact ih9 (n9 - 1) _ _ (by omega) ⟨j + 1, by omega, by rw [vlB_s, ← List.append_assoc]; exact hm0, rfl⟩
    · have hjl : j < t / 2 := by have c9 := c105; rw [nI_leI (by omega) (by omega)] at c9; omega
      refine r_aload_n F dX12_write_108 rfl ?_
      refine r_bipush (v := 126) F dX12_write_109 (by decide) ?_
      refine c_Vv (ci := 12) F G (mm_put hm0 (x := nI 126) (by first | omega | (simp only [List.length_append, List.length_cons, List.length_nil]; omega))) (cwV 1 F.2.2.2.2 (zgV km_X12_235 ki_X12_put ke_X12_X12_put kn_X12 ko_X12_put) rfl rfl rfl ⟨rfl, hd_yX12_put⟩ ⟨Nat.le_of_ble_eq_true rfl, Nat.le_of_ble_eq_true rfl⟩) rfl (by decide) hS.al rfl rfl (Nat.le_of_ble_eq_true rfl) dX12_write_111 ⟨Nat.le_of_ble_eq_true rfl, Nat.le_of_ble_eq_true rfl⟩ (fun S111 hm111 => ?_)
      have hm0 := hm111
      obtain ⟨v2, hS, hX, hB⟩ := hm111
      refine r_iinc F dX12_write_114 rfl (by decide) ?_
      refine r_goto (tgt := 96) F dX12_write_117 (by decide) ?_
      refine zsub (lv' := [(3, .int (nI (j + 1))), (2, .int (nI k)), (1, .int (nI (LH.length + 1))), (0, .ref g)]) (by rw [show nI (j + 1) = nI j + Int32.ofInt 1 from (nI_add j 1).symm]; simp [zs1, lv_args, Value.category, show ((1 : Fin 4) : Nat) = 1 from rfl, show ((2 : Fin 4) : Nat) = 2 from rfl, show ((3 : Fin 4) : Nat) = 3 from rfl, show nI 0 = (0 : Int32) from rfl]) ?_
      exact ih9 (n9 - 1) _ _ (by omega) ⟨j + 1, by omega, by rw [vlB_s, ← List.append_assoc]; exact hm0, rfl⟩
