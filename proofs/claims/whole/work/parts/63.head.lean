theorem i_and15 (a : Int32) : ∃ j : Nat, j < 16 ∧ a &&& 15 = nI j := by
  have h : (a &&& 15).toBitVec.toNat < 16 := by
    rw [Int32.toBitVec_and, BitVec.toNat_and]
    exact Nat.lt_of_le_of_lt Nat.and_le_right (by decide)
  refine ⟨(a &&& 15).toBitVec.toNat, h, Int32.toBitVec_inj.mp ?_⟩
  show (a &&& 15).toBitVec = (Int32.ofNat _).toBitVec
  rw [Int32.toBitVec_ofNat', BitVec.ofNat_toNat, BitVec.setWidth_eq]
theorem nI_sub8 {L : Nat} (h : L < 2 ^ 31) : (nI L - 8).toInt = (L : Int) - 8 := by
  rw [Int32.toInt_sub, nI_toInt h, show (8 : Int32).toInt = 8 by decide]
  rw [Int.bmod_def]
  split <;> omega
section ZLH
variable {p : Program} {l : Launch} {e : Env} {R : Room} {s : State} {m : MethodId} {args : Array Value} {below : List Frame} {meth : Method} {c : Code} {Q : State → Prop} {N0 : Nat} {D : va_G} {cy : Nat → ClassId} {cells slots : Nat} {z : Cond} {S : zS}
set_option maxRecDepth 100000 in
set_option maxHeartbeats 4000000 in
theorem lh_head (F : CallFix p m c cL_law 8 s args (z :: lw_good) RL) {b L : Nat} {xs : Nat → Int32} (hX : va_X b L xs s s.heap) (hbl : b < s.heap.size) (hbN : b < N0) {i : Nat} (hi : i ≤ 2 ^ 30) (hL : L < 2 ^ 30) {x g o : Nat} (ke : ¬ i + 8 ≤ L → zW p l e R s m args below meth c Q N0 D cy 8 cells slots S [(4, .int (nI i)), (3, .ref o), (2, .ref g), (1, .ref x), (0, .ref b)] 1180 []) (k0 : i + 8 ≤ L → zW p l e R s m args below meth c Q N0 D cy 8 cells slots S [(4, .int (nI i)), (3, .ref o), (2, .ref g), (1, .ref x), (0, .ref b)] 112 []) (k1 : i + 8 ≤ L → zW p l e R s m args below meth c Q N0 D cy 8 cells slots S [(4, .int (nI i)), (3, .ref o), (2, .ref g), (1, .ref x), (0, .ref b)] 156 []) (k2 : i + 8 ≤ L → zW p l e R s m args below meth c Q N0 D cy 8 cells slots S [(4, .int (nI i)), (3, .ref o), (2, .ref g), (1, .ref x), (0, .ref b)] 248 []) (k3 : i + 8 ≤ L → zW p l e R s m args below meth c Q N0 D cy 8 cells slots S [(4, .int (nI i)), (3, .ref o), (2, .ref g), (1, .ref x), (0, .ref b)] 340 []) (k4 : i + 8 ≤ L → zW p l e R s m args below meth c Q N0 D cy 8 cells slots S [(4, .int (nI i)), (3, .ref o), (2, .ref g), (1, .ref x), (0, .ref b)] 420 []) (k5 : i + 8 ≤ L → zW p l e R s m args below meth c Q N0 D cy 8 cells slots S [(4, .int (nI i)), (3, .ref o), (2, .ref g), (1, .ref x), (0, .ref b)] 524 []) (k6 : i + 8 ≤ L → zW p l e R s m args below meth c Q N0 D cy 8 cells slots S [(4, .int (nI i)), (3, .ref o), (2, .ref g), (1, .ref x), (0, .ref b)] 642 []) (k7 : i + 8 ≤ L → zW p l e R s m args below meth c Q N0 D cy 8 cells slots S [(4, .int (nI i)), (3, .ref o), (2, .ref g), (1, .ref x), (0, .ref b)] 686 []) (k8 : i + 8 ≤ L → zW p l e R s m args below meth c Q N0 D cy 8 cells slots S [(4, .int (nI i)), (3, .ref o), (2, .ref g), (1, .ref x), (0, .ref b)] 699 []) (k9 : i + 8 ≤ L → zW p l e R s m args below meth c Q N0 D cy 8 cells slots S [(4, .int (nI i)), (3, .ref o), (2, .ref g), (1, .ref x), (0, .ref b)] 755 []) (k10 : i + 8 ≤ L → zW p l e R s m args below meth c Q N0 D cy 8 cells slots S [(4, .int (nI i)), (3, .ref o), (2, .ref g), (1, .ref x), (0, .ref b)] 811 []) (k11 : i + 8 ≤ L → zW p l e R s m args below meth c Q N0 D cy 8 cells slots S [(4, .int (nI i)), (3, .ref o), (2, .ref g), (1, .ref x), (0, .ref b)] 891 []) (k12 : i + 8 ≤ L → zW p l e R s m args below meth c Q N0 D cy 8 cells slots S [(4, .int (nI i)), (3, .ref o), (2, .ref g), (1, .ref x), (0, .ref b)] 1063 []) (k13 : i + 8 ≤ L → zW p l e R s m args below meth c Q N0 D cy 8 cells slots S [(4, .int (nI i)), (3, .ref o), (2, .ref g), (1, .ref x), (0, .ref b)] 1118 []) (kd : i + 8 ≤ L → zW p l e R s m args below meth c Q N0 D cy 8 cells slots S [(4, .int (nI i)), (3, .ref o), (2, .ref g), (1, .ref x), (0, .ref b)] 1174 []) : zW p l e R s m args below meth c Q N0 D cy 8 cells slots S [(4, .int (nI i)), (3, .ref o), (2, .ref g), (1, .ref x), (0, .ref b)] 23 [] := by
  refine r_iload F dL_law_23 rfl ?_
  refine r_aload_n F dL_law_25 rfl ?_
  refine r_slen F hX hbl hbN dL_law_26 ?_
  refine r_bipush (v := 8) F dL_law_27 (by decide) ?_
  refine r_isub F dL_law_29 ?_
  refine r_icmp_gt (tgt := 1180) F dL_law_30 (by decide) (fun c30 => ?_) (fun c30 => ?_)
  · refine ke (fun h => absurd c30 ?_)
    rw [Int32.lt_iff_toInt_lt, nI_sub8 (by omega), nI_toInt (by omega)]
    omega
  · have hi8 : i + 8 ≤ L := by
      rw [Int32.lt_iff_toInt_lt, nI_sub8 (by omega), nI_toInt (by omega)] at c30
      omega
    refine r_aload_n F dL_law_33 rfl ?_
    refine r_iload F dL_law_34 rfl ?_
    refine r_sld F hX hbl hbN i rfl (by omega) (by omega) dL_law_36 ?_
    refine r_bipush (v := 15) F dL_law_37 (by decide) ?_
    refine r_iand F dL_law_39 ?_
    obtain ⟨j, hj, ej⟩ := i_and15 (xs i)
    rw [ej]
    rcases (show j = 0 ∨ j = 1 ∨ j = 2 ∨ j = 3 ∨ j = 4 ∨ j = 5 ∨ j = 6 ∨ j = 7 ∨ j = 8 ∨ j = 9 ∨ j = 10 ∨ j = 11 ∨ j = 12 ∨ j = 13 ∨ j = 14 ∨ j = 15 by omega) with rfl | rfl | rfl | rfl | rfl | rfl | rfl | rfl | rfl | rfl | rfl | rfl | rfl | rfl | rfl | rfl
    · exact r_tableIn (off := 72) (tgt := 112) F dL_law_40 (by decide) (by decide) (by decide) (by decide) (k0 hi8)
    · exact r_tableIn (off := 116) (tgt := 156) F dL_law_40 (by decide) (by decide) (by decide) (by decide) (k1 hi8)
    · exact r_tableIn (off := 208) (tgt := 248) F dL_law_40 (by decide) (by decide) (by decide) (by decide) (k2 hi8)
    · exact r_tableIn (off := 300) (tgt := 340) F dL_law_40 (by decide) (by decide) (by decide) (by decide) (k3 hi8)
    · exact r_tableIn (off := 380) (tgt := 420) F dL_law_40 (by decide) (by decide) (by decide) (by decide) (k4 hi8)
    · exact r_tableIn (off := 484) (tgt := 524) F dL_law_40 (by decide) (by decide) (by decide) (by decide) (k5 hi8)
    · exact r_tableIn (off := 602) (tgt := 642) F dL_law_40 (by decide) (by decide) (by decide) (by decide) (k6 hi8)
    · exact r_tableIn (off := 646) (tgt := 686) F dL_law_40 (by decide) (by decide) (by decide) (by decide) (k7 hi8)
    · exact r_tableIn (off := 659) (tgt := 699) F dL_law_40 (by decide) (by decide) (by decide) (by decide) (k8 hi8)
    · exact r_tableIn (off := 715) (tgt := 755) F dL_law_40 (by decide) (by decide) (by decide) (by decide) (k9 hi8)
    · exact r_tableIn (off := 771) (tgt := 811) F dL_law_40 (by decide) (by decide) (by decide) (by decide) (k10 hi8)
    · exact r_tableIn (off := 851) (tgt := 891) F dL_law_40 (by decide) (by decide) (by decide) (by decide) (k11 hi8)
    · exact r_tableIn (off := 1023) (tgt := 1063) F dL_law_40 (by decide) (by decide) (by decide) (by decide) (k12 hi8)
    · exact r_tableIn (off := 1078) (tgt := 1118) F dL_law_40 (by decide) (by decide) (by decide) (by decide) (k13 hi8)
    · exact r_tableOut (tgt := 1174) F dL_law_40 (by decide) (by decide) (kd hi8)
    · exact r_tableOut (tgt := 1174) F dL_law_40 (by decide) (by decide) (kd hi8)
set_option maxRecDepth 100000 in
set_option maxHeartbeats 4000000 in
theorem lh_inc (F : CallFix p m c cL_law 8 s args (z :: lw_good) RL) {i x g o b : Nat} (kk : zW p l e R s m args below meth c Q N0 D cy 8 cells slots S [(4, .int (nI (i + 8))), (3, .ref o), (2, .ref g), (1, .ref x), (0, .ref b)] 23 []) : zW p l e R s m args below meth c Q N0 D cy 8 cells slots S [(4, .int (nI i)), (3, .ref o), (2, .ref g), (1, .ref x), (0, .ref b)] 1174 [] := by
  refine r_iinc F dL_law_1174 rfl (by decide) ?_
  refine r_goto (tgt := 23) F dL_law_1177 (by decide) ?_
  have e : nI i + Int32.ofInt 8 = nI (i + 8) := nI_add i 8
  rw [e]
  exact kk
end ZLH
