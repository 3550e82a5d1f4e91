section ZLS
variable {p : Program} {l : Launch} {e : Env} {s : State} {m : MethodId} {below : List Frame} {meth : Method} {c : Code} {t0 : Nat} {D : va_G} {cy : Nat → ClassId} {cells slots : Nat} {z : Cond} {S : zS}
theorem lh_end {b : Nat} {lv : List (Nat × Value)} (F : CallFix p m c cL_law 8 s #[Value.ref b] (z :: lw_good) RL) (hr : meth.sig.returnType = ret) (hlk : meth.locks = false) (hc : cells ≤ 600002) (hs : slots ≤ 7302232) : zW p l e room_1 s m #[Value.ref b] below meth c (lw_Z below #[Value.ref b] s) s.heap.size D cy 8 cells slots S lv 1180 [] := by
  intro H locs ls hP hD hS hl
  refine lv_iconst (v := 1) F.1 F.2.1 dL_law_1180 (by decide) ?_
  refine va_forget (fun q hq => hS.2.2 q hq) ?_
  refine W.widen hc hs ?_
  exact lw_ret F.1 F.2.1 hr hlk dL_law_1181
set_option maxRecDepth 100000 in
set_option maxHeartbeats 4000000 in
theorem p1_head {b L : Nat} {xs : Nat → Int32} (F : CallFix p m c cL_law 8 s #[Value.ref b] (z :: lw_good) RL) (G : zG s.heap.size t0 D cy s s.heap) (hl : l.stackTraces = false) (hr : meth.sig.returnType = ret) (hlk : meth.locks = false) (hX : va_X b L xs s s.heap) (hbl : b < s.heap.size) (hL : L ≤ 8) {x g o : Nat} (hF : z1F t0 S x g o) (hc : cells ≤ 1000) (hs : slots ≤ 100000) : zW p l e room_1 s m #[Value.ref b] below meth c (lw_Z below #[Value.ref b] s) s.heap.size D cy 8 cells slots S [(4, .int (nI 0)), (3, .ref o), (2, .ref g), (1, .ref x), (0, .ref b)] 23 [] := by
  have K : ∀ (S2 : zS) (c2 s2 : Nat), c2 ≤ cells + 1000 → s2 ≤ slots + 1000 → zW p l e room_1 s m #[Value.ref b] below meth c (lw_Z below #[Value.ref b] s) s.heap.size D cy 8 c2 s2 S2 [(4, .int (nI 0)), (3, .ref o), (2, .ref g), (1, .ref x), (0, .ref b)] 1174 [] := by
    intro S2 c2 s2 h1 h2
    refine lh_inc F ?_
    refine lh_head F hX hbl hbl (i := 0 + 8) (by omega) (by omega) (fun _ => lh_end F hr hlk (by omega) (by omega)) (fun h => absurd h (by omega)) (fun h => absurd h (by omega)) (fun h => absurd h (by omega)) (fun h => absurd h (by omega)) (fun h => absurd h (by omega)) (fun h => absurd h (by omega)) (fun h => absurd h (by omega)) (fun h => absurd h (by omega)) (fun h => absurd h (by omega)) (fun h => absurd h (by omega)) (fun h => absurd h (by omega)) (fun h => absurd h (by omega)) (fun h => absurd h (by omega)) (fun h => absurd h (by omega)) (fun h => absurd h (by omega))
  have hR : 14 ≤ room_1.frames ∧ 500 ≤ room_1.locals ∧ cells + 1000 ≤ room_1.cells ∧ slots + 1000 ≤ room_1.slots := ⟨by decide, by decide, Nat.le_trans (Nat.add_le_add_right hc 1000) (by decide), Nat.le_trans (Nat.add_le_add_right hs 1000) (by decide)⟩
  exact lh_head F hX hbl hbl (i := 0) (by omega) (by omega) (fun _ => lh_end F hr hlk (by omega) (by omega)) (fun h => p1_object F G hl hX hbl hbl h (by omega) hF hR K) (fun h => p1_function F G hl hX hbl hbl h (by omega) hF hR K) (fun h => p1_code F G hl hX hbl hbl h (by omega) hF hR K) (fun h => p1_segment F G hl hX hbl hbl h (by omega) hF hR K) (fun h => p1_fill F G hl hX hbl hbl h (by omega) hF hR K) (fun h => p1_symbol F G hl hX hbl hbl h (by omega) hF hR K) (fun h => p1_link F G hl hX hbl hbl h (by omega) hF hR K) (fun h => p1_place F G hl hX hbl hbl h (by omega) hF hR K) (fun h => p1_count F G hl hX hbl hbl h (by omega) hF hR K) (fun h => p1_byteAt F G hl hX hbl hbl h (by omega) hF hR K) (fun h => p1_meant F G hl hX hbl hbl h (by omega) hF hR K) (fun h => p1_run F G hl hX hbl hbl h (by omega) hF hR K) (fun h => p1_told F G hl hX hbl hbl h (by omega) hF hR K) (fun h => p1_memory F G hl hX hbl hbl h (by omega) hF hR K) (fun _ => K S _ _ (by omega) (by omega))
end ZLS
