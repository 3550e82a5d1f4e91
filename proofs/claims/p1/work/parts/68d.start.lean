theorem zP0 {cy : Nat → ClassId} : zP cy zS0 = [] := rfl
theorem whole_start {p : Program} {e : Env} {s : State} {m : MethodId} {below : List Frame} {meth : Method} {c : Code} (l : Launch) (hl : l.stackTraces = false) {b L : Nat} {xs : Nat → Int32} (hL : L ≤ 8) (C0 : lw_At p s m meth c b L xs) : W p l e room_1 s m #[Value.ref b] below meth c s.heap [] 0 0 (lw_Z below #[Value.ref b] s) (entryFrame m ([Value.ref b] : List Value).toArray 8) := by
  obtain ⟨hx, hb, hr, hml, hown, hts, hX, hbl, hlocks, hgv⟩ := C0
  obtain ⟨t0, D, cy, G⟩ := z_entry hts hgv
  have F : CallFix p m c cL_law 8 s #[Value.ref b] (Cond.initialized RL :: lw_good) RL := ⟨hx, hb, hml, hown, fun w hw => (List.mem_cons.mp hw).elim (fun e => by rw [e]; exact hts _ (mgl kn_L)) (fun h => hts _ (mgl h))⟩
  have hl2 := lv_entry ([.ref b]) (n := 8) (Nat.le_of_ble_eq_true rfl)
  rw [lg_entry_eq]
  exact law_entry F G ⟨by decide, by decide, by decide, by decide⟩ (fun S x g o h => p1_head F G hl hr hlocks hX hbl hL h (by decide) (by decide)) s.heap [] _ (fun k q h => by rw [zP0] at h; simp at h) ⟨fun i j p q h => by rw [zP0] at h; simp at h, fun k q h => by rw [zP0] at h; simp at h⟩ va_S.rf hl2
