section ZLS
variable {p : Program} {l : Launch} {e : Env} {s : State} {m : MethodId} {below : List Frame} {meth : Method} {c : Code} {t0 : Nat} {D : va_G} {cy : Nat → ClassId} {cells slots : Nat} {z : Cond} {S : zS}
/-- nothing is there -/
def zS0 : zS := ([], fun _ => 0, fun _ _ => 0, fun _ _ => none, fun _ _ => 0, fun _ => 0, fun _ _ => 0, fun _ _ => 0, fun _ _ => none)
set_option maxRecDepth 100000 in
set_option maxHeartbeats 4000000 in
theorem law_entry {b : Nat} {R : Room} {Q : State → Prop} {N0 : Nat} (F : CallFix p m c cL_law 8 s #[Value.ref b] (z :: lw_good) RL) (G : zG N0 t0 D cy s s.heap) (hR : 10 ≤ R.frames ∧ 300 ≤ R.locals ∧ 1000 ≤ R.cells ∧ 100000 ≤ R.slots) (kk : ∀ (S : zS) (x g o : Nat), z1F t0 S x g o → zW p l e R s m #[Value.ref b] below meth c Q N0 D cy 8 69 64977 S [(4, .int (nI 0)), (3, .ref o), (2, .ref g), (1, .ref x), (0, .ref b)] 23 []) : zW p l e R s m #[Value.ref b] below meth c Q N0 D cy 8 0 0 zS0 [(0, .ref b)] 0 [] := by
  obtain ⟨hR1, hR2, hR3, hR4⟩ := hR
  refine r_new (ci := 11) (C := RX11) (T := TX11) (N := 8) (ty0 := tyX11) F G rfl (by decide) (zinL inG11) tyX11_ok dvG11 (zin kc_L_8) (zin kb_X11) (zin kn_X11) (by omega) (by omega) dL_law_0 (fun x hx => ?_)
  refine r_dup F dL_law_3 rfl ?_
  refine c_Iv F G (k_LinkerInit (S := zNo zS0 x 11) (a := x) zA.noq zdf.no) (cwI 0 F.2.2.2.2 (zgI ko_X11_init) rfl rfl rfl (F.2.2.2.2 _ (zin kn_X11)) (F.2.2.2.2 _ (zin km_L_60)) (F.2.2.2.2 _ (zin ki_X11_init)) rfl hd_yX11_init ⟨by dsimp only; omega, by dsimp only; omega⟩) rfl rfl (Nat.le_of_ble_eq_true rfl) dL_law_4 ⟨by omega, by omega⟩ (fun S1 h1 => ?_)
  obtain ⟨h1a, h1b⟩ := h1
  have hx1 : zA S1 x 11 := h1b.al zA.noq
  refine r_astore_n F dL_law_7 (by decide) ?_
  refine r_new (ci := 12) (C := RX12) (T := TX12) (N := 50) (ty0 := tyX12) F G rfl (by decide) (zinL inG12) tyX12_ok dvG12 (zin kc_L_61) (zin kb_X12) (zin kn_X12) (by omega) (by omega) dL_law_8 (fun g hg => ?_)
  have fr1 : zfr S1 (zNo S1 g 12) (fun b => b = g) := zfr.no zfr.rf hg
  refine r_dup F dL_law_11 rfl ?_
  refine c_Iv F G (k_ModelInit (S := zNo S1 g 12) (a := g) zA.noq zdf.no) (cwI 0 F.2.2.2.2 (zgI ko_X12_init) rfl rfl rfl (F.2.2.2.2 _ (zin kn_X12)) (F.2.2.2.2 _ (zin km_L_63)) (F.2.2.2.2 _ (zin ki_X12_init)) rfl hd_yX12_init ⟨by dsimp only; omega, by dsimp only; omega⟩) rfl rfl (Nat.le_of_ble_eq_true rfl) dL_law_12 ⟨by omega, by omega⟩ (fun S2 h2 => ?_)
  refine r_astore_n F dL_law_15 (by decide) ?_
  refine r_iconst (v := 1) F dL_law_16 (by decide) ?_
  refine r_newJ (n' := 1) F G (zin ka_long) (by decide) (by decide) (by decide) (by omega) (by omega) dL_law_17 (fun o ho => ?_)
  refine r_astore_n F dL_law_19 (by decide) ?_
  refine r_iconst (v := nI 0) F dL_law_20 (by decide) ?_
  refine r_istore F dL_law_21 (by decide) ?_
  refine r_lvk [0, 1, 2, 3, 4] rfl (kk _ x g o ?_)
  obtain ⟨c1, c2, c3, c4, c5, c6⟩ := h2
  have f2 : zfr S1 S2 (fun b => b = g) := zfr.tr fr1 c1 (fun _ _ e => e)
  have f3 : zfr S2 (zNa S2 o 15 1) (fun b => b = o) := zfr.na zfr.rf ho
  have f4 : zfr S1 (zNa S2 o 15 1) (fun b => b = g) := zfr.tr f2 f3 (fun b hb e => absurd (e ▸ (f2 b hb).1) ho)
  have ng : ∀ b ∈ zL S1, b ≠ g := fun b hb e => hg (e ▸ hb)
  have hgA : zA S2 g 12 := c1.al zA.noq
  have hgo : g ≠ o := fun e => ho (e ▸ hgA.1)
  have sg := f3.sm hgA.1 hgo
  obtain ⟨⟨u, b1, b2, b3, b4⟩, b5, b6, mm, b7, b8, b9, b10, b11, q, b12, b13, b14, b15⟩ := h1a
  have sx := f4.sm hx1.1 (ng x hx1.1)
  have su := f4.sm b2.1 (ng u b2.1)
  have sm' := f4.sm b8.1 (ng mm b8.1)
  have sq := f4.sm b13.1 (ng q b13.1)
  obtain ⟨qr, d1, d2, d3, d4⟩ := c5 (1228, 13, 1024) (by simp)
  obtain ⟨d5, d6, d7, d8⟩ := d4 (by decide)
  have sr := f3.sm d3.1 (fun e => ho (e ▸ d3.1))
  refine ⟨f4.al hx1, f3.al hgA, ⟨zA.naq, va_up_self _ _ _⟩, ⟨⟨u, (sx.2.1 _).trans b1, f4.al b2, (su.1 _).trans b3, (su.2.1 _).trans b4⟩, (sx.1 _).trans b5, (sx.1 _).trans b6, mm, (sx.2.1 _).trans b7, f4.al b8, (sm'.2.2.1 _).trans b9, (sm'.1 _).trans b10, (sm'.1 _).trans b11, q, (sm'.2.1 _).trans b12, f4.al b13, sq.2.2.2.1.trans b14, sq.2.2.2.2.1.trans b15⟩, ⟨(sg.1 _).trans ((c2 _).trans ?_), (sg.1 _).trans ((c2 _).trans ?_), (sg.1 _).trans ((c2 _).trans ?_)⟩, ⟨(sg.2.2.1 _).trans ((c3 _).trans ?_), (sg.1 _).trans ((c2 _).trans ?_), (sg.1 _).trans ((c2 _).trans ?_)⟩, qr, (sg.2.1 _).trans d1, f3.al d3, sr.2.2.2.1.trans d5, sr.2.2.2.2.1.trans d6⟩
  all_goals first | rfl | simp [zi, zl, zNo, zat]
end ZLS
