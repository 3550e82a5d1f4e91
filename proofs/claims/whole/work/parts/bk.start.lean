section ZLS
variable {p : Program} {l : Launch} {e : Env} {s : State} {m : MethodId} {below : List Frame} {meth : Method} {c : Code} {t0 : Nat} {D : va_G} {cy : Nat → ClassId} {cells slots : Nat} {z : Cond} {S : zS}
/-- nothing is there -/
def zS0 : zS := ([], fun _ => 0, fun _ _ => 0, fun _ _ => none, fun _ _ => 0, fun _ => 0, fun _ _ => 0, fun _ _ => 0, fun _ _ => none)
def zW0 : zO := fun _ => (False, fun _ => 0, fun _ => none, fun _ => 0, 0, fun _ => 0, fun _ => 0, fun _ => none)
set_option maxRecDepth 100000 in
set_option maxHeartbeats 4000000 in
/-- a fresh linker, a fresh reference, a row for the answer -/
theorem lx_fresh {S1 S2 : zS} {g o x : Nat} {ad : Nat → Nat} {W : zO} {X : Nat → Prop} (hH : zH t0 X zS0 ad W S1) (ex : ad 2 = x) (w2 : W 2 = E9 2) (wE : ∀ c ∈ L9, W c = E9 c) (wD : ∀ c, c ≠ 2 → c ∉ L9 → ¬ oa W c) (hg : g ∉ zL S1) (h2 : zct (zNo S1 g 12) g (fun j => if j = 1220 then -1 else zi (zNo S1 g 12) j g) ((1248, 14, 2600) :: ((1247, 14, 2600) :: ((1245, 15, 5000) :: ((1244, 15, 328) :: ((1243, 14, 41) :: ((1242, 14, 41) :: ((1241, 14, 41) :: ((1240, 14, 41) :: ((1237, 16, 62) :: ((1236, 16, 62) :: ((1235, 14, 62) :: ((1234, 14, 62) :: ((1233, 14, 62) :: ((1228, 13, 1024) :: ((1226, 14, 60) :: ((1224, 14, 48) :: ((1222, 13, 40000) :: ((1218, 14, 96) :: ((1217, 14, 96) :: ((1216, 14, 96) :: ((1215, 14, 96) :: ((1214, 14, 96) :: ((1213, 13, 1536) :: ((1212, 14, 24) :: ((1211, 14, 24) :: ((1210, 14, 2880) :: ((1209, 14, 2880) :: ((1208, 14, 48) :: ((1207, 14, 48) :: ((1206, 14, 48) :: ((1205, 14, 48) :: ((1204, 14, 6) :: ((1203, 14, 6) :: [(1202, 14, 6)]))))))))))))))))))))))))))))))))) S2) (ho : o ∉ zL S2) : ∃ qa, lwI t0 (zNa S2 o 15 1) x g o v9 W ad qa ∧ lwV v9 W 128 128 128 := by
  obtain ⟨c1, c2, c3, c4, c5, c6⟩ := h2
  have hz : zdf (zNo S1 g 12) g := zdf.no
  have e19 : v9.1 1219 0 = 0 := show (if (1219 : Nat) = 1220 then (-1 : Int32) else 0) = 0 from if_neg (by decide)
  have fr1 : zfr S1 (zNo S1 g 12) (fun b => b = g) := zfr.no zfr.rf hg
  have f2 : zfr S1 S2 (fun b => b = g) := zfr.tr fr1 c1 (fun _ _ e => e)
  have f3 : zfr S2 (zNa S2 o 15 1) (fun b => b = o) := zfr.na zfr.rf ho
  have f4 : zfr S1 (zNa S2 o 15 1) (fun b => b = g) := zfr.tr f2 f3 (fun b hb e => absurd (e ▸ (f2 b hb).1) ho)
  have hgA : zA S2 g 12 := c1.al zA.noq
  have hq : ∀ r ∈ zmL, ∃ q, (zq S2 r.1 g).getD 0 = q ∧ zq S2 r.1 g = some q ∧ q ∉ zL (zNo S1 g 12) ∧ zA S2 q r.2.1 ∧ zn S2 q = r.2.2 ∧ (zri S2 q = fun _ => 0) ∧ (zrj S2 q = fun _ => 0) := fun r hr => by
    obtain ⟨q, d1, d2, d3, d4⟩ := c5 r (zmLM r hr)
    obtain ⟨d5, d6, d7, d8⟩ := d4 (zmL13 r hr)
    exact ⟨q, by rw [d1]; rfl, d1, d2, d3, d5, d6, d7⟩
  have hm0 : zm0 S2 g (fun i => (zq S2 i g).getD 0) v9 := by
    refine ⟨hgA, fun r hr => ?_, fun r hr r2 hr2 e => ?_, fun i hi => ?_, (c3 1229).trans (hz.2.2 1229), fun r hr => ?_⟩
    · obtain ⟨q, d0, d1, d2, d3, d4, d5, d6⟩ := hq r hr
      subst d0
      exact ⟨d1, d3, d4⟩
    · obtain ⟨q, d0, d1, d2, d3, d4, d5, d6⟩ := hq r hr
      obtain ⟨q2, b0, b1, b2, b3, b4, b5, b6⟩ := hq r2 hr2
      have e9 : q = q2 := d0.symm.trans (Eq.trans e b0)
      exact c6 r (zmLM r hr) r2 (zmLM r2 hr2) (by rw [d1, b1, e9])
    · refine (c2 i).trans ?_
      show (if i = 1220 then -1 else zi (zNo S1 g 12) i g) = if i = 1220 then -1 else 0
      rw [hz.1 i]
    · obtain ⟨q, d0, d1, d2, d3, d4, d5, d6⟩ := hq r hr
      subst d0
      refine ⟨fun _ => d6, fun _ => d5.trans (funext fun k => ?_)⟩
      show (0 : Int32) = if r.1 = 1220 then -1 else 0
      rw [if_neg (zmLI r hr 1220 (by decide))]
  have hgo : g ≠ o := fun e => ho (e ▸ hgA.1)
  have hqo : ∀ r ∈ zmL, (zq S2 r.1 g).getD 0 ≠ o := fun r hr e => by
    obtain ⟨q, d0, d1, d2, d3, d4, d5, d6⟩ := hq r hr
    exact ho (e ▸ d0 ▸ d3.1)
  have hcL : ∀ c, oa W c → ad c ∈ zL S1 := fun c hc => (hH.2.1 c hc).1.1
  refine ⟨fun i => (zq S2 i g).getD 0, ⟨hm0.mv f3 hgo hqo, hH.mv f4 (fun c hc e => hg (e ▸ hcL c hc)) (fun c hc => ⟨fun e => hg (e ▸ hcL c hc), fun e => ho (e ▸ (f2 _ (hcL c hc)).1), fun r hr e => ?_⟩), ex, ⟨zA.naq, va_up_self _ _ _⟩, fun r hr e => hqo r hr e.symm⟩, v9_I, v9_R w2 wE wD, Or.inl e19, ⟨[], v9_bL wE (Or.inl rfl)⟩, v9_bL wE (Or.inr (Or.inl rfl)), ⟨[], v9_bL wE (Or.inr (Or.inr rfl))⟩, fun h9 => ?_⟩
  · obtain ⟨q, d0, d1, d2, d3, d4, d5, d6⟩ := hq r hr
    have e9 : ad c = q := Eq.trans e d0
    exact d2 (e9 ▸ (fr1 _ (hcL c hc)).1)
  · exact absurd (e19.symm.trans h9) (by decide)
set_option maxRecDepth 100000 in
set_option maxHeartbeats 4000000 in
theorem law_entry {b : Nat} {R : Room} {Q : State → Prop} {N0 : Nat} (F : CallFix p m c cL_law 8 s #[Value.ref b] (z :: lw_good) RL) (G : zG N0 t0 D cy s s.heap) (hR : 10 ≤ R.frames ∧ 300 ≤ R.locals ∧ 1000 ≤ R.cells ∧ 100000 ≤ R.slots) (kk : ∀ (S : zS) (x g o : Nat) (W : zO) (ad qa : Nat → Nat), lwI t0 S x g o v9 W ad qa → lwV v9 W 128 128 128 → zW p l e R s m #[Value.ref b] below meth c Q N0 D cy 8 69 64977 S [(4, .int (nI 0)), (3, .ref o), (2, .ref g), (1, .ref x), (0, .ref b)] 23 []) : zW p l e R s m #[Value.ref b] below meth c Q N0 D cy 8 0 0 zS0 [(0, .ref b)] 0 [] := by
  obtain ⟨hR1, hR2, hR3, hR4⟩ := hR
  refine r_new (ci := 11) (C := RX11) (T := TX11) (N := 8) (ty0 := tyX11) F G rfl (by decide) (zinL inG11) tyX11_ok dvG11 (zin kc_L_8) (zin kb_X11) (zin kn_X11) (by omega) (by omega) dL_law_0 (fun x hx => ?_)
  refine r_dup F dL_law_3 rfl ?_
  have hH0 : zH t0 (fun _ => False) zS0 (fun _ => t0) zW0 zS0 := ⟨zfr.rf, fun c hc => hc.elim, fun c d hc => hc.elim, rfl, fun h9 => h9⟩
  have hH1 := hH0.newo (n := 2) (q := x) (fun h9 => h9) (by decide) hx (k := 11) rfl (by decide)
  refine c_Iv F G (c_LinkerInit (S := zNo zS0 x 11) (a := x) hH1 (va_up_self _ _ _) (va_up_self _ _ _) (fun c h9 h8 => by have h7 : (va_up zW0 2 eNo c).1 := h8; rw [va_up_ne _ _ h9] at h7; exact h7)) (cwI 0 F.2.2.2.2 (zgI ko_X11_init) rfl rfl rfl (F.2.2.2.2 _ (zin kn_X11)) (F.2.2.2.2 _ (zin km_L_60)) (F.2.2.2.2 _ (zin ki_X11_init)) rfl hd_yX11_init ⟨by dsimp only; omega, by dsimp only; omega⟩) rfl rfl (Nat.le_of_ble_eq_true rfl) dL_law_4 ⟨by omega, by omega⟩ (fun S1 h1 => ?_)
  obtain ⟨ad1, W1, h1a, h1b, h1c, h1d, h1e⟩ := h1
  refine r_astore_n F dL_law_7 (by decide) ?_
  refine r_new (ci := 12) (C := RX12) (T := TX12) (N := 50) (ty0 := tyX12) F G rfl (by decide) (zinL inG12) tyX12_ok dvG12 (zin kc_L_61) (zin kb_X12) (zin kn_X12) (by omega) (by omega) dL_law_8 (fun g hg => ?_)
  refine r_dup F dL_law_11 rfl ?_
  refine c_Iv F G (k_ModelInit (S := zNo S1 g 12) (a := g) zA.noq zdf.no) (cwI 0 F.2.2.2.2 (zgI ko_X12_init) rfl rfl rfl (F.2.2.2.2 _ (zin kn_X12)) (F.2.2.2.2 _ (zin km_L_63)) (F.2.2.2.2 _ (zin ki_X12_init)) rfl hd_yX12_init ⟨by dsimp only; omega, by dsimp only; omega⟩) rfl rfl (Nat.le_of_ble_eq_true rfl) dL_law_12 ⟨by omega, by omega⟩ (fun S2 h2 => ?_)
  refine r_astore_n F dL_law_15 (by decide) ?_
  refine r_iconst (v := 1) F dL_law_16 (by decide) ?_
  refine r_newJ (n' := 1) F G (zin ka_long) (by decide) (by decide) (by decide) (by omega) (by omega) dL_law_17 (fun o ho => ?_)
  refine r_astore_n F dL_law_19 (by decide) ?_
  refine r_iconst (v := nI 0) F dL_law_20 (by decide) ?_
  refine r_istore F dL_law_21 (by decide) ?_
  obtain ⟨qa, q1, q2⟩ := lx_fresh h1a h1b h1c h1d h1e hg h2 ho
  exact r_lvk [0, 1, 2, 3, 4] rfl (kk _ x g o W1 ad1 qa q1 q2)
end ZLS
theorem zP0 {cy : Nat → ClassId} : zP cy zS0 = [] := rfl
theorem whole_start {p : Program} {e : Env} {s : State} {m : MethodId} {below : List Frame} {meth : Method} {c : Code} (l : Launch) (hl : l.stackTraces = false) {b L : Nat} {xs : Nat → Int32} (hL : L ≤ 4096) (C0 : lw_At p s m meth c b L xs) : W p l e room_1 s m #[Value.ref b] below meth c s.heap [] 0 0 (lw_Z below #[Value.ref b] s) (entryFrame m ([Value.ref b] : List Value).toArray 8) := by
  obtain ⟨hx, hb, hr, hml, hown, hts, hX, hbl, hlocks, hgv⟩ := C0
  obtain ⟨t0, D, cy, G⟩ := z_entry hts hgv
  have F : CallFix p m c cL_law 8 s #[Value.ref b] (Cond.initialized RL :: lw_good) RL := ⟨hx, hb, hml, hown, fun w hw => (List.mem_cons.mp hw).elim (fun e => by rw [e]; exact hts _ (mgl kn_L)) (fun h => hts _ (mgl h))⟩
  have hl2 := lv_entry ([.ref b]) (n := 8) (Nat.le_of_ble_eq_true rfl)
  rw [lg_entry_eq]
  exact law_entry F G ⟨by decide, by decide, by decide, by decide⟩ (fun S x g o W ad qa q1 q2 => lx_loop F G hl hr hlocks hX hbl hL 512 0 (by omega) (by omega) S v9 W ad 128 128 128 69 64977 q1 q2 (by omega) (by omega)) s.heap [] _ (fun k q h => by rw [zP0] at h; simp at h) ⟨fun i j p q h => by rw [zP0] at h; simp at h, fun k q h => by rw [zP0] at h; simp at h⟩ va_S.rf hl2
