/-- what isn't the reference's, nor the answer's row -/
abbrev X9 (g o : Nat) (qa : Nat → Nat) (a : Nat) : Prop := a ≠ g ∧ a ≠ o ∧ ∀ r ∈ zmL, a ≠ qa r.1
theorem zH.mv {t0 : Nat} {X : Nat → Prop} {S0 S : zS} {ad : Nat → Nat} {W : zO} (h : zH t0 X S0 ad W S) {S' : zS} {X' Y : Nat → Prop} (hf : zfr S S' Y) (hY : ∀ c, oa W c → ¬ Y (ad c)) (hX : ∀ c, oa W c → X' (ad c)) : zH t0 X' S' ad W S' :=
  ⟨zfr.rf, fun c hc => ⟨hf.al (h.2.1 c hc).1, fun _ => hX c hc, (h.2.1 c hc).2.2.1.sm (hf.sm (h.2.1 c hc).1.1 (hY c hc)), (h.2.1 c hc).2.2.2⟩, h.2.2.1, h.2.2.2.1, h.2.2.2.2⟩
theorem zm0.mv {S S' : zS} {g : Nat} {qa : Nat → Nat} {v : zV} (h : zm0 S g qa v) {Y : Nat → Prop} (hf : zfr S S' Y) (hg : ¬ Y g) (hq : ∀ r ∈ zmL, ¬ Y (qa r.1)) : zm0 S' g qa v := by
  obtain ⟨h1, h2, h3, h4, h5, h6⟩ := h
  have sg := hf.sm h1.1 hg
  refine ⟨hf.al h1, fun r hr => ?_, h3, fun i hi => (sg.1 i).trans (h4 i hi), (sg.2.2.1 1229).trans h5, fun r hr => ?_⟩
  · obtain ⟨q1, q2, q3⟩ := h2 r hr
    exact ⟨(sg.2.1 _).trans q1, hf.al q2, (hf.sm q2.1 (hq r hr)).2.2.2.1.trans q3⟩
  · have sq := hf.sm (h2 r hr).2.1.1 (hq r hr)
    exact ⟨fun e => sq.2.2.2.2.2.1.trans ((h6 r hr).1 e), fun e => sq.2.2.2.2.1.trans ((h6 r hr).2 e)⟩
/-- the state at the law's head: reference, linker, answer, each its own -/
def lwI (t0 : Nat) (S : zS) (x g o : Nat) (v : zV) (W : zO) (ad qa : Nat → Nat) : Prop := zm0 S g qa v ∧ zH t0 (X9 g o qa) S ad W S ∧ ad 2 = x ∧ (zA S o 15 ∧ zn S o = 1) ∧ ∀ r ∈ zmL, o ≠ qa r.1
section ZLW
variable {t0 : Nat} {S S1 S2 : zS} {x g o : Nat} {v v2 : zV} {W W2 : zO} {ad ad2 qa : Nat → Nat}
theorem lwI.mg (h : lwI t0 S x g o v W ad qa) : zA S g 12 := h.1.1
theorem lwI.og (h : lwI t0 S x g o v W ad qa) : o ≠ g := fun e => absurd (h.2.2.2.1.1.2.symm.trans ((congrArg (zK S) e).trans h.1.1.2)) (by decide)
theorem lwI.mx (h : lwI t0 S x g o v W ad qa) (a2 : oa W 2) : zA S x 11 := h.2.1.al a2 h.2.2.1 rfl
/-- the class has worked -/
theorem lwI.c (h : lwI t0 S x g o v W ad qa) (hH : zH t0 (X9 g o qa) S ad2 W2 S1) (e : ad2 2 = x) : lwI t0 S1 x g o v W2 ad2 qa := by
  have hf := hH.fr
  have hng : ¬ X9 g o qa g := fun h9 => h9.1 rfl
  have hno : ¬ X9 g o qa o := fun h9 => h9.2.1 rfl
  have hnq : ∀ r ∈ zmL, ¬ X9 g o qa (qa r.1) := fun r hr h9 => h9.2.2 r hr rfl
  obtain ⟨h1, h2, h3, ⟨h4, h5⟩, h6⟩ := h
  refine ⟨h1.mv hf hng hnq, hH.mv (Y := fun _ => False) zfr.rf (fun _ _ h9 => h9) (fun c hc => ?_), e, ⟨hf.al h4, (hf.sm h4.1 hno).2.2.2.1.trans h5⟩, h6⟩
  by_cases hm : ad2 c ∈ zL S
  · exact (hH.2.1 c hc).2.1 hm
  · exact ⟨fun e9 => hm (e9 ▸ h1.1.1), fun e9 => hm (e9 ▸ h4.1), fun r hr e9 => hm (e9 ▸ (h1.2.1 r hr).2.1.1)⟩
/-- the answer is written -/
theorem lwI.mo (h : lwI t0 S x g o v W ad qa) {f : Nat → Int64} : lwI t0 (zRj S o f) x g o v W ad qa ∧ zrj (zRj S o f) o = f := by
  have hf : zfr S (zRj S o f) (fun b => b = o) := zfr.rf.rj (fun _ => rfl)
  have hog := h.og
  obtain ⟨h1, h2, h3, ⟨h4, h5⟩, h6⟩ := h
  have hX : ∀ c, oa W c → X9 g o qa (ad c) := fun c hc => (h2.2.1 c hc).2.1 (h2.2.1 c hc).1.1
  refine ⟨⟨h1.mv hf (fun e => hog e.symm) (fun r hr e => h6 r hr e.symm), h2.mv hf (fun c hc e => (hX c hc).2.1 e) hX, h3, ⟨hf.al h4, h5⟩, h6⟩, va_up_self _ _ _⟩
theorem zm_fr (h : zmR S g qa v S2) : zfr S S2 (fun b => b = g ∨ ∃ r ∈ zmL, b = qa r.1) := by
  obtain ⟨h1, ⟨⟨f1, f2, f3, f4, f5⟩, f6, f7⟩⟩ := h
  intro b hb
  refine ⟨by rw [f1]; exact hb, by rw [f2], fun hn => ?_⟩
  have hbg : b ≠ g := fun e => hn (Or.inl e)
  have hbq : ∀ r ∈ zmL, b ≠ qa r.1 := fun r hr e => hn (Or.inr ⟨r, hr, e⟩)
  exact ⟨(f6 b hbg).1, fun id => by rw [f3], (f6 b hbg).2, by rw [f4], (f7 b hbq).1, (f7 b hbq).2, by rw [f5]⟩
/-- the reference has worked -/
theorem lwI.m (h : lwI t0 S x g o v W ad qa) (hZ : zmR S g qa v2 S2) : lwI t0 S2 x g o v2 W ad qa ∧ zrj S2 o = zrj S o ∧ zi S2 1200 g = v2.1 1200 0 := by
  have hf := zm_fr hZ
  have hog := h.og
  obtain ⟨h1, h2, h3, ⟨h4, h5⟩, h6⟩ := h
  have hno : ¬ (o = g ∨ ∃ r ∈ zmL, o = qa r.1) := fun h9 => h9.elim hog (fun ⟨r, hr, e⟩ => h6 r hr e)
  have hX : ∀ c, oa W c → X9 g o qa (ad c) := fun c hc => (h2.2.1 c hc).2.1 (h2.2.1 c hc).1.1
  have so := hf.sm h4.1 hno
  exact ⟨⟨hZ.1, h2.mv hf (fun c hc h9 => h9.elim (hX c hc).1 (fun ⟨r, hr, e⟩ => (hX c hc).2.2 r hr e)) hX, h3, ⟨hf.al h4, so.2.2.2.1.trans h5⟩, h6⟩, so.2.2.2.2.2.1, hZ.i (by decide)⟩
end ZLW
/-- what the tables and the linker's world keep; m, s, b: how much the three rows hold -/
def lwV (v : zV) (W : zO) (km ks kb : Nat) : Prop := vI v ∧ Rep v W ∧ (v.1 1219 0 = 0 ∨ v.1 1219 0 = 1) ∧ (∃ Lm, bL W 44 Lm km) ∧ bL W 46 [] ks ∧ (∃ Lb, bL W 48 Lb kb) ∧ (v.1 1219 0 = 1 → ∃ v0 T, vL v0 v ∧ LK v0 W ∧ tQ v 1226 1227 (wdF v0 48).1 ∧ tQ v 1224 1225 (wdF v0 48).2 ∧ mB v T (mdB v0 (wdF v0 48).1 (wdF v0 48).2))
section ZLV
variable {v v1 : zV} {W W2 : zO} {km ks kb : Nat}
theorem Rep.cg (hR : Rep v W) (hL : vL v v1) (e19 : v1.1 1219 0 = v.1 1219 0) (e20 : v1.1 1220 0 = v.1 1220 0) (e29 : v1.2 1229 0 = v.2 1229 0) (e30 : v1.1 1230 0 = v.1 1230 0) (e31 : v1.1 1231 0 = v.1 1231 0) (e28 : ∀ k, k < 1024 → v1.1 1228 k = v.1 1228 k) : Rep v1 W := by
  have hB := hR.bld
  obtain ⟨y1, y2, y3, y4, y5, y6, y7, y8, y9, y10, y11, y12, y13, y14, y15⟩ := hR
  have c1 : cn v1 1201 0 = cn v 1201 0 := hL.c (by omega)
  refine ⟨y1, y2, ?_, fun o ho => ?_, fun f hf ht => ?_, fun g hg ht => ?_, fun y hy ht => ?_, fun c hc => ?_, y9.trans e19.symm, y10.trans e20.symm, y11.trans e29.symm, y12.trans e30.symm, y13.trans e31.symm, fun k hk => (y14 k hk).trans (e28 k hk).symm, y15⟩
  · rw [c1]; exact y3
  · rw [c1] at ho
    exact (hB.2.1 o ho).same (fun id hid => hL id o (by omega)) (fun _ _ => rfl)
  · rw [hL.c (by omega)] at ht
    exact (hB.2.2.1 f hf ht).same (fun id hid => hL id f (by omega)) (fun k hk => ⟨hL 1209 _ (by omega), hL 1210 _ (by omega)⟩) (fun _ _ => rfl)
  · rw [hL.c (by omega)] at ht
    exact (hB.2.2.2.1 g hg ht).same (hL 1211 g (by omega)) (hL 1212 g (by omega)) (fun k _ => hL 1213 _ (by omega)) rfl rfl
  · rw [hL.c (by omega)] at ht
    exact (hB.2.2.2.2 y hy ht).same (fun id hid => hL id y (by omega)) rfl
  · have h9 := y8 c hc
    unfold rpN
    rw [c1, hL.c (id := 1202) (by omega), hL.c (id := 1203) (by omega), hL.c (id := 1204) (by omega)]
    exact h9
theorem Rep.k0 (hR : Rep v W) {c : Int32} : Rep (u1 v 1200 0 c) W := hR.cg vL.k0 (u1_n (Or.inl (by decide))) (u1_n (Or.inl (by decide))) rfl (u1_n (Or.inl (by decide))) (u1_n (Or.inl (by decide))) (fun k _ => u1_n (Or.inl (by decide)))
/-- only the code differs -/
theorem lwV.k (h : lwV v W km ks kb) {c : Int32} : lwV (u1 v 1200 0 c) W km ks kb := by
  obtain ⟨h1, h2, h3, h4, h5, h6, h7⟩ := h
  have e19 : (u1 v 1200 0 c).1 1219 0 = v.1 1219 0 := u1_n (Or.inl (by decide))
  refine ⟨h1.L vL.k0, h2.k0, by rw [e19]; exact h3, h4, h5, h6, fun h9 => ?_⟩
  rw [e19] at h9
  obtain ⟨v0, T, q1, q2, q3, q4, q5⟩ := h7 h9
  exact ⟨v0, T, q1.tr vL.k0, q2, ⟨(u1_n (Or.inl (by decide))).trans q3.1, fun k hk => (u1_n (Or.inl (by decide))).trans (q3.2 k hk)⟩, ⟨(u1_n (Or.inl (by decide))).trans q4.1, fun k hk => (u1_n (Or.inl (by decide))).trans (q4.2 k hk)⟩, (u1_n (Or.inl (by decide))).trans q5.1, fun k hk => (u1_n (Or.inl (by decide))).trans (q5.2.1 k hk), fun k hk => (u1_n (Or.inl (by decide))).trans (q5.2.2 k hk)⟩
/-- behind a building call -/
theorem lwV.b (h : lwV v W km ks kb) (hI : vI v1) (hR : Rep v1 W2) (e19 : v1.1 1219 0 = 0) (hc : ∀ d, 44 ≤ d → d < 50 → W2 d = W d) : lwV v1 W2 km ks kb := by
  obtain ⟨h1, h2, h3, ⟨Lm, h4⟩, h5, ⟨Lb, h6⟩, h7⟩ := h
  exact ⟨hI, hR, Or.inl e19, ⟨Lm, h4.same (hc _ (by decide) (by decide)) (hc _ (by decide) (by decide))⟩, h5.same (hc _ (by decide) (by decide)) (hc _ (by decide) (by decide)), ⟨Lb, h6.same (hc _ (by decide) (by decide)) (hc _ (by decide) (by decide))⟩, fun h9 => by rw [e19] at h9; exact absurd h9 (by decide)⟩
end ZLV
