theorem mtt {w : Cond} (h : w ∈ tables_1) : w ∈ lw_tbl := List.mem_append_right _ h
theorem mt1 {w : Cond} (i : Nat) (h0 : tables_1_1[i]? = some w) : w ∈ lw_tbl := by
  have h := List.mem_of_getElem? h0
  exact mtt (List.mem_append_left _ h)
theorem mt2 {w : Cond} (i : Nat) (h0 : tables_1_2[i]? = some w) : w ∈ lw_tbl := by
  have h := List.mem_of_getElem? h0
  exact mtt (List.mem_append_right _ (List.mem_append_left _ h))
theorem mt3 {w : Cond} (i : Nat) (h0 : tables_1_3[i]? = some w) : w ∈ lw_tbl := by
  have h := List.mem_of_getElem? h0
  exact mtt (List.mem_append_right _ (List.mem_append_right _ (List.mem_append_left _ h)))
theorem mt4 {w : Cond} (i : Nat) (h0 : tables_1_4[i]? = some w) : w ∈ lw_tbl := by
  have h := List.mem_of_getElem? h0
  exact mtt (List.mem_append_right _ (List.mem_append_right _ (List.mem_append_right _ (List.mem_append_left _ h))))
theorem mt5 {w : Cond} (i : Nat) (h0 : tables_1_5[i]? = some w) : w ∈ lw_tbl := by
  have h := List.mem_of_getElem? h0
  exact mtt (List.mem_append_right _ (List.mem_append_right _ (List.mem_append_right _ (List.mem_append_right _ (List.mem_append_left _ h)))))
theorem mt6 {w : Cond} (i : Nat) (h0 : tables_1_6[i]? = some w) : w ∈ lw_tbl := by
  have h := List.mem_of_getElem? h0
  exact mtt (List.mem_append_right _ (List.mem_append_right _ (List.mem_append_right _ (List.mem_append_right _ (List.mem_append_right _ (List.mem_append_left _ h))))))
theorem mt7 {w : Cond} (i : Nat) (h0 : tables_1_7[i]? = some w) : w ∈ lw_tbl := by
  have h := List.mem_of_getElem? h0
  exact mtt (List.mem_append_right _ (List.mem_append_right _ (List.mem_append_right _ (List.mem_append_right _ (List.mem_append_right _ (List.mem_append_right _ (h)))))))
theorem mgl {w : Cond} (h : w ∈ lw_good) : w ∈ lw_tbl := (List.mem_filter.mp h).1
section ZEN
variable {s : State} {b : Nat}
theorem ze_cast (hts : ∀ w ∈ lw_tbl, w.before #[Value.ref b] s = true) : ∀ q ∈ zCast, va_Nw (.castable q.1 q.2) s := by
  have key : ∀ q ∈ zCast, Cond.castable q.1 q.2 ∈ lw_tbl := by
    refine List.forall_mem_cons.mpr ⟨(mt2 229 rfl), ?_⟩
    refine List.forall_mem_cons.mpr ⟨(mt2 57 rfl), ?_⟩
    refine List.forall_mem_cons.mpr ⟨(mt7 186 rfl), ?_⟩
    refine List.forall_mem_cons.mpr ⟨(mt7 187 rfl), ?_⟩
    refine List.forall_mem_cons.mpr ⟨(mt7 188 rfl), ?_⟩
    refine List.forall_mem_cons.mpr ⟨(mt7 185 rfl), ?_⟩
    refine List.forall_mem_cons.mpr ⟨(mt7 201 rfl), ?_⟩
    refine List.forall_mem_cons.mpr ⟨(mt7 202 rfl), ?_⟩
    refine List.forall_mem_cons.mpr ⟨(mt7 203 rfl), ?_⟩
    refine List.forall_mem_cons.mpr ⟨(mt7 200 rfl), ?_⟩
    refine List.forall_mem_cons.mpr ⟨(mt2 43 rfl), ?_⟩
    exact fun q hq => absurd hq List.not_mem_nil
  exact fun q hq => va_Nw.of rfl (hts _ (key q hq))
theorem ze_nest (hts : ∀ w ∈ lw_tbl, w.before #[Value.ref b] s = true) : ∀ q ∈ zNest, va_Nw (.methodLinkNest q.1 q.2.1 q.2.2.1 q.2.2.2) s := by
  have key : ∀ q ∈ zNest, Cond.methodLinkNest q.1 q.2.1 q.2.2.1 q.2.2.2 ∈ lw_tbl := by
    refine List.forall_mem_cons.mpr ⟨(mt1 65 rfl), ?_⟩
    refine List.forall_mem_cons.mpr ⟨(mt1 83 rfl), ?_⟩
    refine List.forall_mem_cons.mpr ⟨(mt1 113 rfl), ?_⟩
    refine List.forall_mem_cons.mpr ⟨(mt1 159 rfl), ?_⟩
    refine List.forall_mem_cons.mpr ⟨(mt1 194 rfl), ?_⟩
    refine List.forall_mem_cons.mpr ⟨(mt2 123 rfl), ?_⟩
    refine List.forall_mem_cons.mpr ⟨(mt5 158 rfl), ?_⟩
    refine List.forall_mem_cons.mpr ⟨(mt1 165 rfl), ?_⟩
    exact fun q hq => absurd hq List.not_mem_nil
  exact fun q hq => va_Nw.of rfl (hts _ (key q hq))
theorem ze_face (hts : ∀ w ∈ lw_tbl, w.before #[Value.ref b] s = true) : ∀ q ∈ zFace, va_Fw RJx4a65c q.1 q.2 s := by
  have key : ∀ q ∈ zFace, (Cond.declares q.1 ∈ lw_tbl ∧ Cond.interfaceMethod q.1.cls q.1.cls q.1.name q.1.desc ∈ lw_tbl) ∧ (Cond.publicMethod q.2 ∈ lw_tbl ∧ Cond.unhidden RJx4a65c q.1.name q.1.desc ∈ lw_tbl) ∧ Cond.castable RJx4a65c q.1.cls ∈ lw_tbl := by
    refine List.forall_mem_cons.mpr ⟨⟨⟨(mt2 42 rfl), (mt2 41 rfl)⟩, ⟨(mt2 47 rfl), (mt2 45 rfl)⟩, (mt2 43 rfl)⟩, ?_⟩
    refine List.forall_mem_cons.mpr ⟨⟨⟨(mt3 230 rfl), (mt3 229 rfl)⟩, ⟨(mt3 234 rfl), (mt3 232 rfl)⟩, (mt2 43 rfl)⟩, ?_⟩
    refine List.forall_mem_cons.mpr ⟨⟨⟨(mt3 6 rfl), (mt3 5 rfl)⟩, ⟨(mt3 10 rfl), (mt3 8 rfl)⟩, (mt2 43 rfl)⟩, ?_⟩
    refine List.forall_mem_cons.mpr ⟨⟨⟨(mt2 148 rfl), (mt2 147 rfl)⟩, ⟨(mt2 152 rfl), (mt2 150 rfl)⟩, (mt2 43 rfl)⟩, ?_⟩
    refine List.forall_mem_cons.mpr ⟨⟨⟨(mt4 3 rfl), (mt4 2 rfl)⟩, ⟨(mt4 7 rfl), (mt4 5 rfl)⟩, (mt2 43 rfl)⟩, ?_⟩
    exact fun q hq => absurd hq List.not_mem_nil
  intro q hq
  obtain ⟨⟨h1, h2⟩, ⟨h3, h4⟩, h5⟩ := key q hq
  exact va_Fw.of (hts _ h1) (hts _ h2) (hts _ h3) (hts _ h4) (hts _ h5)
theorem ze_over (hts : ∀ w ∈ lw_tbl, w.before #[Value.ref b] s = true) : ∀ C ∈ zOver, va_AO C s := by
  have key : ∀ C ∈ zOver, Cond.arrayOver (.object C) ∈ lw_tbl := by
    refine List.forall_mem_cons.mpr ⟨(mt1 199 rfl), ?_⟩
    refine List.forall_mem_cons.mpr ⟨(mt1 70 rfl), ?_⟩
    refine List.forall_mem_cons.mpr ⟨(mt2 202 rfl), ?_⟩
    exact fun q hq => absurd hq List.not_mem_nil
  exact fun q hq => va_AO.of (hts _ (key q hq))
theorem ze_nocF : ∀ q ∈ zNoc, Cond.not (.castable q.1 q.2) ∈ flatC (Jvm.Cond.and given_1 narrow_1) := by decide +kernel
theorem ze_strF : ∀ q ∈ zStr, Cond.exactly (.string RX11 q.1) "java/lang/String" ∈ flatC (Jvm.Cond.and given_1 narrow_1) := by decide +kernel
theorem ze_thr1 : Cond.isRef (.static Bundle.tN "UNASSIGNED_STACK" Bundle.steD) ∈ flatC (Jvm.Cond.and given_1 narrow_1) := by decide +kernel
theorem ze_thr2 : Cond.isRef (.static Bundle.tN "SUPPRESSED_SENTINEL" Bundle.listD) ∈ flatC (Jvm.Cond.and given_1 narrow_1) := by decide +kernel
theorem ze_arl1 : Cond.arrayOf (.static RJx4a65c zED zOA) (.object "java/lang/Object") ∈ flatC (Jvm.Cond.and given_1 narrow_1) := by decide +kernel
theorem ze_arl2 : Cond.eq (.length (.static RJx4a65c zED zOA)) (.int 0) ∈ flatC (Jvm.Cond.and given_1 narrow_1) := by decide +kernel
theorem ze_mir : Cond.isRef (.mirror zOA) ∈ flatC (Jvm.Cond.and given_1 narrow_1) := by decide +kernel
theorem ze_tab1 : ∀ q ∈ zTab, Cond.arrayOf (.static RX10 q.1 "[I") .int ∈ flatC (Jvm.Cond.and given_1 narrow_1) ∧ Cond.eq (.length (.static RX10 q.1 "[I")) (.int 36) ∈ flatC (Jvm.Cond.and given_1 narrow_1) := by decide +kernel
theorem ze_tab2 : ∀ q ∈ zTab, ∀ j, j < 36 → Cond.eq (.elem (.static RX10 q.1 "[I") (.int (Int32.ofNat j))) (.int (q.2.getD j 0)) ∈ flatC (Jvm.Cond.and given_1 narrow_1) := by decide +kernel
theorem ze_noc (hgv : (Jvm.Cond.and given_1 narrow_1).before #[Value.ref b] s = true) : ∀ q ∈ zNoc, va_Nc q.1 q.2 s := fun q hq => va_Nc.of (flat_of_before _ hgv _ (ze_nocF q hq))
theorem ze_str (hts : ∀ w ∈ lw_tbl, w.before #[Value.ref b] s = true) (hgv : (Jvm.Cond.and given_1 narrow_1).before #[Value.ref b] s = true) : ∀ q ∈ zStr, ∃ a : Nat, vk_R RX11 q.1 q.2 a s := by
  have key : ∀ q ∈ zStr, Cond.stringRef RX11 q.1 q.2 ∈ lw_tbl := by
    refine List.forall_mem_cons.mpr ⟨(mt2 236 rfl), ?_⟩
    refine List.forall_mem_cons.mpr ⟨(mt2 95 rfl), ?_⟩
    exact fun q hq => absurd hq List.not_mem_nil
  intro q hq
  obtain ⟨a, c, cA, kA, q1, -⟩ := Cond.exactly_spec (flat_of_before _ hgv _ (ze_strF q hq))
  exact ⟨a, vk_R.of (hts _ (key q hq)) q1⟩
theorem ze_decl (hts : ∀ w ∈ lw_tbl, w.before #[Value.ref b] s = true) : ∀ y ∈ zDecl, va_Nw (.declares y) s := by
  have key : ∀ y ∈ zDecl, Cond.declares y ∈ lw_tbl := by
    refine List.forall_mem_cons.mpr ⟨(mt2 59 rfl), ?_⟩
    refine List.forall_mem_cons.mpr ⟨(mt2 61 rfl), ?_⟩
    refine List.forall_mem_cons.mpr ⟨(mt2 63 rfl), ?_⟩
    exact fun q hq => absurd hq List.not_mem_nil
  exact fun q hq => va_Nw.of rfl (hts _ (key q hq))
theorem ze_tab (hts : ∀ w ∈ lw_tbl, w.before #[Value.ref b] s = true) (hgv : (Jvm.Cond.and given_1 narrow_1).before #[Value.ref b] s = true) : ∀ q ∈ zTab, ∃ a : Nat, va_Z RX10 q.1 "[I" (.ref a) (zN s.heap.size) s s.heap ∧ va_T .int a 36 (fun j => .int (q.2.getD j 0)) (zN s.heap.size) s s.heap := by
  have key : ∀ q ∈ zTab, Cond.laysStatic RX10 q.1 "[I" ∈ lw_tbl := by
    refine List.forall_mem_cons.mpr ⟨(mt4 85 rfl), ?_⟩
    refine List.forall_mem_cons.mpr ⟨(mt4 128 rfl), ?_⟩
    refine List.forall_mem_cons.mpr ⟨(mt5 21 rfl), ?_⟩
    exact fun q hq => absurd hq List.not_mem_nil
  intro q hq
  have hA : ∀ a : Nat, a < s.heap.size → ¬ zN s.heap.size a := fun a h => Nat.not_le.mpr h
  obtain ⟨t, h1, h2⟩ := va_Tof (N := 36) (f := fun j => .int (q.2.getD j 0)) (A := zN s.heap.size) (by decide) (flat_of_before _ hgv _ (ze_tab1 q hq).1) (va_eqt (flat_of_before _ hgv _ (ze_tab1 q hq).2)) (fun j hj => va_eqt (flat_of_before _ hgv _ (ze_tab2 q hq j hj))) hA
  exact ⟨t, va_Zof (hts _ (key q hq)) (hts _ (mgl kn_X10)) h1 hA, h2⟩
theorem ze_K (hts : ∀ w ∈ lw_tbl, w.before #[Value.ref b] s = true) : ∃ (D : va_G) (cy : Nat → ClassId), va_K D vwCl (zty cy) s := by
  obtain ⟨c0, i0, k0⟩ := u_known (C := RJx4a65c) (T := TJx4a65c) (N := 3) (n := 3) hts (fun w hw => mgl (inG0 w hw)) (hts _ (mgl kb_Jx4a65c))
  obtain ⟨c1, i1, k1⟩ := u_known (C := RX0) (T := TX0) (N := 2) (n := 2) hts (fun w hw => mgl (inG1 w hw)) (hts _ (mgl kb_X0))
  obtain ⟨c2, i2, k2⟩ := u_known (C := RX1) (T := TX1) (N := 7) (n := 7) hts (fun w hw => mgl (inG2 w hw)) (hts _ (mgl kb_X1))
  obtain ⟨c3, i3, k3⟩ := u_known (C := RX2) (T := TX2) (N := 8) (n := 8) hts (fun w hw => mgl (inG3 w hw)) (hts _ (mgl kb_X2))
  obtain ⟨c4, i4, k4⟩ := u_known (C := RX3) (T := TX3) (N := 12) (n := 12) hts (fun w hw => mgl (inG4 w hw)) (hts _ (mgl kb_X3))
  obtain ⟨c5, i5, k5⟩ := u_known (C := RX4) (T := TX4) (N := 3) (n := 3) hts (fun w hw => mgl (inG5 w hw)) (hts _ (mgl kb_X4))
  obtain ⟨c6, i6, k6⟩ := u_known (C := RX5) (T := TX5) (N := 3) (n := 3) hts (fun w hw => mgl (inG6 w hw)) (hts _ (mgl kb_X5))
  obtain ⟨c7, i7, k7⟩ := u_known (C := RX6) (T := TX6) (N := 13) (n := 13) hts (fun w hw => mgl (inG7 w hw)) (hts _ (mgl kb_X6))
  obtain ⟨c8, i8, k8⟩ := u_known (C := RX7) (T := TX7) (N := 3) (n := 3) hts (fun w hw => mgl (inG8 w hw)) (hts _ (mgl kb_X7))
  obtain ⟨c9, i9, k9⟩ := u_known (C := RX8) (T := TX8) (N := 8) (n := 8) hts (fun w hw => mgl (inG9 w hw)) (hts _ (mgl kb_X8))
  obtain ⟨c10, i10, k10⟩ := u_known (C := RX9) (T := TX9) (N := 3) (n := 3) hts (fun w hw => mgl (inG10 w hw)) (hts _ (mgl kb_X9))
  obtain ⟨c11, i11, k11⟩ := u_known (C := RX11) (T := TX11) (N := 8) (n := 8) hts (fun w hw => mgl (inG11 w hw)) (hts _ (mgl kb_X11))
  obtain ⟨c12, i12, k12⟩ := u_known (C := RX12) (T := TX12) (N := 50) (n := 50) hts (fun w hw => mgl (inG12 w hw)) (hts _ (mgl kb_X12))
  obtain ⟨a0, ak0, ac0, af0, ag0, ah0⟩ := Cond.arrayClass_spec (hts _ (mgl ka_byte))
  obtain ⟨a1, ak1, ac1, af1, ag1, ah1⟩ := Cond.arrayClass_spec (hts _ (mgl ka_int))
  obtain ⟨a2, ak2, ac2, af2, ag2, ah2⟩ := Cond.arrayClass_spec (hts _ (mgl ka_long))
  obtain ⟨a3, ak3, ac3, af3, ag3, ah3⟩ := Cond.arrayClass_spec (hts _ (mgl ka_boolean))
  obtain ⟨oc0, o0, ok0, oe0, -, of0, og0, oh0⟩ := Cond.arrayOver_spec (hts _ (mt1 199 rfl))
  obtain ⟨oc1, o1, ok1, oe1, -, of1, og1, oh1⟩ := Cond.arrayOver_spec (hts _ (mt1 70 rfl))
  obtain ⟨oc2, o2, ok2, oe2, -, of2, og2, oh2⟩ := Cond.arrayOver_spec (hts _ (mt2 202 rfl))
  refine ⟨(fun k => if k = 0 then c0 else if k = 1 then c1 else if k = 2 then c2 else if k = 3 then c3 else if k = 4 then c4 else if k = 5 then c5 else if k = 6 then c6 else if k = 7 then c7 else if k = 8 then c8 else if k = 9 then c9 else if k = 10 then c10 else if k = 11 then c11 else c12, fun k => if k = 0 then i0 else if k = 1 then i1 else if k = 2 then i2 else if k = 3 then i3 else if k = 4 then i4 else if k = 5 then i5 else if k = 6 then i6 else if k = 7 then i7 else if k = 8 then i8 else if k = 9 then i9 else if k = 10 then i10 else if k = 11 then i11 else i12), fun k => if k = 0 then a0 else if k = 1 then a1 else if k = 2 then a2 else if k = 3 then a3 else if k = 4 then o0 else if k = 5 then o1 else o2, ?_, ?_⟩
  · intro k q hq
    match k, hq with
    | 0, hq => cases hq; exact k0
    | 1, hq => cases hq; exact k1
    | 2, hq => cases hq; exact k2
    | 3, hq => cases hq; exact k3
    | 4, hq => cases hq; exact k4
    | 5, hq => cases hq; exact k5
    | 6, hq => cases hq; exact k6
    | 7, hq => cases hq; exact k7
    | 8, hq => cases hq; exact k8
    | 9, hq => cases hq; exact k9
    | 10, hq => cases hq; exact k10
    | 11, hq => cases hq; exact k11
    | 12, hq => cases hq; exact k12
    | k + 13, hq => exact absurd hq (by simp)
  · intro k q hq
    match k, hq with
    | 0, hq => cases hq; exact ⟨fun N z => ⟨(fun k h => by cases h), ak0, ag0, ac0, ah0⟩, af0⟩
    | 1, hq => cases hq; exact ⟨fun N z => ⟨(fun k h => by cases h), ak1, ag1, ac1, ah1⟩, af1⟩
    | 2, hq => cases hq; exact ⟨fun N z => ⟨(fun k h => by cases h), ak2, ag2, ac2, ah2⟩, af2⟩
    | 3, hq => cases hq; exact ⟨fun N z => ⟨(fun k h => by cases h), ak3, ag3, ac3, ah3⟩, af3⟩
    | 4, hq => cases hq; exact ⟨fun N z => ⟨(fun k h => by cases h), ok0, of0, oc0, og0⟩, ok0, oc0, of0, og0, oe0, oh0⟩
    | 5, hq => cases hq; exact ⟨fun N z => ⟨(fun k h => by cases h), ok1, of1, oc1, og1⟩, ok1, oc1, of1, og1, oe1, oh1⟩
    | 6, hq => cases hq; exact ⟨fun N z => ⟨(fun k h => by cases h), ok2, of2, oc2, og2⟩, ok2, oc2, of2, og2, oe2, oh2⟩
    | k + 7, hq => exact absurd hq (by simp)
/-- what holds at the law's entry -/
theorem z_entry (hts : ∀ w ∈ lw_tbl, w.before #[Value.ref b] s = true) (hgv : (Jvm.Cond.and given_1 narrow_1).before #[Value.ref b] s = true) : ∃ (t0 : Nat) (D : va_G) (cy : Nat → ClassId), zG s.heap.size t0 D cy s s.heap := by
  have hA : ∀ a : Nat, a < s.heap.size → ¬ zN s.heap.size a := fun a h => Nat.not_le.mpr h
  obtain ⟨D, cy, hK⟩ := ze_K hts
  obtain ⟨mi, hmi⟩ := va_Mi.of (flat_of_before _ hgv _ ze_mir)
  obtain ⟨t0, h1, h2⟩ := va_Tof (N := 0) (f := fun _ => .null) (A := zN s.heap.size) (by decide) (flat_of_before _ hgv _ ze_arl1) (va_eqt (flat_of_before _ hgv _ ze_arl2)) (fun j hj => absurd hj (Nat.not_lt_zero j)) hA
  exact ⟨t0, D, va_up cy 7 mi, Nat.le_refl _, hK, ze_cast hts, ze_nest hts, ze_face hts, ze_over hts, ze_noc hgv, ze_str hts hgv, vx_Zqof (hts _ (mt2 82 rfl)) (hts _ (mt1 12 rfl)) (flat_of_before _ hgv _ ze_thr1) hA, vx_Zqof (hts _ (mt2 84 rfl)) (hts _ (mt1 12 rfl)) (flat_of_before _ hgv _ ze_thr2) hA, va_Zof (hts _ (mt1 50 rfl)) (hts _ (mgl kn_Jx4a65c)) h1 hA, h2, ze_decl hts, ze_tab hts hgv, hmi, va_Dc.of (hts _ (mt7 191 rfl))⟩
end ZEN
