/-- a method's words: its code, and all good words of the tables -/
def zws (y : MethodName) (cc : ByteArray) (maxL : Nat) (ret : Option FieldType) : List Cond := .code y cc maxL ret :: lw_good
theorem zin {z w : Cond} (h : w ∈ lw_good) : w ∈ z :: lw_good := List.mem_cons_of_mem _ h
theorem zinL {z : Cond} {ws : List Cond} (h : ∀ w ∈ ws, w ∈ lw_good) : ∀ w ∈ ws, w ∈ z :: lw_good := fun w hw => List.mem_cons_of_mem _ (h w hw)
theorem zg1 {z w : Cond} (h : w ∈ lw_good) : w ∈ z :: lw_good ∧ ((w.onTables && w.keeps) = true ∨ ∃ ty, w = .arrayClass ty) := ⟨zin h, good_of_word (List.mem_filter.mp h).2⟩
theorem zgI {z : Cond} {y : MethodName} {cc : ByteArray} {maxL : Nat} {ret : Option FieldType} (h : Cond.code y cc maxL ret ∈ lw_good) : GoodIn (z :: lw_good) (zws y cc maxL ret) := fun w hw => (List.mem_cons.mp hw).elim (fun e => by rw [e]; exact zg1 h) (fun h => zg1 h)
theorem zgV {z : Cond} {own C : String} {idx : Nat} {y : MethodName} {cc : ByteArray} {maxL : Nat} {ret : Option FieldType} (h1 : Cond.methodLink own idx y ∈ lw_good) (h2 : Cond.instanceMethod y ∈ lw_good) (h3 : Cond.selects C y y ∈ lw_good) (h4 : Cond.initialized C ∈ lw_good) (h5 : Cond.code y cc maxL ret ∈ lw_good) : GoodIn (z :: lw_good) (wsV own idx C y (zws y cc maxL ret)) := fun w hw => by
  rcases List.mem_append.mp hw with h | h
  · simp only [List.mem_cons, List.not_mem_nil, or_false] at h
    rcases h with e | e | e | e <;> rw [e] <;> first | exact zg1 h1 | exact zg1 h2 | exact zg1 h3 | exact zg1 h4
  · exact zgI h5 w h
theorem zgS {z : Cond} {own : String} {idx : Nat} {y : MethodName} {cc : ByteArray} {maxL : Nat} {ret : Option FieldType} (h1 : Cond.methodLink own idx y ∈ lw_good) (h2 : Cond.static y ∈ lw_good) (h3 : Cond.initialized y.cls ∈ lw_good) (h5 : Cond.code y cc maxL ret ∈ lw_good) : GoodIn (z :: lw_good) (va_wsS own idx y (zws y cc maxL ret)) := fun w hw => by
  rcases List.mem_append.mp hw with h | h
  · simp only [List.mem_cons, List.not_mem_nil, or_false] at h
    rcases h with e | e | e <;> rw [e] <;> first | exact zg1 h1 | exact zg1 h2 | exact zg1 h3
  · exact zgI h5 w h
theorem zgF {z : Cond} {own C : String} {idx : Nat} {x y : MethodName} {cc : ByteArray} {maxL : Nat} {ret : Option FieldType} (h1 : Cond.methodLink own idx x ∈ lw_good) (h2 : Cond.selects C x y ∈ lw_good) (h3 : Cond.instanceMethod y ∈ lw_good) (h4 : Cond.initialized y.cls ∈ lw_good) (h5 : Cond.code y cc maxL ret ∈ lw_good) : GoodIn (z :: lw_good) (va_wsF own idx C x y (zws y cc maxL ret)) := fun w hw => by
  rcases List.mem_append.mp hw with h | h
  · simp only [List.mem_cons, List.not_mem_nil, or_false] at h
    rcases h with e | e | e | e <;> rw [e] <;> first | exact zg1 h1 | exact zg1 h2 | exact zg1 h3 | exact zg1 h4
  · exact zgI h5 w h
abbrev zIAE : String := "java/lang/IllegalArgumentException"
abbrev zISE : String := "java/lang/IllegalStateException"
abbrev zNms : List String := ["java/lang/RuntimeException", "java/lang/Exception"]
def zBw (E : String) : List Cond := [Cond.castable E E] ++ zDecl.map Cond.declares
theorem zat_S : ∀ w ∈ (vx_atS RX11 266 zISE zNms).filter goodWord, w ∈ lw_tbl := by decide +kernel
theorem zat_A : ∀ w ∈ (vx_atS RX11 259 zIAE zNms).filter goodWord, w ∈ lw_tbl := by decide +kernel
theorem zat_S2 : ∀ w ∈ (vx_atS RX11 266 zISE zNms).filter (fun w => !goodWord w), w ∈ zBw zISE := by decide +kernel
theorem zat_A2 : ∀ w ∈ (vx_atS RX11 259 zIAE zNms).filter (fun w => !goodWord w), w ∈ zBw zIAE := by decide +kernel
theorem zat_S3 : ∀ w ∈ Cond.classLink RX11 262 zISE :: Cond.initialized zISE :: vx_atS RX11 266 zISE zNms, vx_ot w = true := by decide +kernel
theorem zat_A3 : ∀ w ∈ Cond.classLink RX11 255 zIAE :: Cond.initialized zIAE :: vx_atS RX11 259 zIAE zNms, vx_ot w = true := by decide +kernel
section ZT
variable {p : Program} {l : Launch} {e : Env} {R : Room} {s : State} {m : MethodId} {args : Array Value} {below : List Frame} {meth : Method} {c : Code} {N0 t0 : Nat} {D : va_G} {cy : Nat → ClassId} {cc : ByteArray} {nL cells slots mc ms : Nat} {z : Cond} {S : zS} {lv : List (Nat × Value)} {pc : Nat} {rest : List Value}
/-- throw new E("..") of ObjectLinker: the exception leaves -/
theorem z_throw {cls text : String} {ik is ic : Nat} {xp : String → zS → Prop} {Qc : Array Value → State → Outcome → State → Prop} (F : CallFix p m c cc nL s args (z :: lw_good) RX11) (G : zG N0 t0 D cy s s.heap) (hl : l.stackTraces = false) (htb : ∀ x ∈ c.exceptionTable.toList, False) (hlk : meth.locks = false)
    (hfit : Bundle.fit cls = true) (hnms : ∀ n ∈ zNms, Bundle.fit n = true) (hk : Cond.classLink RX11 ik cls ∈ lw_good) (hini : Cond.initialized cls ∈ lw_good) (hstr : (is, text) ∈ zStr) (h1 : ∀ w ∈ (vx_atS RX11 ic cls zNms).filter goodWord, w ∈ lw_tbl) (h2 : ∀ w ∈ (vx_atS RX11 ic cls zNms).filter (fun w => !goodWord w), w ∈ zBw cls) (hca : (cls, cls) ∈ zCast) (hgood : ∀ w ∈ Cond.classLink RX11 ik cls :: Cond.initialized cls :: vx_atS RX11 ic cls zNms, vx_ot w = true)
    (d0 : decode cc pc = .ok (.new ik, 3)) (d3 : decode cc (pc + 3) = .ok (.dup, 1)) (d4 : decode cc (pc + 4) = .ok (.ldc_w is, 3)) (d7 : decode cc (pc + 7) = .ok (.invokespecial ic, 3)) (d10 : decode cc (pc + 10) = .ok (.athrow, 1))
    (hRf : 5 < R.frames) (hRl : (rest.map fun v => v.category).sum + 82 ≤ R.locals) (hRc : cells + 1 ≤ R.cells) (hRs : slots + 6 ≤ R.slots) (hxp : xp cls S) (hc : cells + 1 ≤ mc) (hs : slots + 6 ≤ ms) : zW p l e R s m args below meth c (vx_MQ below Qc (zX N0 D cy xp) args s mc ms (zN N0)) N0 D cy nL cells slots S lv pc rest := by
  intro H locs ls hP hD hS hl2
  obtain ⟨sa, hsa⟩ := G.2.2.2.2.2.2.2.1 _ hstr
  refine vx_throwSW (names := zNms) (A := zN N0) F.1 F.2.1 hl F.2.2.2.1 hfit hnms (F.2.2.2.2 _ (zin hk)) (F.2.2.2.2 _ (zin hini)) hsa ?_ hgood G.2.2.2.2.2.2.2.2.1 G.2.2.2.2.2.2.2.2.2.1 hS (hl2.1.trans F.2.2.1.symm) d0 d3 d4 d7 d10 (fun x hx => (htb x hx).elim) hRf hRl hRc hRs hlk ?_ hS.2.2 hc hs
  · exact vx_hat (fun w hw => F.2.2.2.2 w (zin (List.mem_filter.mpr ⟨h1 w hw, (List.mem_filter.mp hw).2⟩))) h2 (fun w hw => (List.mem_append.mp hw).elim (fun h => by rw [List.mem_singleton.mp h]; exact va_Nw.use rfl (G.2.2.1 _ hca)) (fun h => by obtain ⟨y, hy, e⟩ := List.mem_map.mp h; rw [← e]; exact va_Nw.use rfl (G.2.2.2.2.2.2.2.2.2.2.2.2.1 y hy)))
  · intro t hv hz hk9
    refine ⟨S, trivial, ⟨hxp, hP.kept (fun k q hq => hk9 q.1 ((hP k q hq).lt)), hD⟩, Nat.le_trans hS.1 hz, fun q h3 h4 => ?_⟩
    rw [hk9 q (Nat.lt_of_lt_of_le h3 hS.1)]
    exact hS.2.1 q h3 h4
end ZT
