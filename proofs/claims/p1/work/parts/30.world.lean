/-- the world: addresses, the class (or the kind of array) of each; int, reference and long fields by number and address; arrays: length, ints, longs, references -/
abbrev zS : Type := List Nat × (Nat → Nat) × (Nat → Nat → Int32) × (Nat → Nat → Option Nat) × (Nat → Nat → Int64) × (Nat → Nat) × (Nat → Nat → Int32) × (Nat → Nat → Int64) × (Nat → Nat → Option Nat)
abbrev zL (S : zS) : List Nat := S.1
abbrev zK (S : zS) : Nat → Nat := S.2.1
abbrev zi (S : zS) : Nat → Nat → Int32 := S.2.2.1
abbrev zq (S : zS) : Nat → Nat → Option Nat := S.2.2.2.1
abbrev zl (S : zS) : Nat → Nat → Int64 := S.2.2.2.2.1
abbrev zn (S : zS) : Nat → Nat := S.2.2.2.2.2.1
abbrev zri (S : zS) : Nat → Nat → Int32 := S.2.2.2.2.2.2.1
abbrev zrj (S : zS) : Nat → Nat → Int64 := S.2.2.2.2.2.2.2.1
abbrev zrq (S : zS) : Nat → Nat → Option Nat := S.2.2.2.2.2.2.2.2
def z2 {α : Type} (f : Nat → Nat → α) (i a : Nat) (v : α) : Nat → Nat → α := fun j b => if j = i ∧ b = a then v else f j b
def zat {α : Type} (f : Nat → Nat → α) (a : Nat) (v : α) : Nat → Nat → α := fun j b => if b = a then v else f j b
abbrev zPi (S : zS) (i a : Nat) (v : Int32) : zS := (zL S, zK S, z2 (zi S) i a v, zq S, zl S, zn S, zri S, zrj S, zrq S)
abbrev zPq (S : zS) (i a : Nat) (v : Option Nat) : zS := (zL S, zK S, zi S, z2 (zq S) i a v, zl S, zn S, zri S, zrj S, zrq S)
abbrev zPl (S : zS) (i a : Nat) (v : Int64) : zS := (zL S, zK S, zi S, zq S, z2 (zl S) i a v, zn S, zri S, zrj S, zrq S)
abbrev zRi (S : zS) (a : Nat) (f : Nat → Int32) : zS := (zL S, zK S, zi S, zq S, zl S, zn S, va_up (zri S) a f, zrj S, zrq S)
abbrev zRj (S : zS) (a : Nat) (f : Nat → Int64) : zS := (zL S, zK S, zi S, zq S, zl S, zn S, zri S, va_up (zrj S) a f, zrq S)
abbrev zRq (S : zS) (a : Nat) (f : Nat → Option Nat) : zS := (zL S, zK S, zi S, zq S, zl S, zn S, zri S, zrj S, va_up (zrq S) a f)
/-- a new object of class ci at q -/
abbrev zNo (S : zS) (q ci : Nat) : zS := (zL S ++ [q], va_up (zK S) q ci, zat (zi S) q 0, zat (zq S) q none, zat (zl S) q 0, zn S, zri S, zrj S, zrq S)
/-- a new array of kind k (13 bytes, 14 ints, 15 longs, 16 booleans, 17 .. 19 references) of n places at q -/
abbrev zNa (S : zS) (q k n : Nat) : zS := (zL S ++ [q], va_up (zK S) q k, zi S, zq S, zl S, va_up (zn S) q n, va_up (zri S) q (fun _ => 0), va_up (zrj S) q (fun _ => 0), va_up (zrq S) q (fun _ => none))
/-- a is there, of class (or kind) k -/
def zA (S : zS) (a k : Nat) : Prop := a ∈ zL S ∧ zK S a = k
/-- a class's fields: 0 int, 1 reference, 2 long, and the number 100 * class + place -/
def zfl : Nat → List (Nat × Nat)
  | 0 => [(0, 0), (1, 1), (0, 2)]
  | 1 => [(1, 100), (0, 101)]
  | 2 => [(1, 200), (1, 201), (1, 202), (1, 203), (1, 204), (0, 205), (0, 206)]
  | 3 => [(1, 300), (1, 301), (1, 302), (1, 303), (1, 304), (1, 305), (0, 306), (0, 307)]
  | 4 => [(1, 400), (1, 401), (1, 402), (1, 403), (1, 404), (1, 405), (0, 406), (0, 407), (0, 408), (2, 409), (0, 410), (0, 411)]
  | 5 => [(1, 500), (1, 501), (1, 502)]
  | 6 => [(1, 600), (1, 601), (1, 602)]
  | 7 => [(1, 700), (0, 701), (0, 702), (0, 703), (0, 704), (1, 705), (1, 706), (1, 707), (1, 708), (1, 709), (0, 710), (0, 711), (0, 712)]
  | 8 => [(1, 800), (0, 801), (0, 802)]
  | 9 => [(0, 900), (0, 901), (0, 902), (0, 903), (1, 904), (1, 905), (0, 906), (1, 907)]
  | 10 => [(1, 1000), (1, 1001), (1, 1002)]
  | 11 => [(1, 1100), (1, 1101), (1, 1102), (1, 1103), (1, 1104), (1, 1105), (0, 1106), (0, 1107)]
  | 12 => [(0, 1200), (0, 1201), (1, 1202), (1, 1203), (1, 1204), (1, 1205), (1, 1206), (1, 1207), (1, 1208), (1, 1209), (1, 1210), (1, 1211), (1, 1212), (1, 1213), (1, 1214), (1, 1215), (1, 1216), (1, 1217), (1, 1218), (0, 1219), (0, 1220), (0, 1221), (1, 1222), (0, 1223), (1, 1224), (0, 1225), (1, 1226), (0, 1227), (1, 1228), (2, 1229), (0, 1230), (0, 1231), (0, 1232), (1, 1233), (1, 1234), (1, 1235), (1, 1236), (1, 1237), (0, 1238), (0, 1239), (1, 1240), (1, 1241), (1, 1242), (1, 1243), (1, 1244), (1, 1245), (0, 1246), (1, 1247), (1, 1248), (0, 1249)]
  | _ => []
abbrev n_ArrayList_modCount : Nat := 0
abbrev n_ArrayList_elementData : Nat := 1
abbrev n_ArrayList_size : Nat := 2
abbrev n_Bytes_row : Nat := 100
abbrev n_Bytes_size : Nat := 101
abbrev n_CodeCheck_openers : Nat := 200
abbrev n_CodeCheck_elses : Nat := 201
abbrev n_CodeCheck_bases : Nat := 202
abbrev n_CodeCheck_leaves : Nat := 203
abbrev n_CodeCheck_dead : Nat := 204
abbrev n_CodeCheck_open : Nat := 205
abbrev n_CodeCheck_height : Nat := 206
abbrev n_Image_routines : Nat := 300
abbrev n_Image_segments : Nat := 301
abbrev n_Image_symbols : Nat := 302
abbrev n_Image_slots : Nat := 303
abbrev n_Image_types : Nat := 304
abbrev n_Image_typeNumbers : Nat := 305
abbrev n_Image_typeCount : Nat := 306
abbrev n_Image_end : Nat := 307
abbrev n_Machine_stack : Nat := 400
abbrev n_Machine_routines : Nat := 401
abbrev n_Machine_nexts : Nat := 402
abbrev n_Machine_floors : Nat := 403
abbrev n_Machine_bytes : Nat := 404
abbrev n_Machine_slots : Nat := 405
abbrev n_Machine_height : Nat := 406
abbrev n_Machine_depth : Nat := 407
abbrev n_Machine_end : Nat := 408
abbrev n_Machine_value : Nat := 409
abbrev n_Machine_steps : Nat := 410
abbrev n_Machine_deepest : Nat := 411
abbrev n_ModuleWriter_module : Nat := 500
abbrev n_ModuleWriter_section : Nat := 501
abbrev n_ModuleWriter_body : Nat := 502
abbrev n_Names_firsts : Nat := 600
abbrev n_Names_strongs : Nat := 601
abbrev n_Names_weaks : Nat := 602
abbrev n_Routine_owner : Nat := 700
abbrev n_Routine_home : Nat := 701
abbrev n_Routine_parameters : Nat := 702
abbrev n_Routine_results : Nat := 703
abbrev n_Routine_locals : Nat := 704
abbrev n_Routine_words : Nat := 705
abbrev n_Routine_numbers : Nat := 706
abbrev n_Routine_ends : Nat := 707
abbrev n_Routine_goals : Nat := 708
abbrev n_Routine_bases : Nat := 709
abbrev n_Routine_size : Nat := 710
abbrev n_Routine_number : Nat := 711
abbrev n_Routine_slot : Nat := 712
abbrev n_Segment_bytes : Nat := 800
abbrev n_Segment_alignment : Nat := 801
abbrev n_Segment_address : Nat := 802
abbrev n_Symbol_home : Nat := 900
abbrev n_Symbol_name : Nat := 901
abbrev n_Symbol_kind : Nat := 902
abbrev n_Symbol_binding : Nat := 903
abbrev n_Symbol_routine : Nat := 904
abbrev n_Symbol_segment : Nat := 905
abbrev n_Symbol_offset : Nat := 906
abbrev n_Symbol_source : Nat := 907
abbrev n_Unit_routines : Nat := 1000
abbrev n_Unit_segments : Nat := 1001
abbrev n_Unit_symbols : Nat := 1002
abbrev n_Linker_units : Nat := 1100
abbrev n_Linker_names : Nat := 1101
abbrev n_Linker_check : Nat := 1102
abbrev n_Linker_image : Nat := 1103
abbrev n_Linker_writer : Nat := 1104
abbrev n_Linker_machine : Nat := 1105
abbrev n_Linker_linked : Nat := 1106
abbrev n_Linker_faultPlace : Nat := 1107
abbrev n_Model_code : Nat := 1200
abbrev n_Model_objects : Nat := 1201
abbrev n_Model_functions : Nat := 1202
abbrev n_Model_segments : Nat := 1203
abbrev n_Model_symbols : Nat := 1204
abbrev n_Model_parameters : Nat := 1205
abbrev n_Model_results : Nat := 1206
abbrev n_Model_locals : Nat := 1207
abbrev n_Model_words : Nat := 1208
abbrev n_Model_word : Nat := 1209
abbrev n_Model_number : Nat := 1210
abbrev n_Model_size : Nat := 1211
abbrev n_Model_power : Nat := 1212
abbrev n_Model_bytes : Nat := 1213
abbrev n_Model_name : Nat := 1214
abbrev n_Model_kind : Nat := 1215
abbrev n_Model_binding : Nat := 1216
abbrev n_Model_defines : Nat := 1217
abbrev n_Model_offset : Nat := 1218
abbrev n_Model_linked : Nat := 1219
abbrev n_Model_place : Nat := 1220
abbrev n_Model_fault : Nat := 1221
abbrev n_Model_module : Nat := 1222
abbrev n_Model_moduleSize : Nat := 1223
abbrev n_Model_slot : Nat := 1224
abbrev n_Model_slots : Nat := 1225
abbrev n_Model_type : Nat := 1226
abbrev n_Model_types : Nat := 1227
abbrev n_Model_memory : Nat := 1228
abbrev n_Model_returned : Nat := 1229
abbrev n_Model_steps : Nat := 1230
abbrev n_Model_deepest : Nat := 1231
abbrev n_Model_blocks : Nat := 1232
abbrev n_Model_blockWord : Nat := 1233
abbrev n_Model_blockLeaves : Nat := 1234
abbrev n_Model_blockBelow : Nat := 1235
abbrev n_Model_blockDead : Nat := 1236
abbrev n_Model_blockElse : Nat := 1237
abbrev n_Model_height : Nat := 1238
abbrev n_Model_frames : Nat := 1239
abbrev n_Model_frameFunction : Nat := 1240
abbrev n_Model_frameAt : Nat := 1241
abbrev n_Model_frameBase : Nat := 1242
abbrev n_Model_frameBlocks : Nat := 1243
abbrev n_Model_local : Nat := 1244
abbrev n_Model_values : Nat := 1245
abbrev n_Model_top : Nat := 1246
abbrev n_Model_runWord : Nat := 1247
abbrev n_Model_runBelow : Nat := 1248
abbrev n_Model_runBlocks : Nat := 1249
def zfv (S : zS) (a : Nat) (q : Nat × Nat) : Value := if q.1 = 0 then .int (zi S q.2 a) else if q.1 = 1 then va_rf (zq S q.2 a) else .long (zl S q.2 a)
def zar (S : zS) (a k : Nat) : (Nat → Int32) ⊕ (Nat → Int64) ⊕ (Nat → UInt32) ⊕ (Nat → UInt64) ⊕ (Nat → Option Nat) := if k = 2 then .inr (.inl (zrj S a)) else if k < 4 then .inl (zri S a) else .inr (.inr (.inr (.inr (zrq S a))))
def zF (cy : Nat → ClassId) (S : zS) (a : Nat) : va_E := if zK S a < 13 then .inr (zK S a, (zfl (zK S a)).map (zfv S a)) else .inl (cy (zK S a - 13), zn S a, zar S a (zK S a - 13))
abbrev zP (cy : Nat → ClassId) (S : zS) : va_W := va_pl (zL S) (zF cy S)
/-- what may be written: all that came since the law's entry -/
def zN (N0 : Nat) : Nat → Prop := fun q => N0 ≤ q
abbrev zty (cy : Nat → ClassId) : List (ClassId × FieldType) := [(cy 0, .byte), (cy 1, .int), (cy 2, .long), (cy 3, .boolean), (cy 4, .object "ObjectLinker$Routine"), (cy 5, .object "ObjectLinker$Symbol"), (cy 6, .object "java/lang/Object")]
theorem zFo {cy : Nat → ClassId} {S : zS} {a ci : Nat} (h : zK S a = ci) (hlt : ci < 13) : zF cy S a = .inr (ci, (zfl ci).map (zfv S a)) := by
  unfold zF; rw [h, if_pos hlt]
theorem zFa {cy : Nat → ClassId} {S : zS} {a k j : Nat} (h : zK S a = k) (hj : k = 13 + j) : zF cy S a = .inl (cy j, zn S a, zar S a j) := by
  unfold zF; rw [h, hj, if_neg (by omega), show 13 + j - 13 = j by omega]
theorem zGo {cy : Nat → ClassId} {S : zS} {a ci : Nat} (h : zA S a ci) (hlt : ci < 13) : ∃ k : Nat, (([] : va_W) ++ zP cy S)[k]? = some (a, zF cy S a) ∧ (zP cy S)[k]? = some (a, .inr (ci, (zfl ci).map (zfv S a))) := by
  obtain ⟨k, hk⟩ := va_pl_get (X := []) (f := zF cy S) h.1
  exact ⟨k, hk, by rw [← zFo (cy := cy) h.2 hlt]; exact hk⟩
theorem zGa {cy : Nat → ClassId} {S : zS} {a k j : Nat} (h : zA S a k) (hj : k = 13 + j) : ∃ i : Nat, (([] : va_W) ++ zP cy S)[i]? = some (a, zF cy S a) ∧ (zP cy S)[i]? = some (a, .inl (cy j, zn S a, zar S a j)) := by
  obtain ⟨i, hi⟩ := va_pl_get (X := []) (f := zF cy S) h.1
  exact ⟨i, hi, by rw [← zFa (cy := cy) h.2 hj]; exact hi⟩
/-- a field is written -/
theorem zmap_set {l : List (Nat × Nat)} (hn : l.Nodup) {k : Nat} {q : Nat × Nat} (hk : l[k]? = some q) {f g : Nat × Nat → Value} {v : Value} (h1 : g q = v) (h2 : ∀ r ∈ l, r ≠ q → g r = f r) : l.map g = (l.map f).set k v := by
  apply List.ext_getElem?
  intro j
  rw [List.getElem?_set, List.getElem?_map, List.getElem?_map]
  by_cases hj : k = j
  · subst hj
    have hl := (List.getElem?_eq_some_iff.mp hk).1
    rw [if_pos rfl, if_pos (by rw [List.length_map]; exact hl), hk]
    simp [h1]
  · rw [if_neg hj]
    cases hr : l[j]? with
    | none => rfl
    | some r =>
      have hne : r ≠ q := by
        intro e
        subst e
        have h3 := (List.getElem?_eq_some_iff.mp hk)
        have h4 := (List.getElem?_eq_some_iff.mp hr)
        exact hj ((List.getElem_inj hn).mp (h3.2.trans h4.2.symm))
      simp [h2 r (List.mem_of_getElem? hr) hne]
theorem zfl_nodup (ci : Nat) (h : ci < 13) : (zfl ci).Nodup := by
  revert ci
  decide +kernel
theorem zfl_lt (ci : Nat) (h : ci < 13) : ∀ r ∈ zfl ci, r.1 < 3 := by
  revert ci
  decide +kernel
theorem zF_pi {cy : Nat → ClassId} {S : zS} {a ci k id : Nat} (hK : zK S a = ci) (hlt : ci < 13) (hf : (zfl ci)[k]? = some (0, id)) (v : Int32) (b : Nat) : va_up (zF cy S) a (.inr (ci, ((zfl ci).map (zfv S a)).set k (.int v))) b = zF cy (zPi S id a v) b := by
  by_cases hb : b = a
  · subst hb
    rw [va_up_self, zFo (cy := cy) (S := zPi S id b v) (show zK (zPi S id b v) b = ci from hK) hlt]
    congr 2
    refine (zmap_set (zfl_nodup ci hlt) hf (by simp [zfv, zi, zq, zl, zPi, z2]) (fun r hm hr => ?_)).symm
    have h3 := zfl_lt ci hlt r hm
    obtain ⟨r1, r2⟩ := r
    rcases (show r1 = 0 ∨ r1 = 1 ∨ r1 = 2 by have : r1 < 3 := h3; omega) with h | h | h <;> subst h <;> first | (simp [zfv, zi, zq, zl, zPi, z2]; done) | (have h5 : r2 ≠ id := (fun e => hr (by rw [e])); simp [zfv, zi, zq, zl, zPi, z2, h5])
  · rw [va_up_ne _ _ hb]
    unfold zF
    show _ = if zK S b < 13 then _ else _
    by_cases h : zK S b < 13
    · rw [if_pos h, if_pos h]
      congr 2
      apply List.map_congr_left
      intro r _
      simp [zfv, zi, zq, zl, zPi, z2, hb]
    · rw [if_neg h, if_neg h]
      rfl
theorem zF_pq {cy : Nat → ClassId} {S : zS} {a ci k id : Nat} (hK : zK S a = ci) (hlt : ci < 13) (hf : (zfl ci)[k]? = some (1, id)) (v : Option Nat) (b : Nat) : va_up (zF cy S) a (.inr (ci, ((zfl ci).map (zfv S a)).set k (va_rf v))) b = zF cy (zPq S id a v) b := by
  by_cases hb : b = a
  · subst hb
    rw [va_up_self, zFo (cy := cy) (S := zPq S id b v) (show zK (zPq S id b v) b = ci from hK) hlt]
    congr 2
    refine (zmap_set (zfl_nodup ci hlt) hf (by simp [zfv, zi, zq, zl, zPq, z2]) (fun r hm hr => ?_)).symm
    have h3 := zfl_lt ci hlt r hm
    obtain ⟨r1, r2⟩ := r
    rcases (show r1 = 0 ∨ r1 = 1 ∨ r1 = 2 by have : r1 < 3 := h3; omega) with h | h | h <;> subst h <;> first | (simp [zfv, zi, zq, zl, zPq, z2]; done) | (have h5 : r2 ≠ id := (fun e => hr (by rw [e])); simp [zfv, zi, zq, zl, zPq, z2, h5])
  · rw [va_up_ne _ _ hb]
    unfold zF
    show _ = if zK S b < 13 then _ else _
    by_cases h : zK S b < 13
    · rw [if_pos h, if_pos h]
      congr 2
      apply List.map_congr_left
      intro r _
      simp [zfv, zi, zq, zl, zPq, z2, hb]
    · rw [if_neg h, if_neg h]
      rfl
theorem zF_pl {cy : Nat → ClassId} {S : zS} {a ci k id : Nat} (hK : zK S a = ci) (hlt : ci < 13) (hf : (zfl ci)[k]? = some (2, id)) (v : Int64) (b : Nat) : va_up (zF cy S) a (.inr (ci, ((zfl ci).map (zfv S a)).set k (.long v))) b = zF cy (zPl S id a v) b := by
  by_cases hb : b = a
  · subst hb
    rw [va_up_self, zFo (cy := cy) (S := zPl S id b v) (show zK (zPl S id b v) b = ci from hK) hlt]
    congr 2
    refine (zmap_set (zfl_nodup ci hlt) hf (by simp [zfv, zi, zq, zl, zPl, z2]) (fun r hm hr => ?_)).symm
    have h3 := zfl_lt ci hlt r hm
    obtain ⟨r1, r2⟩ := r
    rcases (show r1 = 0 ∨ r1 = 1 ∨ r1 = 2 by have : r1 < 3 := h3; omega) with h | h | h <;> subst h <;> first | (simp [zfv, zi, zq, zl, zPl, z2]; done) | (have h5 : r2 ≠ id := (fun e => hr (by rw [e])); simp [zfv, zi, zq, zl, zPl, z2, h5])
  · rw [va_up_ne _ _ hb]
    unfold zF
    show _ = if zK S b < 13 then _ else _
    by_cases h : zK S b < 13
    · rw [if_pos h, if_pos h]
      congr 2
      apply List.map_congr_left
      intro r _
      simp [zfv, zi, zq, zl, zPl, z2, hb]
    · rw [if_neg h, if_neg h]
      rfl
theorem zF_ri {cy : Nat → ClassId} {S : zS} {a k j : Nat} (hK : zK S a = k) (hk : k = 13 + j) (hj : j < 4) (hj2 : j ≠ 2) (g : Nat → Int32) (b : Nat) : va_up (zF cy S) a (.inl (cy j, zn S a, .inl g)) b = zF cy (zRi S a g) b := by
  by_cases hb : b = a
  · subst hb
    rw [va_up_self, zFa (cy := cy) (S := zRi S b g) (show zK (zRi S b g) b = k from hK) hk]
    unfold zar
    rw [if_neg hj2, if_pos hj]
    simp [zRi, zri, zrj, zrq, va_up_self]
  · rw [va_up_ne _ _ hb]
    unfold zF
    show _ = if zK S b < 13 then _ else _
    by_cases h : zK S b < 13
    · rw [if_pos h, if_pos h]
      rfl
    · rw [if_neg h, if_neg h]
      simp [zar, zRi, zri, zrj, zrq, va_up_ne _ _ hb]
theorem zF_rj {cy : Nat → ClassId} {S : zS} {a k j : Nat} (hK : zK S a = k) (hk : k = 13 + j) (hj : j = 2) (g : Nat → Int64) (b : Nat) : va_up (zF cy S) a (.inl (cy j, zn S a, .inr (.inl g))) b = zF cy (zRj S a g) b := by
  by_cases hb : b = a
  · subst hb
    rw [va_up_self, zFa (cy := cy) (S := zRj S b g) (show zK (zRj S b g) b = k from hK) hk]
    unfold zar
    rw [if_pos hj]
    simp [zRj, zri, zrj, zrq, va_up_self]
  · rw [va_up_ne _ _ hb]
    unfold zF
    show _ = if zK S b < 13 then _ else _
    by_cases h : zK S b < 13
    · rw [if_pos h, if_pos h]
      rfl
    · rw [if_neg h, if_neg h]
      simp [zar, zRj, zri, zrj, zrq, va_up_ne _ _ hb]
theorem zF_rq {cy : Nat → ClassId} {S : zS} {a k j : Nat} (hK : zK S a = k) (hk : k = 13 + j) (hj : 4 ≤ j) (g : Nat → Option Nat) (b : Nat) : va_up (zF cy S) a (.inl (cy j, zn S a, .inr (.inr (.inr (.inr g))))) b = zF cy (zRq S a g) b := by
  by_cases hb : b = a
  · subst hb
    rw [va_up_self, zFa (cy := cy) (S := zRq S b g) (show zK (zRq S b g) b = k from hK) hk]
    unfold zar
    rw [if_neg (by omega), if_neg (by omega)]
    simp [zRq, zri, zrj, zrq, va_up_self]
  · rw [va_up_ne _ _ hb]
    unfold zF
    show _ = if zK S b < 13 then _ else _
    by_cases h : zK S b < 13
    · rw [if_pos h, if_pos h]
      rfl
    · rw [if_neg h, if_neg h]
      simp [zar, zRq, zri, zrj, zrq, va_up_ne _ _ hb]
theorem zar_i {S : zS} {a j : Nat} (hj : j < 4) (hj2 : j ≠ 2) : zar S a j = .inl (zri S a) := by unfold zar; rw [if_neg hj2, if_pos hj]
theorem zar_j {S : zS} {a : Nat} : zar S a 2 = .inr (.inl (zrj S a)) := by unfold zar; rw [if_pos rfl]
theorem zar_q {S : zS} {a j : Nat} (hj : 4 ≤ j) : zar S a j = .inr (.inr (.inr (.inr (zrq S a)))) := by unfold zar; rw [if_neg (by omega), if_neg (by omega)]
theorem zF_no {cy : Nat → ClassId} {S : zS} {q ci : Nat} (hlt : ci < 13) (b : Nat) : va_up (zF cy S) q (.inr (ci, (zfl ci).map (fun r => if r.1 = 0 then Value.int 0 else if r.1 = 1 then Value.null else Value.long 0))) b = zF cy (zNo S q ci) b := by
  by_cases hb : b = q
  · subst hb
    rw [va_up_self, zFo (cy := cy) (S := zNo S b ci) (by simp [zK, zNo, va_up_self]) hlt]
    congr 2
    apply List.map_congr_left
    intro r _
    simp [zfv, zi, zq, zl, zNo, zat, va_rf]
  · rw [va_up_ne _ _ hb]
    unfold zF
    show _ = if va_up (zK S) q ci b < 13 then _ else _
    rw [show zK (zNo S q ci) b = zK S b from va_up_ne _ _ hb, va_up_ne _ _ hb]
    by_cases h : zK S b < 13
    · rw [if_pos h, if_pos h]
      congr 2
      apply List.map_congr_left
      intro r _
      simp [zfv, zi, zq, zl, zNo, zat, hb]
    · rw [if_neg h, if_neg h]
      rfl
theorem zF_na {cy : Nat → ClassId} {S : zS} {q k j n : Nat} (hk : k = 13 + j) (b : Nat) : va_up (zF cy S) q (.inl (cy j, n, if j = 2 then .inr (.inl (fun _ => 0)) else if j < 4 then .inl (fun _ => 0) else .inr (.inr (.inr (.inr (fun _ => none)))))) b = zF cy (zNa S q k n) b := by
  by_cases hb : b = q
  · subst hb
    rw [va_up_self, zFa (cy := cy) (S := zNa S b k n) (j := j) (by simp [zK, zNa, va_up_self]) hk]
    simp [zar, zn, zri, zrj, zrq, zNa, va_up_self]
  · rw [va_up_ne _ _ hb]
    unfold zF
    show _ = if va_up (zK S) q k b < 13 then _ else _
    rw [show zK (zNa S q k n) b = zK S b from va_up_ne _ _ hb, va_up_ne _ _ hb]
    by_cases h : zK S b < 13
    · rw [if_pos h, if_pos h]
      rfl
    · rw [if_neg h, if_neg h]
      simp [zar, zn, zri, zrj, zrq, zNa, va_up_ne _ _ hb]
theorem zA.no {S : zS} {a k q ci : Nat} (h : zA S a k) (hq : q ∉ zL S) : zA (zNo S q ci) a k := ⟨List.mem_append_left _ h.1, by rw [show zK (zNo S q ci) a = zK S a from va_up_ne _ _ (fun e => hq (e ▸ h.1))]; exact h.2⟩
theorem zA.na {S : zS} {a k q j n : Nat} (h : zA S a k) (hq : q ∉ zL S) : zA (zNa S q j n) a k := ⟨List.mem_append_left _ h.1, by rw [show zK (zNa S q j n) a = zK S a from va_up_ne _ _ (fun e => hq (e ▸ h.1))]; exact h.2⟩
theorem zA.noq {S : zS} {q ci : Nat} : zA (zNo S q ci) q ci := ⟨List.mem_append_right _ List.mem_cons_self, va_up_self _ _ _⟩
theorem zA.naq {S : zS} {q j n : Nat} : zA (zNa S q j n) q j := ⟨List.mem_append_right _ List.mem_cons_self, va_up_self _ _ _⟩
/-- behind a method: the heap holds the world -/
def zB (N0 : Nat) (D : va_G) (cy : Nat → ClassId) (S : zS) (t : State) : Prop := va_P D vwCl (zP cy S) t.heap ∧ va_D (zN N0) (zP cy S)
