/-! the tables' good words, one list for every method -/
def gtb : List Cond := lw_tbl.filter goodWord
theorem gtb_of {w : Cond} (h : w ∈ lw_tbl) (hg : goodWord w = true) : w ∈ gtb := List.mem_filter.mpr ⟨h, hg⟩
theorem gtb_tbl {w : Cond} (h : w ∈ gtb) : w ∈ lw_tbl := (List.mem_filter.mp h).1
theorem gtb_good {w : Cond} (h : w ∈ gtb) : (w.onTables && w.keeps) = true ∨ ∃ ty, w = .arrayClass ty := good_of_word (List.mem_filter.mp h).2
theorem mgs {w : Cond} {i : Nat} (h : (k2_sels lw_privs)[i]? = some w) (hg : goodWord w = true) : w ∈ gtb := gtb_of (List.mem_append_left _ (List.mem_of_getElem? h)) hg
theorem mt1 {w : Cond} {i : Nat} (h : tables_1_1[i]? = some w) : w ∈ lw_tbl := List.mem_append_right _ (show w ∈ tables_1 from List.mem_append_left _ (List.mem_of_getElem? h))
theorem mt2 {w : Cond} {i : Nat} (h : tables_1_2[i]? = some w) : w ∈ lw_tbl := List.mem_append_right _ (show w ∈ tables_1 from List.mem_append_right _ (List.mem_append_left _ (List.mem_of_getElem? h)))
theorem mt3 {w : Cond} {i : Nat} (h : tables_1_3[i]? = some w) : w ∈ lw_tbl := List.mem_append_right _ (show w ∈ tables_1 from List.mem_append_right _ (List.mem_append_right _ (List.mem_append_left _ (List.mem_of_getElem? h))))
theorem mt4 {w : Cond} {i : Nat} (h : tables_1_4[i]? = some w) : w ∈ lw_tbl := List.mem_append_right _ (show w ∈ tables_1 from List.mem_append_right _ (List.mem_append_right _ (List.mem_append_right _ (List.mem_append_left _ (List.mem_of_getElem? h)))))
theorem mt5 {w : Cond} {i : Nat} (h : tables_1_5[i]? = some w) : w ∈ lw_tbl := List.mem_append_right _ (show w ∈ tables_1 from List.mem_append_right _ (List.mem_append_right _ (List.mem_append_right _ (List.mem_append_right _ (List.mem_append_left _ (List.mem_of_getElem? h))))))
theorem mt6 {w : Cond} {i : Nat} (h : tables_1_6[i]? = some w) : w ∈ lw_tbl := List.mem_append_right _ (show w ∈ tables_1 from List.mem_append_right _ (List.mem_append_right _ (List.mem_append_right _ (List.mem_append_right _ (List.mem_append_right _ (List.mem_append_left _ (List.mem_of_getElem? h)))))))
theorem mt7 {w : Cond} {i : Nat} (h : tables_1_7[i]? = some w) : w ∈ lw_tbl := List.mem_append_right _ (show w ∈ tables_1 from List.mem_append_right _ (List.mem_append_right _ (List.mem_append_right _ (List.mem_append_right _ (List.mem_append_right _ (List.mem_append_right _ (List.mem_of_getElem? h)))))))
theorem q_try1 : Cond.initialized "TuneSchool" ∈ gtb := gtb_of (mt1 (i := 1) rfl) rfl
theorem q_try2 : Cond.selects "TuneSchool" yX11_finding yX11_finding ∈ gtb := mgs (i := 0) rfl rfl
theorem gd_c {c : Cond} (h : c ∈ gtb) : GoodIn gtb (c :: gtb) := fun w hw => (List.mem_cons.mp hw).elim (fun e => by rw [e]; exact ⟨h, gtb_good h⟩) (fun hw => ⟨hw, gtb_good hw⟩)
theorem gd_V {own C : String} {y : MethodName} {idx : Nat} {c : Cond} (h1 : Cond.methodLink own idx y ∈ gtb) (h2 : Cond.instanceMethod y ∈ gtb) (h3 : Cond.selects C y y ∈ gtb) (h4 : Cond.initialized C ∈ gtb) (h5 : c ∈ gtb) : GoodIn gtb (wsV own idx C y (c :: gtb)) := by
  intro w hw
  have : w ∈ gtb := by
    simp only [wsV, List.mem_append, List.mem_cons, List.not_mem_nil, or_false] at hw
    rcases hw with (rfl | rfl | rfl | rfl) | rfl | h <;> assumption
  exact ⟨this, gtb_good this⟩
theorem gd_S {own : String} {y : MethodName} {idx : Nat} {c : Cond} (h1 : Cond.methodLink own idx y ∈ gtb) (h2 : Cond.static y ∈ gtb) (h4 : Cond.initialized y.cls ∈ gtb) (h5 : c ∈ gtb) : GoodIn gtb (va_wsS own idx y (c :: gtb)) := by
  intro w hw
  have : w ∈ gtb := by
    simp only [va_wsS, List.mem_append, List.mem_cons, List.not_mem_nil, or_false] at hw
    rcases hw with (rfl | rfl | rfl) | rfl | h <;> assumption
  exact ⟨this, gtb_good this⟩
/-! the words that no method's list may hold, by themselves; the array classes -/
def nwW : List Cond := [.methodLinkNest "TuneSchool" 15 yX10_init "TuneSchool", .methodLinkNest "TuneSchool" 34 yX5_init "TuneSchool", .methodLinkNest "TuneSchool$Desk" 27 yX10_init "TuneSchool", .methodLinkNest "TuneSchool" 50 yX4_init "TuneSchool", .methodLinkNest "TuneSchool" 331 yX6_init "TuneSchool", .methodLinkNest "TuneSchool$Motion" 3 yX2_init "TuneSchool", .methodLinkNest "TuneSchool$Interval" 3 yX7_init "TuneSchool", .methodLinkNest "TuneSchool$Rule" 3 yX9_init "TuneSchool", .methodLinkNest "TuneSchool" 334 yX3_init "TuneSchool", .methodLinkNest "TuneSchool$Leap" 3 yX7_init "TuneSchool", .methodLinkNest "TuneSchool" 337 yX0_init "TuneSchool", .methodLinkNest "TuneSchool$Cadence" 3 yX6_init "TuneSchool", .methodLinkNest "TuneSchool" 340 yX2_init "TuneSchool", .methodLinkNest "TuneSchool$School" 1 yX9_init "TuneSchool", .castable "TuneSchool$Cadence" "TuneSchool$Standing", .castable "TuneSchool$Interval" "TuneSchool$Standing", .castable "TuneSchool$Leap" "TuneSchool$Standing", .castable "TuneSchool$Motion" "TuneSchool$Standing", .castable "TuneSchool$School" "TuneSchool$Standing"]
def nwOk : Cond → Bool
  | .methodLinkNest _ _ _ _ => true
  | .castable _ _ => true
  | _ => false
theorem nwW_ok : ∀ w ∈ nwW, nwOk w = true := by
  intro w hw
  simp only [nwW, List.mem_cons, List.not_mem_nil, or_false] at hw
  rcases hw with rfl | rfl | rfl | rfl | rfl | rfl | rfl | rfl | rfl | rfl | rfl | rfl | rfl | rfl | rfl | rfl | rfl | rfl | rfl <;> rfl
theorem nw_warm1 {w : Cond} (hw : nwOk w = true) {s U : State} (hW : s.WarmedH U.vm) (h : va_Nw w s) : va_Nw w U := by
  cases w <;> first | (simp [nwOk] at hw; done) | exact va_Nw.warmM hW h | exact va_Nw.warmC hW h
theorem nw_same1 {w : Cond} (hw : nwOk w = true) {s U : State} (hW : s.vm = U.vm) (h : va_Nw w s) : va_Nw w U := by
  cases w <;> first | (simp [nwOk] at hw; done) | exact va_Nw.same rfl hW h
def a2 (k : Nat → ClassId) (U : State) : Prop := ∃ kA : Class, U.vm.classes[k 6]? = some kA ∧ kA.kind = .array (k 0) (.array .int)
theorem a2.moved {k : Nat → ClassId} {u U : State} (hvm : u.vm.Alike U.vm) (h : a2 k u) : a2 k U := by
  obtain ⟨kA, h1, h2⟩ := h
  obtain ⟨k', hk', he⟩ := hvm.2.2 _ _ h1
  exact ⟨k', hk', by rw [he]; exact h2⟩
def nw (k : Nat → ClassId) (U : State) : Prop := (∀ w ∈ nwW, va_Nw w U) ∧ va_AO "TuneSchool$Voice" U ∧ va_AO "TuneSchool$Standing" U ∧ va_AO "TuneSchool$Rule" U ∧ a2 k U
theorem nw.warm {k : Nat → ClassId} {s U : State} (hW : s.WarmedH U.vm) (h : nw k s) : nw k U := ⟨fun w hw => nw_warm1 (nwW_ok w hw) hW (h.1 w hw), h.2.1.moved hW.alike, h.2.2.1.moved hW.alike, h.2.2.2.1.moved hW.alike, h.2.2.2.2.moved hW.alike⟩
theorem nw.same {k : Nat → ClassId} {s U : State} (hW : s.vm = U.vm) (h : nw k s) : nw k U := by
  have ha : s.vm.Alike U.vm := hW ▸ Vm.Alike.refl s.vm
  exact ⟨fun w hw => nw_same1 (nwW_ok w hw) hW (h.1 w hw), h.2.1.moved ha, h.2.2.1.moved ha, h.2.2.2.1.moved ha, h.2.2.2.2.moved ha⟩
abbrev clsL : List vw_C := [("TuneSchool$Cadence", TX0, 1), ("TuneSchool$Desk", TX1, 17), ("TuneSchool$Interval", TX2, 1), ("TuneSchool$Leap", TX3, 1), ("TuneSchool$Line", TX4, 3), ("TuneSchool$Moment", TX5, 11), ("TuneSchool$Motion", TX6, 1), ("TuneSchool$School", TX8, 2), ("TuneSchool$Voice", TX10, 5), ("TuneSchool", TX11, 17), ("TuneSchoolModel", TX12, 71)]
abbrev tyL (k : Nat → ClassId) : List (ClassId × FieldType) := [(k 0, .int), (k 1, .boolean), (k 2, .long), (k 3, .object "TuneSchool$Voice"), (k 4, .object "TuneSchool$Standing"), (k 5, .object "TuneSchool$Rule"), (k 6, .array .int)]
/-- what a method's start says -/
def PX (D : va_G) (k : Nat → ClassId) (wc : va_W) (sz : Nat) (av : List Value) : Array Value → State → Prop := va_Pc av (fun U => U.heap.size = sz ∧ va_P D clsL wc U.heap ∧ va_K D clsL (tyL k) U ∧ va_D (fun _ => True) wc ∧ nw k U)
theorem PX.blind {D : va_G} {k : Nat → ClassId} {wc : va_W} {sz : Nat} {av : List Value} : FrameBlind (PX D k wc sz av) := by
  intro a U g mk q
  obtain ⟨q0, q1, qP, qK, qD, qN⟩ := q
  exact ⟨q0, q1, qP, va_K.moved (u := U) (U := U.calling g mk a) (Vm.Alike.refl U.vm) qK, qD, nw.same (s := U) (U := U.calling g mk a) rfl qN⟩
theorem preS {D : va_G} {k : Nat → ClassId} {s : State} {H : Heap} {wc : va_W} {As : List Value} {A : Nat → Prop} (hK : va_K D clsL (tyL k) s) (hN : nw k s) (hP : va_P D clsL wc H) (hD : va_D A wc) : PreS s H (PX D k wc H.size As) As :=
  ⟨PX.blind, fun U hU hW => ⟨rfl, by rw [hU], by rw [hU]; exact hP, va_K.moved hW.alike hK, hD.weaken (fun _ _ _ _ => trivial), hN.warm hW⟩⟩
theorem preV {D : va_G} {k : Nat → ClassId} {s : State} {H : Heap} {wc : va_W} {b : Addr} {As : List Value} {A : Nat → Prop} (ci q0 : Nat) {C : String} {T : u_T} {N : Nat} {fs : List Value} (hK : va_K D clsL (tyL k) s) (hN : nw k s) (hP : va_P D clsL wc H) (hD : va_D A wc) (hc : clsL[ci]? = some (C, T, N)) (he : wc[q0]? = some (b, .inr (ci, fs))) : PreV s H C b (PX D k wc H.size (.ref b :: As)) As :=
  ⟨PX.blind, va_recv hK hP hc he, fun U hU hW => ⟨rfl, by rw [hU], by rw [hU]; exact hP, va_K.moved hW.alike hK, hD.weaken (fun _ _ _ _ => trivial), hN.warm hW⟩⟩
/-- the world behind a method -/
def WX (D : va_G) (A : Nat → Prop) (wc : va_W) (t : State) : Prop := va_P D clsL wc t.heap ∧ va_D A wc
