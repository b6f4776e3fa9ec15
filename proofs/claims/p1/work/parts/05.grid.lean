/-! new int[2][24]: one instruction, three cells -/
section GRID
variable {E : CtlPost} {e : Env} {d : Bool} {acts : List Action} {s : State}
theorem g_i24 : ¬ ((24 : Int32) < 0) := by decide
theorem g_i2 : ¬ ((2 : Int32) < 0) := by decide
theorem g_n24 : (24 : Int32).toNatClampNeg = 24 := by decide
theorem g_n2 : (2 : Int32).toNatClampNeg = 2 := by decide
theorem g_row {comp cc : ClassId} {kc : Class} (hkc : s.vm.classes[comp]? = some kc) (hkind : kc.kind = .array cc .int) (hl : ¬ 24 > e.platform.arrayLengthLimit) (hh : ¬ 24 * componentBytes .int > e.platform.maxHeapBytes)
    (h1 : s.heap.size < e.platform.maxCells) (h2 : s.slotsUsed + 24 ≤ e.platform.maxSlots) {Q : Addr → Pre} (hq : ∀ acts', Q s.heap.size d acts' (s.pushCell { cls := comp, slots := Array.replicate 24 (.int 0) })) : wp (Op.multianewarray.make comp [24]) Q E e d acts s := by
  rw [Op.multianewarray.make]
  simp only [wp_bind', Jvm.W.ite, g_i24, if_false, wp_pure', Jvm.W.theClass, hkc, hkind, Option.some.injEq, exists_eq_left', g_n24]
  exact Jvm.W.newArray_of hkc hkind hl hh h1 h2 rfl hq
def g_o0 (c : ClassId) : Cell := { cls := c, slots := Array.replicate 2 .null }
def g_in (c : ClassId) : Cell := { cls := c, slots := Array.replicate 24 (.int 0) }
def g_o1 (c : ClassId) (h : Nat) : Cell := (g_o0 c).setSlot 0 (.ref (h + 1))
def g_o2 (c : ClassId) (h : Nat) : Cell := (g_o1 c h).setSlot 1 (.ref (h + 2))
def g_s1 (s : State) (c : ClassId) : State := s.pushCell (g_o0 c)
def g_s2 (s : State) (c ci : ClassId) : State := (g_s1 s c).pushCell (g_in ci)
def g_s3 (s : State) (c ci : ClassId) : State := (g_s2 s c ci).setCell s.heap.size (g_o1 c s.heap.size)
def g_s4 (s : State) (c ci : ClassId) : State := (g_s3 s c ci).pushCell (g_in ci)
def g_s5 (s : State) (c ci : ClassId) : State := (g_s4 s c ci).setCell s.heap.size (g_o2 c s.heap.size)
theorem g_z1 (s : State) (c : ClassId) : (g_s1 s c).heap.size = s.heap.size + 1 := by simp [g_s1]
theorem g_z2 (s : State) (c ci : ClassId) : (g_s2 s c ci).heap.size = s.heap.size + 2 := by simp [g_s2, g_z1]
theorem g_z3 (s : State) (c ci : ClassId) : (g_s3 s c ci).heap.size = s.heap.size + 2 := by simp [g_s3, State.setCell, g_z2]
theorem g_z4 (s : State) (c ci : ClassId) : (g_s4 s c ci).heap.size = s.heap.size + 3 := by simp [g_s4, g_z3]
theorem g_z5 (s : State) (c ci : ClassId) : (g_s5 s c ci).heap.size = s.heap.size + 3 := by simp [g_s5, State.setCell, g_z4]
theorem g_push {s : State} {c : Cell} {a n : Nat} (hn : s.heap.size = n) (h : a < n) : (s.pushCell c).heap[a]? = s.heap[a]? := State.heap_pushCell_of_lt _ _ (by rw [hn]; exact h)
theorem g_last {s : State} {c : Cell} {n : Nat} (hn : s.heap.size = n) : (s.pushCell c).heap[n]? = some c := by
  rw [← hn]
  exact State.heap_pushCell_size _ _
theorem g_c2 (s : State) (c ci : ClassId) : (g_s2 s c ci).heap[s.heap.size]? = some (g_o0 c) := (g_push (g_z1 s c) (by omega)).trans (g_last rfl)
theorem g_c3 (s : State) (c ci : ClassId) : (g_s3 s c ci).heap[s.heap.size]? = some (g_o1 c s.heap.size) := State.heap_setCell_self (g_c2 s c ci)
theorem g_c4 (s : State) (c ci : ClassId) : (g_s4 s c ci).heap[s.heap.size]? = some (g_o1 c s.heap.size) := (g_push (g_z3 s c ci) (by omega)).trans (g_c3 s c ci)
theorem g_c5 (s : State) (c ci : ClassId) : (g_s5 s c ci).heap[s.heap.size]? = some (g_o2 c s.heap.size) := State.heap_setCell_self (g_c4 s c ci)
theorem g_a5 (s : State) (c ci : ClassId) : (g_s5 s c ci).heap[s.heap.size + 1]? = some (g_in ci) := (State.heap_setCell_other (s := g_s4 s c ci) (show s.heap.size ≠ s.heap.size + 1 by omega)).trans ((g_push (g_z3 s c ci) (by omega)).trans ((State.heap_setCell_other (s := g_s2 s c ci) (show s.heap.size ≠ s.heap.size + 1 by omega)).trans (g_last (g_z1 s c))))
theorem g_b5 (s : State) (c ci : ClassId) : (g_s5 s c ci).heap[s.heap.size + 2]? = some (g_in ci) := (State.heap_setCell_other (s := g_s4 s c ci) (show s.heap.size ≠ s.heap.size + 2 by omega)).trans (g_last (g_z3 s c ci))
theorem g_old (s : State) (c ci : ClassId) {a : Nat} (h : a < s.heap.size) : (g_s5 s c ci).heap[a]? = s.heap[a]? := (State.heap_setCell_other (s := g_s4 s c ci) (show s.heap.size ≠ a by omega)).trans ((g_push (g_z3 s c ci) (by omega)).trans ((State.heap_setCell_other (s := g_s2 s c ci) (show s.heap.size ≠ a by omega)).trans ((g_push (g_z1 s c) (by omega)).trans (g_push rfl h))))
theorem g_top (s : State) (f : JFrame) (c ci : ClassId) : g_s5 (s.setTop f) c ci = (g_s5 s c ci).setTop f := by
  simp only [g_s5, g_s4, g_s3, g_s2, g_s1, State.heap_setTop, State.pushCell_setTop, State.setCell_setTop]
theorem g_make {c comp cc : ClassId} {kA kc : Class} (hk : s.vm.classes[c]? = some kA) (hkA : kA.kind = .array comp (.array .int)) (hkc : s.vm.classes[comp]? = some kc) (hkind : kc.kind = .array cc .int) (hl : ¬ 24 > e.platform.arrayLengthLimit) (hh : ¬ 24 * 4 > e.platform.maxHeapBytes)
    (h1 : s.heap.size + 3 ≤ e.platform.maxCells) (h2 : s.slotsUsed + 50 ≤ e.platform.maxSlots) {Q : Addr → Pre} (hq : ∀ d' acts', Q s.heap.size d' acts' (g_s5 s c comp)) : wp (Op.multianewarray.make c [2, 24]) Q E e d acts s := by
  rw [Op.multianewarray.make]
  simp only [wp_bind', Jvm.W.ite, g_i2, if_false, wp_pure', Jvm.W.theClass, hk, hkA, Option.some.injEq, exists_eq_left', g_n2]
  refine Jvm.W.newArray_of hk hkA (by omega) (by show ¬ 2 * 4 > _; omega) (by omega) (by omega) rfl (fun acts1 => ?_)
  have hb : ((2 : Int32) == 0) = false := by decide
  simp only [hb]
  rw [if_neg (by decide), wp_bind', Std.Legacy.Range.forIn_eq_forIn_range']
  show wp (forIn [0, 1] PUnit.unit _) _ E e d acts1 (g_s1 s c)
  simp only [List.forIn_cons, List.forIn_nil, wp_bind']
  have u1 : (g_s1 s c).slotsUsed = s.slotsUsed + 2 := by simp [g_s1, g_o0]
  have u2 : (g_s2 s c comp).slotsUsed = s.slotsUsed + 26 := by simp [g_s2, u1, g_in]
  have u3 : (g_s3 s c comp).slotsUsed = s.slotsUsed + 26 := by simp [g_s3, u2]
  have v1 : (g_s1 s c).vm = s.vm := rfl
  have v3 : (g_s3 s c comp).vm = s.vm := rfl
  refine g_row (by rw [v1]; exact hkc) hkind hl hh (by rw [g_z1]; omega) (by rw [u1]; omega) (fun acts2 => ?_)
  rw [wp_bind', Jvm.W.writeLoc]
  refine ⟨g_o0 c, g_c2 s c comp, by simp [g_o0], by simp [g_o0], by simp [g_o0, State.fitsSlot, State.slotType?, v1, hk, hkA, fits], ?_⟩
  have e3 : ((g_s1 s c).pushCell { cls := comp, slots := Array.replicate 24 (.int 0) }).setCell s.heap.size ((g_o0 c).setSlot 0 (.ref (g_s1 s c).heap.size)) = g_s3 s c comp := by rw [g_z1]; rfl
  rw [e3]
  simp only [wp_pure', wp_bind']
  refine g_row (by rw [v3]; exact hkc) hkind hl hh (by rw [g_z3]; omega) (by rw [u3]; omega) (fun acts3 => ?_)
  rw [wp_bind', Jvm.W.writeLoc]
  refine ⟨g_o1 c s.heap.size, g_c4 s c comp, by simp [g_o1, g_o0, Cell.setSlot], by simp [g_o1, g_o0, Cell.setSlot], by simp [g_o1, g_o0, Cell.setSlot, State.fitsSlot, State.slotType?, v3, hk, hkA, fits], ?_⟩
  have e5 : ((g_s3 s c comp).pushCell { cls := comp, slots := Array.replicate 24 (.int 0) }).setCell s.heap.size ((g_o1 c s.heap.size).setSlot 1 (.ref (g_s3 s c comp).heap.size)) = g_s5 s c comp := by rw [g_z3]; rfl
  rw [e5]
  simp only [wp_pure']
  exact hq _ _
end GRID
