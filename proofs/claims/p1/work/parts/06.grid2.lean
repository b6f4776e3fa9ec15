section GRID2
variable {p : Program} {l : Launch} {e : Env} {R : Room} {s : State} {m : MethodId} {args : Array Value} {below : List Frame} {meth : Method} {c : Code} {H : Heap} {locs : List Loc} {cells slots : Nat} {Q : State → Prop}
variable {D : va_G} {k : Nat → ClassId} {A : Nat → Prop} {ws : va_W} {H0 : Heap} {cc : ByteArray} {pc : Nat} {rest : List Value} {ls : Array Slot} {T : State}
theorem g_stand (X : Stand p l e R s m args below meth c T locs cells slots) (cO ci : ClassId) : Stand p l e R s m args below meth c (g_s5 T cO ci) locs (cells + 3) (slots + 50) := by
  have Y1 := X.pushed (g_o0 cO)
  have Y2 := Y1.pushed (g_in ci)
  have Y3 := Y2.stored (g_c2 T cO ci) 0 (.ref (T.heap.size + 1))
  have Y4 := Y3.pushed (g_in ci)
  have Y5 := Y4.stored (g_c4 T cO ci) 1 (.ref (T.heap.size + 2))
  have e0 : (g_o0 cO).slots.size = 2 := by simp [g_o0]
  have e1 : (g_in ci).slots.size = 24 := by simp [g_in]
  rw [e0, e1] at Y5
  have hz : s.heap.size ≤ T.heap.size := X.heapGrown
  have Y6 := Stand.dropFresh Y5 (fun x hx => by simp only [List.mem_cons, List.not_mem_nil, or_false] at hx; rw [hx]; exact hz)
  have Y7 := Stand.dropFresh Y6 (fun x hx => by simp only [List.mem_cons, List.not_mem_nil, or_false] at hx; rw [hx]; exact hz)
  exact Y7
theorem g_go (X : Stand p l e R s m args below meth c T locs cells slots) (hexec : p.tables.exec = Jvm.exec) {own : String} {index : Nat} (hown : s.vm.findClass own = some m.cls) (hclink : (Cond.classLink own index "[[I").before args s = true) {cO ci cx : ClassId} {kA kc : Class} (hnm : s.vm.findClass "[[I" = some cO)
    (hk : s.vm.classes[cO]? = some kA) (hkA : kA.kind = .array ci (.array .int)) (hkc : s.vm.classes[ci]? = some kc) (hkind : kc.kind = .array cx .int) {g : JFrame} (hg : g.method = m) (hdg : decode c.code g.pc = .ok (.multianewarray index 2, 4)) {rest : List Value} (hstack : g.stack = .int 24 :: .int 2 :: rest)
    (hcells : cells + 3 ≤ R.cells) (hslots : slots + 50 ≤ R.slots) :
    ∃ vm₁ : Vm, Stand p l e R s m args below meth c (g_s5 (T.setVm vm₁) cO ci) locs (cells + 3) (slots + 50) ∧
      ∀ target, Steps p.tables e below ((g_s5 (T.setVm vm₁) cO ci).setTop { g with pc := g.pc + 4, stack := .ref T.heap.size :: rest }) target → Steps p.tables e below (T.setTop g) target := by
  subst hg
  have hpl : e.platform.magicAccessors = ({} : Platform).magicAccessors := by rw [X.admits.platform]
  obtain ⟨c0, hfc0, hcl⟩ := Cond.classLink_spec hown hclink e.platform hpl
  cases hnm.symm.trans hfc0
  obtain ⟨hg₁, hwarm₁, hready₁⟩ := State.classEntry (e := e) X.warmed hcl
  generalize T.vm.noted g.method.cls index (.cls cO) = vm₁ at hg₁ hwarm₁ hready₁
  have hal : s.vm.Alike vm₁ := hwarm₁.alike
  obtain ⟨kA₁, hkA₁, heA⟩ := hal.2.2 _ _ hk
  obtain ⟨kC₁, hkC₁, heC⟩ := hal.2.2 _ _ hkc
  have hkindA₁ : kA₁.kind = .array ci (.array .int) := by rw [heA]; exact hkA
  have hkindC₁ : kC₁.kind = .array cx .int := by rw [heC]; exact hkind
  have X₁ := X.noted hwarm₁
  obtain ⟨hr1, hr2⟩ := X.roomAbove hcells hslots
  have XF := g_stand X₁ cO ci
  refine ⟨vm₁, XF, fun target hrest => ?_⟩
  have hl : ¬ 24 > e.platform.arrayLengthLimit := by rw [Launch.admits_arrayLengthLimit X.admits]; omega
  have hh : ¬ 24 * 4 > e.platform.maxHeapBytes := by rw [Launch.admits_maxHeapBytes X.admits]; omega
  jvm_step X.here [hexec, hdg]
  simp only [Op.multianewarray.sem, wp_bind', Jvm.W.resolveClassAt_links (State.method?_setTop g X.here.top) hg₁]
  rw [Jvm.W.popN, if_neg (by decide)]
  refine ⟨g, State.topJava?_setTop' (s := T.setVm vm₁) g X.here.top, [.int 2, .int 24], rest, rfl, hstack, ?_⟩
  simp only [List.mapM_cons, List.mapM_nil, wp_bind', wp_pure']
  refine g_make (s := ((T.setTop g).setVm vm₁).setTop { g with stack := rest }) (kA := kA₁) (kc := kC₁) (comp := ci) (cc := cx) hkA₁ hkindA₁ hkC₁ hkindC₁ hl hh hr1 hr2 (fun d' acts' => ?_)
  have eS : ((T.setTop g).setVm vm₁).setTop { g with stack := rest } = (T.setVm vm₁).setTop { g with stack := rest } := by
    show ((T.setVm vm₁).setTop g).setTop _ = _
    rw [State.setTop_setTop]
  rw [eS, g_top]
  simp only [wp_bind', Jvm.W.mark, Jvm.W.pushRef, State.topJava?_setTop' _ XF.here.top, Option.some.injEq, exists_eq_left', State.setTop_setTop, State.heap_setTop]
  intro acts
  simp [jvm, XF.here.top]
  exact hrest
theorem g_oV (cO : ClassId) (h : Nat) : g_o2 cO h = vp_cell cO (2, .inr (.inr (.inr (.inr (va_up (va_up (fun _ => none) 0 (some (h + 1))) 1 (some (h + 2))))))) := by
  rw [vp_cell_q]
  show ((({ cls := cO, slots := Array.replicate 2 .null, vm := .none } : Cell).setSlot 0 (.ref (h + 1))).setSlot 1 (.ref (h + 2))) = _
  rw [arrV_new, arrV_store, arrV_store]
  refine congrArg (arrV cO 2) (funext fun j => ?_)
  by_cases h1 : j = 1
  · subst h1; simp [updV, va_up, va_rf]
  · by_cases h0 : j = 0
    · subst h0; simp [updV, va_up, va_rf]
    · simp [updV, va_up, va_rf, h0, h1]
theorem newG (hx : p.tables.exec = Jvm.exec) (hb : c.code = cc) {own : String} {index : Nat} (hown : s.vm.findClass own = some m.cls) (hclink : (Cond.classLink own index "[[I").before args s = true) (hK : va_K D clsL (tyL k) s) (hN : nw k s) (hP : va_P D clsL ws H) (hD : va_D A ws) (hS : va_S A H0 H locs) (hA : ∀ q, H0.size ≤ q → A q)
    (hcells : cells + 3 ≤ R.cells) (hslots : slots + 50 ≤ R.slots) (hdg : decode cc pc = .ok (.multianewarray index 2, 4))
    (kk : ∀ (q q1 q2 : Nat) (H1 : Heap), va_P D clsL (((ws ++ [(q, .inl (k 6, 2, .inr (.inr (.inr (.inr (va_up (va_up (fun _ => none) 0 (some q1)) 1 (some q2)))))))]) ++ [(q1, .inl (k 0, 24, .inl (fun _ => 0)))]) ++ [(q2, .inl (k 0, 24, .inl (fun _ => 0)))]) H1 → va_D A (((ws ++ [(q, .inl (k 6, 2, .inr (.inr (.inr (.inr (va_up (va_up (fun _ => none) 0 (some q1)) 1 (some q2)))))))]) ++ [(q1, .inl (k 0, 24, .inl (fun _ => 0)))]) ++ [(q2, .inl (k 0, 24, .inl (fun _ => 0)))]) → va_S A H0 H1 locs →
      W p l e R s m args below meth c H1 locs (cells + 3) (slots + 50) Q (F0 m (pc + 4) ls (.ref q :: rest))) : W p l e R s m args below meth c H locs cells slots Q (F0 m pc ls (.int 24 :: .int 2 :: rest)) := by
  intro T hT X
  obtain ⟨kA, hk, hkA⟩ := hN.2.2.2.2
  obtain ⟨-, kc, hkc, cx, hkind⟩ := (hK.2 0 (k 0, .int) rfl).1 0 (fun _ => .int 0)
  have hnm : s.vm.findClass "[[I" = some (k 6) := (hK.2 6 (k 6, .array .int) rfl).2
  obtain ⟨vm₁, X', st⟩ := g_go X hx hown hclink hnm hk hkA hkc hkind (g := F0 m pc ls (.int 24 :: .int 2 :: rest)) rfl (by rw [hb]; exact hdg) rfl hcells hslots
  have hTh : (T.setVm vm₁).heap = H := hT
  generalize hH1 : (g_s5 (T.setVm vm₁) (k 6) (k 0)).heap = H1
  have z1 : H1.size = H.size + 3 := by rw [← hH1, g_z5, hTh]
  have c1 : H1[H.size]? = some (g_o2 (k 6) H.size) := by
    have h := g_c5 (T.setVm vm₁) (k 6) (k 0)
    rw [hH1, hTh] at h
    exact h
  have a1 : H1[H.size + 1]? = some (g_in (k 0)) := by
    have h := g_a5 (T.setVm vm₁) (k 6) (k 0)
    rw [hH1, hTh] at h
    exact h
  have b1 : H1[H.size + 2]? = some (g_in (k 0)) := by
    have h := g_b5 (T.setVm vm₁) (k 6) (k 0)
    rw [hH1, hTh] at h
    exact h
  have o1 : ∀ q : Nat, q < H.size → H1[q]? = H[q]? := fun q hq => by
    have h := g_old (T.setVm vm₁) (k 6) (k 0) (a := q) (by rw [hTh]; exact hq)
    rw [hH1, hTh] at h
    exact h
  have hin : g_in (k 0) = vp_cell (k 0) (24, .inl (fun _ => 0)) := by
    show ({ cls := k 0, slots := Array.replicate 24 (.int 0), vm := .none } : Cell) = arrV (k 0) 24 (fun _ => .int 0)
    exact arrV_new (k 0) 24 (.int 0)
  have hkp : ∀ (i : Nat) (x : Nat × va_E), ws[i]? = some x → H1[x.1]? = H[x.1]? := fun i x hx => o1 x.1 ((hP i x hx).lt)
  have one : ∀ (x : Nat × va_E), va_at D clsL x H1 → va_P D clsL [x] H1 := fun x hx i y hy => by
    have hz : i < 1 := (List.getElem?_eq_some_iff.mp hy).1
    rw [show i = 0 by omega] at hy
    cases hy
    exact hx
  have P1 := (hP.kept hkp).app (one (H.size, .inl (k 6, 2, .inr (.inr (.inr (.inr (va_up (va_up (fun _ => none) 0 (some (H.size + 1))) 1 (some (H.size + 2)))))))) (c1.trans (congrArg some (g_oV (k 6) H.size))))
  have P2 := P1.app (one (H.size + 1, .inl (k 0, 24, .inl (fun _ => 0))) (a1.trans (congrArg some hin)))
  have P3 := P2.app (one (H.size + 2, .inl (k 0, 24, .inl (fun _ => 0))) (b1.trans (congrArg some hin)))
  have far : ∀ (V : va_W) (n : Nat), va_D A V → (∀ (i : Nat) (x : Nat × va_E), V[i]? = some x → x.1 < n) → A n → ∀ e : va_E, va_D A (V ++ [(n, e)]) := fun V n hV hlt hn e => hV.app ⟨fun i j x y hi hj hxy => by
      have h1 : i < 1 := (List.getElem?_eq_some_iff.mp hi).1
      have h2 : j < 1 := (List.getElem?_eq_some_iff.mp hj).1
      omega, fun i x hi => by
      have h1 : i < 1 := (List.getElem?_eq_some_iff.mp hi).1
      rw [show i = 0 by omega] at hi
      cases hi
      exact hn⟩ (fun i j x y hi hj hxy => by
      have h1 : j < 1 := (List.getElem?_eq_some_iff.mp hj).1
      rw [show j = 0 by omega] at hj
      cases hj
      have := hlt i x hi
      omega)
  have lt1 : ∀ (V : va_W) (n : Nat) (e : va_E), (∀ (i : Nat) (x : Nat × va_E), V[i]? = some x → x.1 < n) → ∀ (i : Nat) (x : Nat × va_E), (V ++ [(n, e)])[i]? = some x → x.1 < n + 1 := fun V n e hV i x hx => by
    by_cases hl : i < V.length
    · rw [List.getElem?_append_left hl] at hx
      have := hV i x hx
      omega
    · rw [List.getElem?_append_right (by omega)] at hx
      have h1 : i - V.length < 1 := (List.getElem?_eq_some_iff.mp hx).1
      rw [show i - V.length = 0 by omega] at hx
      cases hx
      exact Nat.lt_succ_self n
  have l0 : ∀ (i : Nat) (x : Nat × va_E), ws[i]? = some x → x.1 < H.size := fun i x hx => (hP i x hx).lt
  have l1 := lt1 ws H.size (.inl (k 6, 2, .inr (.inr (.inr (.inr (va_up (va_up (fun _ => none) 0 (some (H.size + 1))) 1 (some (H.size + 2)))))))) l0
  have l2 := lt1 _ (H.size + 1) (.inl (k 0, 24, .inl (fun _ => 0))) l1
  have hz0 := hS.1
  have D1 := far ws H.size hD l0 (hA _ hz0) (.inl (k 6, 2, .inr (.inr (.inr (.inr (va_up (va_up (fun _ => none) 0 (some (H.size + 1))) 1 (some (H.size + 2))))))))
  have D2 := far _ (H.size + 1) D1 l1 (hA _ (by omega)) (.inl (k 0, 24, .inl (fun _ => 0)))
  have D3 := far _ (H.size + 2) D2 l2 (hA _ (by omega)) (.inl (k 0, 24, .inl (fun _ => 0)))
  obtain ⟨t, t1, t2⟩ := kk H.size (H.size + 1) (H.size + 2) H1 P3 D3 ⟨by omega, fun x h1 h2 => (o1 x (Nat.lt_of_lt_of_le h1 hS.1)).trans (hS.2.1 x h1 h2), hS.2.2⟩ _ hH1 X'
  refine ⟨t, st t ?_, t2⟩
  have e1 : T.heap.size = H.size := by rw [hT]
  rw [e1]
  exact t1
end GRID2
