theorem nilP {D : va_G} {H : Heap} : va_P D clsL [] H := fun k q h => by simp at h
theorem nilD {A : Nat → Prop} : va_D A [] := ⟨fun i j p q h => by simp at h, fun k q h => by simp at h⟩
/-- what a method's body may count on -/
def BX (p : Program) (s : State) (m : MethodId) (meth : Method) (c : Code) (D : va_G) (k : Nat → ClassId) (y : MethodName) (cc : ByteArray) (nL : Nat) (ret : Option FieldType) (args : Array Value) (wc : va_W) (A : Nat → Prop) : Prop :=
  p.tables.exec = Jvm.exec ∧ c.code = cc ∧ c.maxLocals = nL ∧ meth.sig.returnType = ret ∧ meth.locks = false ∧ meth.name = y.name ∧ s.vm.findClass y.cls = some m.cls ∧ (∀ w ∈ gtb, w.before args s = true) ∧ va_K D clsL (tyL k) s ∧ nw k s ∧ (∀ q : Nat, s.heap.size ≤ q → A q) ∧ va_P D clsL wc s.heap ∧ va_D A wc ∧ va_S A s.heap s.heap []
theorem mtX {l : Launch} {y : MethodName} {D : va_G} {k : Nat → ClassId} {wc : va_W} {sz : Nat} {av : List Value} {rm : Room} {mc ms : Nat} {cc : ByteArray} {maxL : Nat} {ret : Option FieldType} (Qc : (Nat → Prop) → Array Value → State → Outcome → State → Prop) (free : (Nat → Prop) → Addr → Prop)
    (hy : plainName y.cls = true) (hlen : (lg_sl av).length ≤ maxL)
    (body : ∀ (p : Program) (e : Env) (s : State) (m : MethodId) (below : List Frame) (meth : Method) (c : Code) (ls : Array Slot) (A : Nat → Prop), BX p s m meth c D k y cc maxL ret av.toArray wc A → lv_has ls maxL (lv_args 0 av) → W p l e rm s m av.toArray below meth c s.heap [] 0 0 (MQ below (Qc A) av.toArray s mc ms (free A)) (F0 m 0 ls [])) :
    Met l y (.code y cc maxL ret :: gtb) rm (PX D k wc sz av) (Qc (va_A wc sz)) mc ms (free (va_A wc sz)) := by
  refine Met.ofW (cc := cc) (maxL := maxL) (ret := ret) hy rfl ?_
  intro p e s m args below meth c s₁ B hml hv
  obtain ⟨rfl, hsz, hP, hK, hD0, hN⟩ := hv
  have hts := atoms_spec (ws := Cond.code y cc maxL ret :: gtb) B.pre
  subst hsz
  have hl := lv_entry av (n := maxL) hlen
  rw [lg_entry_eq]
  exact body p e s m below meth c _ _ ⟨B.exec, B.bytes, hml, B.returns, B.notSynchronized, (name_of_methodNamed B.named B.method).1, findClass_of_methodNamed B.named, fun w h => hts w (List.mem_cons_of_mem _ h), hK, hN, fun q h => Or.inr h, hP, hD0.self (sz := s.heap.size), va_S.rf⟩ hl
/-- contracts: an int, or nothing, and a world behind; a pure one -/
abbrev CI (l : Launch) (y : MethodName) (cc : ByteArray) (nL : Nat) (ret : Option FieldType) (fr lo mc ms : Nat) (D : va_G) (k : Nat → ClassId) (wc : va_W) (av : List Value) {S : Type} (post : Int32 → S → Prop) (w1 : S → va_W) : Prop :=
  ∀ sz : Nat, Met l y (.code y cc nL ret :: gtb) { frames := fr, cells := mc, slots := ms, locals := lo } (PX D k wc sz av) (va_Qi post (fun u t => WX D (va_A wc sz) (w1 u) t) (va_A wc sz)) mc ms (va_A wc sz)
abbrev CV (l : Launch) (y : MethodName) (cc : ByteArray) (nL : Nat) (fr lo mc ms : Nat) (D : va_G) (k : Nat → ClassId) (wc : va_W) (av : List Value) {S : Type} (post : S → Prop) (w1 : S → va_W) : Prop :=
  ∀ sz : Nat, Met l y (.code y cc nL none :: gtb) { frames := fr, cells := mc, slots := ms, locals := lo } (PX D k wc sz av) (va_Qv post (fun u t => WX D (va_A wc sz) (w1 u) t) (va_A wc sz)) mc ms (va_A wc sz)
abbrev CR (l : Launch) (y : MethodName) (cc : ByteArray) (nL : Nat) (ret : Option FieldType) (fr lo mc ms : Nat) (D : va_G) (k : Nat → ClassId) (wc : va_W) (av : List Value) {S : Type} (post : S → Prop) (w1 : S → Nat → va_W) : Prop :=
  ∀ sz : Nat, Met l y (.code y cc nL ret :: gtb) { frames := fr, cells := mc, slots := ms, locals := lo } (PX D k wc sz av) (va_Qr post (fun u a t => WX D (va_A wc sz) (w1 u a) t) (va_A wc sz)) mc ms (va_A wc sz)
abbrev CP (l : Launch) (y : MethodName) (cc : ByteArray) (nL : Nat) (ret : Option FieldType) (fr lo : Nat) (D : va_G) (k : Nat → ClassId) (wc : va_W) (av : List Value) (post : Int32 → Prop) : Prop :=
  ∀ sz : Nat, Met l y (.code y cc nL ret :: gtb) { frames := fr, cells := 0, slots := 0, locals := lo } (PX D k wc sz av) (vp_Si post) 0 0 (fun _ => False)
abbrev mdOk (y : MethodName) (n : Nat) : Prop := y.cls ≠ "java/lang/invoke/MethodHandle" ∧ y.cls ≠ "java/lang/invoke/VarHandle" ∧ (parseMethodDescriptor y.desc).map (fun d => d.parameters.length) = some n
section CALLS
variable {p : Program} {l : Launch} {e : Env} {R : Room} {s : State} {m : MethodId} {args : Array Value} {below : List Frame} {meth : Method} {c : Code} {H : Heap} {locs : List Loc} {cells slots : Nat} {Q : State → Prop}
variable {D : va_G} {k : Nat → ClassId} {A A' : Nat → Prop} {ws wc wr : va_W} {H0 : Heap} {y : MethodName} {bytes cc : ByteArray} {maxL nL mc ms n index fr lo pc : Nat} {ret : Option FieldType} {own C : String} {b : Addr} {As rest st0 : List Value} {ls : Array Slot}
theorem afterI {S : Type} {post : Int32 → S → Prop} {w1 : S → va_W} {a : Array Value} (hr : va_Run p l e R s m args below meth c H locs cells slots mc ms (F0 m pc ls st0) rest (va_Qi post (fun u t => WX D (va_A wc H.size) (w1 u) t) (va_A wc H.size) a) (va_A wc H.size))
    (hP : va_P D clsL ws H) (hD : va_D A ws) (hS : va_S A H0 H locs) (hA : ∀ q, H0.size ≤ q → A q) (isC isR : List Nat) (hC : isC.map (fun i => ws[i]?) = wc.map some) (hR : isR.map (fun i => ws[i]?) = wr.map some) (hn : va_nd isR = true) (hdis : ∀ i ∈ isR, i ∉ isC)
    (kk : ∀ (r : Int32) (u : S) (H1 : Heap) (locs1 : List Loc), post r u → va_P D clsL (wr ++ w1 u) H1 → va_D A (wr ++ w1 u) → va_S A H0 H1 locs1 → W p l e R s m args below meth c H1 locs1 (cells + mc) (slots + ms) Q (F0 m (pc + 3) ls (.int r :: rest))) : W p l e R s m args below meth c H locs cells slots Q (F0 m pc ls st0) := by
  have hF := va_free hD hS hA isC hC
  refine va_calli hr hS (fun q _ h => hF q h) hF (fun r u t H1 locs1 ht hvm hw hB hz1 hk1 hS1 => ?_)
  obtain ⟨hP1, hD1⟩ := hB
  rw [ht] at hP1
  obtain ⟨hP2, hD2⟩ := va_join hP hD isC isR hC hR hn hdis hk1 hF hP1 hD1
  exact kk r u H1 locs1 hw hP2 hD2 hS1
theorem afterV {S : Type} {post : S → Prop} {w1 : S → va_W} {a : Array Value} (hr : va_Run p l e R s m args below meth c H locs cells slots mc ms (F0 m pc ls st0) rest (va_Qv post (fun u t => WX D (va_A wc H.size) (w1 u) t) (va_A wc H.size) a) (va_A wc H.size))
    (hP : va_P D clsL ws H) (hD : va_D A ws) (hS : va_S A H0 H locs) (hA : ∀ q, H0.size ≤ q → A q) (isC isR : List Nat) (hC : isC.map (fun i => ws[i]?) = wc.map some) (hR : isR.map (fun i => ws[i]?) = wr.map some) (hn : va_nd isR = true) (hdis : ∀ i ∈ isR, i ∉ isC)
    (kk : ∀ (u : S) (H1 : Heap) (locs1 : List Loc), post u → va_P D clsL (wr ++ w1 u) H1 → va_D A (wr ++ w1 u) → va_S A H0 H1 locs1 → W p l e R s m args below meth c H1 locs1 (cells + mc) (slots + ms) Q (F0 m (pc + 3) ls rest)) : W p l e R s m args below meth c H locs cells slots Q (F0 m pc ls st0) := by
  have hF := va_free hD hS hA isC hC
  refine va_callv hr hS (fun q _ h => hF q h) hF (fun u t H1 locs1 ht hvm hw hB hz1 hk1 hS1 => ?_)
  obtain ⟨hP1, hD1⟩ := hB
  rw [ht] at hP1
  obtain ⟨hP2, hD2⟩ := va_join hP hD isC isR hC hR hn hdis hk1 hF hP1 hD1
  exact kk u H1 locs1 hw hP2 hD2 hS1
theorem afterR {S : Type} {post : S → Prop} {w1 : S → Nat → va_W} {a : Array Value} (hr : va_Run p l e R s m args below meth c H locs cells slots mc ms (F0 m pc ls st0) rest (va_Qr post (fun u x t => WX D (va_A wc H.size) (w1 u x) t) (va_A wc H.size) a) (va_A wc H.size))
    (hP : va_P D clsL ws H) (hD : va_D A ws) (hS : va_S A H0 H locs) (hA : ∀ q, H0.size ≤ q → A q) (isC isR : List Nat) (hC : isC.map (fun i => ws[i]?) = wc.map some) (hR : isR.map (fun i => ws[i]?) = wr.map some) (hn : va_nd isR = true) (hdis : ∀ i ∈ isR, i ∉ isC)
    (kk : ∀ (u : S) (ra : Nat) (H1 : Heap) (locs1 : List Loc), post u → va_P D clsL (wr ++ w1 u ra) H1 → va_D A (wr ++ w1 u ra) → va_S A H0 H1 locs1 → W p l e R s m args below meth c H1 locs1 (cells + mc) (slots + ms) Q (F0 m (pc + 3) ls (.ref ra :: rest))) : W p l e R s m args below meth c H locs cells slots Q (F0 m pc ls st0) := by
  have hF := va_free hD hS hA isC hC
  refine va_callr hr hS (fun q _ h => hF q h) hF (fun u ra t H1 locs1 ht hvm hw hB hz1 hk1 hS1 => ?_)
  obtain ⟨hP1, hD1⟩ := hB
  rw [ht] at hP1
  obtain ⟨hP2, hD2⟩ := va_join hP hD isC isR hC hR hn hdis hk1 hF hP1 hD1
  exact kk u ra H1 locs1 hw hP2 hD2 hS1
/-- the five kinds of call -/
theorem xV {Qc : Array Value → State → Outcome → State → Prop} {free : Addr → Prop} (S : CallFix p m c cc nL s args gtb own) (hM : Met l y (.code y bytes maxL ret :: gtb) { frames := fr, cells := mc, slots := ms, locals := lo } (PX D k wc H.size (.ref b :: As)) Qc mc ms free)
    (hK : va_K D clsL (tyL k) s) (hN : nw k s) (hP : va_P D clsL wc H) (hD : va_D A' wc) (ci q0 : Nat) {T : u_T} {N : Nat} {fs : List Value} (hc : clsL[ci]? = some (C, T, N)) (he : wc[q0]? = some (b, .inr (ci, fs))) (hC : y.cls = C)
    (h1 : Cond.methodLink own index y ∈ gtb) (h2 : Cond.instanceMethod y ∈ gtb) (h3 : Cond.selects C y y ∈ gtb) (h4 : Cond.initialized C ∈ gtb) (h5 : Cond.code y bytes maxL ret ∈ gtb) (hd : mdOk y n)
    (hR : fr + 1 ≤ R.frames ∧ 8 + (maxL + 11) + lo ≤ R.locals) (hn : As.length = n) (hsize : ls.size = nL) (hstack : st0 = As.reverse ++ .ref b :: rest) (hW : (rest.map fun v => v.category).sum ≤ 8) (hdg : decode cc pc = .ok (.invokevirtual index, 3)) (hf : cells + mc ≤ R.cells ∧ slots + ms ≤ R.slots) :
    va_Run p l e R s m args below meth c H locs cells slots mc ms (F0 m pc ls st0) rest (Qc (Value.ref b :: As).toArray) free :=
  va_runV (As := As) (rest := rest) (C := C) (b := b) S hM (cwV n S.2.2.2.2 (gd_V h1 h2 h3 h4 h5) rfl rfl rfl ⟨hC, hd⟩ hR) (preV ci q0 hK hN hP hD hc he) rfl hn hsize hstack (lv_room hW) hdg hf
theorem xS {Qc : Array Value → State → Outcome → State → Prop} {free : Addr → Prop} (S : CallFix p m c cc nL s args gtb own) (hM : Met l y (.code y bytes maxL ret :: gtb) { frames := fr, cells := mc, slots := ms, locals := lo } (PX D k wc H.size As) Qc mc ms free)
    (hK : va_K D clsL (tyL k) s) (hN : nw k s) (hP : va_P D clsL wc H) (hD : va_D A' wc)
    (h1 : Cond.methodLink own index y ∈ gtb) (h2 : Cond.static y ∈ gtb) (h4 : Cond.initialized y.cls ∈ gtb) (h5 : Cond.code y bytes maxL ret ∈ gtb) (hd : mdOk y n)
    (hR : fr + 1 ≤ R.frames ∧ 8 + (maxL + 11) + lo ≤ R.locals) (hn : As.length = n) (hsize : ls.size = nL) (hstack : st0 = As.reverse ++ rest) (hW : (rest.map fun v => v.category).sum ≤ 8) (hdg : decode cc pc = .ok (.invokestatic index, 3)) (hf : cells + mc ≤ R.cells ∧ slots + ms ≤ R.slots) :
    va_Run p l e R s m args below meth c H locs cells slots mc ms (F0 m pc ls st0) rest (Qc As.toArray) free :=
  va_runS (As := As) (rest := rest) S hM (va_cwS n S.2.2.2.2 (gd_S h1 h2 h4 h5) rfl rfl rfl hd hR) (preS hK hN hP hD) rfl hn hsize hstack (lv_room hW) hdg hf
theorem xI {Qc : Array Value → State → Outcome → State → Prop} {free : Addr → Prop} (S : CallFix p m c cc nL s args gtb own) (hM : Met l y (.code y bytes maxL none :: gtb) { frames := fr, cells := mc, slots := ms, locals := lo } (PX D k wc H.size (.ref b :: As)) Qc mc ms free)
    (hK : va_K D clsL (tyL k) s) (hN : nw k s) (hP : va_P D clsL wc H) (hD : va_D A' wc) (hy : y.name = "<init>")
    (h1 : Cond.methodLink own index y ∈ gtb) (h2 : Cond.instanceMethod y ∈ gtb) (h4 : Cond.initialized y.cls ∈ gtb) (h5 : Cond.code y bytes maxL none ∈ gtb) (hd : mdOk y n)
    (hR : fr + 1 ≤ R.frames ∧ 8 + (maxL + 11) + lo ≤ R.locals) (hn : As.length = n) (hsize : ls.size = nL) (hstack : st0 = As.reverse ++ .ref b :: rest) (hW : (rest.map fun v => v.category).sum ≤ 8) (hdg : decode cc pc = .ok (.invokespecial index, 3)) (hf : cells + mc ≤ R.cells ∧ slots + ms ≤ R.slots) :
    va_Run p l e R s m args below meth c H locs cells slots mc ms (F0 m pc ls st0) rest (Qc (Value.ref b :: As).toArray) free :=
  va_runI (As := As) (rest := rest) (b := b) S hM (cwI n S.2.2.2.2 (gd_c h5) rfl rfl rfl (S.2.2.2.2 _ h4) (S.2.2.2.2 _ h1) (S.2.2.2.2 _ h2) hy hd hR) (preS hK hN hP hD) rfl hn hsize hstack (lv_room hW) hdg hf
theorem xN {Qc : Array Value → State → Outcome → State → Prop} {free : Addr → Prop} {host : String} (S : CallFix p m c cc nL s args gtb own) (hM : Met l y (.code y bytes maxL none :: gtb) { frames := fr, cells := mc, slots := ms, locals := lo } (PX D k wc H.size (.ref b :: As)) Qc mc ms free)
    (hK : va_K D clsL (tyL k) s) (hN : nw k s) (hP : va_P D clsL wc H) (hD : va_D A' wc) (hy : y.name = "<init>")
    (h1 : Cond.methodLinkNest own index y host ∈ nwW) (h2 : Cond.instanceMethod y ∈ gtb) (h4 : Cond.initialized y.cls ∈ gtb) (h5 : Cond.code y bytes maxL none ∈ gtb) (hd : mdOk y n)
    (hR : fr + 1 ≤ R.frames ∧ 8 + (maxL + 11) + lo ≤ R.locals) (hn : As.length = n) (hsize : ls.size = nL) (hstack : st0 = As.reverse ++ .ref b :: rest) (hW : (rest.map fun v => v.category).sum ≤ 8) (hdg : decode cc pc = .ok (.invokespecial index, 3)) (hf : cells + mc ≤ R.cells ∧ slots + ms ≤ R.slots) :
    va_Run p l e R s m args below meth c H locs cells slots mc ms (F0 m pc ls st0) rest (Qc (Value.ref b :: As).toArray) free :=
  va_runIN (As := As) (rest := rest) (b := b) S hM ⟨va_cnB n S.2.2.2.2 (gd_c h5) rfl rfl rfl (hN.1 _ h1) (S.2.2.2.2 _ h4) hd hR, hy, S.2.2.2.2 _ h2⟩ (preS hK hN hP hD) rfl hn hsize hstack (lv_room hW) hdg hf
theorem afterP {post : Int32 → Prop} {a : Array Value} (hr : va_Run p l e R s m args below meth c H locs cells slots 0 0 (F0 m pc ls st0) rest (vp_Si post a) (fun _ => False))
    (kk : ∀ r : Int32, post r → W p l e R s m args below meth c H locs cells slots Q (F0 m (pc + 3) ls (.int r :: rest))) : W p l e R s m args below meth c H locs cells slots Q (F0 m pc ls st0) := vp_callSi hr.run kk
end CALLS
section ARR
variable {p : Program} {l : Launch} {e : Env} {R : Room} {s : State} {m : MethodId} {args : Array Value} {below : List Frame} {meth : Method} {c : Code} {H : Heap} {locs : List Loc} {cells slots : Nat} {Q : State → Prop}
variable {D : va_G} {k : Nat → ClassId} {A : Nat → Prop} {ws : va_W} {H0 : Heap} {cc : ByteArray} {pc : Nat} {rest : List Value} {ls : Array Slot} {a : Nat}
theorem newI (hx : p.tables.exec = Jvm.exec) (hb : c.code = cc) (harr : (Cond.arrayClass .int).before args s = true) (hK : va_K D clsL (tyL k) s) (hP : va_P D clsL ws H) (hD : va_D A ws) (hS : va_S A H0 H locs) (hA : ∀ q, H0.size ≤ q → A q)
    {n : Int32} {N' : Nat} (hn : ¬ n < 0) (hN : n.toNatClampNeg = N') (hbytes : N' * 4 ≤ 536870912) (hcells : cells + 1 ≤ R.cells) (hslots : slots + N' ≤ R.slots) (hdg : decode cc pc = .ok (.newarray .int, 2))
    (kk : ∀ (q : Nat) (H1 : Heap), va_P D clsL (ws ++ [(q, .inl (k 0, N', .inl (fun _ => 0)))]) H1 → va_D A (ws ++ [(q, .inl (k 0, N', .inl (fun _ => 0)))]) → va_S A H0 H1 locs →
      W p l e R s m args below meth c H1 locs (cells + 1) (slots + N') Q (F0 m (pc + 2) ls (.ref q :: rest))) : W p l e R s m args below meth c H locs cells slots Q (F0 m pc ls (.int n :: rest)) := by
  refine va_newa (atype := .int) (ty := .int) (a0 := (N', .inl (fun _ => 0))) hx hb harr rfl hK hP hD hS hA (fun _ => rfl) hn hN hbytes hcells hslots hdg (fun q cA H1 hK1 hP1 hD1 hS1 => ?_)
  have e1 : some cA = some (k 0) := ((hK1.2 7 (cA, .int) rfl).2 : s.vm.findClass _ = _).symm.trans (hK.2 0 (k 0, .int) rfl).2
  cases e1
  exact kk q H1 hP1 hD1 hS1
theorem newZ (hx : p.tables.exec = Jvm.exec) (hb : c.code = cc) (harr : (Cond.arrayClass .boolean).before args s = true) (hK : va_K D clsL (tyL k) s) (hP : va_P D clsL ws H) (hD : va_D A ws) (hS : va_S A H0 H locs) (hA : ∀ q, H0.size ≤ q → A q)
    {n : Int32} {N' : Nat} (hn : ¬ n < 0) (hN : n.toNatClampNeg = N') (hbytes : N' * 1 ≤ 536870912) (hcells : cells + 1 ≤ R.cells) (hslots : slots + N' ≤ R.slots) (hdg : decode cc pc = .ok (.newarray .boolean, 2))
    (kk : ∀ (q : Nat) (H1 : Heap), va_P D clsL (ws ++ [(q, .inl (k 1, N', .inl (fun _ => 0)))]) H1 → va_D A (ws ++ [(q, .inl (k 1, N', .inl (fun _ => 0)))]) → va_S A H0 H1 locs →
      W p l e R s m args below meth c H1 locs (cells + 1) (slots + N') Q (F0 m (pc + 2) ls (.ref q :: rest))) : W p l e R s m args below meth c H locs cells slots Q (F0 m pc ls (.int n :: rest)) := by
  refine va_newa (atype := .boolean) (ty := .boolean) (a0 := (N', .inl (fun _ => 0))) hx hb harr rfl hK hP hD hS hA (fun _ => rfl) hn hN hbytes hcells hslots hdg (fun q cA H1 hK1 hP1 hD1 hS1 => ?_)
  have e1 : some cA = some (k 1) := ((hK1.2 7 (cA, .boolean) rfl).2 : s.vm.findClass _ = _).symm.trans (hK.2 1 (k 1, .boolean) rfl).2
  cases e1
  exact kk q H1 hP1 hD1 hS1
theorem newJ (hx : p.tables.exec = Jvm.exec) (hb : c.code = cc) (harr : (Cond.arrayClass .long).before args s = true) (hK : va_K D clsL (tyL k) s) (hP : va_P D clsL ws H) (hD : va_D A ws) (hS : va_S A H0 H locs) (hA : ∀ q, H0.size ≤ q → A q)
    {n : Int32} {N' : Nat} (hn : ¬ n < 0) (hN : n.toNatClampNeg = N') (hbytes : N' * 8 ≤ 536870912) (hcells : cells + 1 ≤ R.cells) (hslots : slots + N' ≤ R.slots) (hdg : decode cc pc = .ok (.newarray .long, 2))
    (kk : ∀ (q : Nat) (H1 : Heap), va_P D clsL (ws ++ [(q, .inl (k 2, N', .inr (.inl (fun _ => 0))))]) H1 → va_D A (ws ++ [(q, .inl (k 2, N', .inr (.inl (fun _ => 0))))]) → va_S A H0 H1 locs →
      W p l e R s m args below meth c H1 locs (cells + 1) (slots + N') Q (F0 m (pc + 2) ls (.ref q :: rest))) : W p l e R s m args below meth c H locs cells slots Q (F0 m pc ls (.int n :: rest)) := by
  refine va_newa (atype := .long) (ty := .long) (a0 := (N', .inr (.inl (fun _ => 0)))) hx hb harr rfl hK hP hD hS hA (fun _ => rfl) hn hN hbytes hcells hslots hdg (fun q cA H1 hK1 hP1 hD1 hS1 => ?_)
  have e1 : some cA = some (k 2) := ((hK1.2 7 (cA, .long) rfl).2 : s.vm.findClass _ = _).symm.trans (hK.2 2 (k 2, .long) rfl).2
  cases e1
  exact kk q H1 hP1 hD1 hS1
/-- a row of references; t0: which of the array classes -/
theorem newQ (t0 : Nat) (hx : p.tables.exec = Jvm.exec) (hb : c.code = cc) {own C : String} {index : Nat} (hown : s.vm.findClass own = some m.cls) (hclink : (Cond.classLink own index C).before args s = true) (hover : va_AO C s) (hK : va_K D clsL (tyL k) s) (ht : (tyL k)[t0]? = some (k t0, .object C)) (hP : va_P D clsL ws H) (hD : va_D A ws) (hS : va_S A H0 H locs) (hA : ∀ q, H0.size ≤ q → A q)
    {n : Int32} {N' : Nat} (hn : ¬ n < 0) (hN : n.toNatClampNeg = N') (hbytes : N' * 4 ≤ 536870912) (hcells : cells + 1 ≤ R.cells) (hslots : slots + N' ≤ R.slots) (hdg : decode cc pc = .ok (.anewarray index, 3))
    (kk : ∀ (q : Nat) (H1 : Heap), va_P D clsL (ws ++ [(q, .inl (k t0, N', .inr (.inr (.inr (.inr (fun _ => none))))))]) H1 → va_D A (ws ++ [(q, .inl (k t0, N', .inr (.inr (.inr (.inr (fun _ => none))))))]) → va_S A H0 H1 locs →
      W p l e R s m args below meth c H1 locs (cells + 1) (slots + N') Q (F0 m (pc + 3) ls (.ref q :: rest))) : W p l e R s m args below meth c H locs cells slots Q (F0 m pc ls (.int n :: rest)) := by
  refine va_newq hx hb hown hclink hover hK hP hD hS hA hn hN hbytes hcells hslots hdg (fun q cA H1 hK1 hP1 hD1 hS1 => ?_)
  obtain ⟨-, kA, comp, -, -, -, g1⟩ := hK1.2 7 (cA, .object C) rfl
  obtain ⟨-, kB, comp2, -, -, -, g2⟩ := hK.2 t0 _ ht
  have e1 : some cA = some (k t0) := g1.symm.trans g2
  cases e1
  exact kk q H1 hP1 hD1 hS1
/-- a row of rows: a row read out of it -/
theorem ald2 (hx : p.tables.exec = Jvm.exec) (hb : c.code = cc) (hK : va_K D clsL (tyL k) s) (hP : va_P D clsL ws H) (q0 : Nat) {n : Nat} {f : Nat → Option Nat} (ha : ws[q0]? = some (a, .inl (k 6, n, .inr (.inr (.inr (.inr f)))))) {i : Int32} {v : Nat} (hin : vp_in i n) (hv : f i.toNatClampNeg = some v) (hdg : decode cc pc = .ok (.aaload, 1))
    (kk : W p l e R s m args below meth c H locs cells slots Q (F0 m (pc + 1) ls (.ref v :: rest))) : W p l e R s m args below meth c H locs cells slots Q (F0 m pc ls (.int i :: .ref a :: rest)) := by
  have hlt : i.toNatClampNeg < n := Nat.not_le.mp fun q => hin (Or.inr q)
  have hcell : H[a]? = some (arrV (k 6) n (fun j => va_rf (f j))) := hP q0 _ ha
  exact W.aald (v := .ref v) (ty := .array .int) hx hb hcell ((hK.2 6 (k 6, .array .int) rfl).1 n (fun j => va_rf (f j))) rfl (fun q => by cases q) (by show ¬ (i < 0 ∨ (arrV _ _ _).slots.size ≤ _); rw [arrV_size]; exact hin) (by show (arrV _ _ _).slots[_]? = _; rw [arrV_read _ _ hlt, hv]; rfl) rfl rfl hdg kk
end ARR
