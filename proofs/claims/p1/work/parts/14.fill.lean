set_option maxHeartbeats 400000 in
set_option maxRecDepth 100000 in
theorem fill_loop {p : Program} {l : Launch} {e : Env} {R : Room} {s : State} {m : MethodId} {args : Array Value} {below : List Frame} {meth : Method} {c : Code} {D : va_G} {k : Nat → ClassId} {A : Nat → Prop} {Q : State → Prop} {h0 N : Nat} {x : Int32} (hN : N < 2 ^ 31) (hx : p.tables.exec = Jvm.exec) (hb : c.code = cJ7_fill_53178) (hK : va_K D clsL (tyL k) s)
    (kk : ∀ (f : Nat → Int32) (H : Heap) (locs : List Loc) (ls : Array Slot), va_P D clsL [(h0, .inl (k 0, N, .inl f))] H → va_D A [(h0, .inl (k 0, N, .inl f))] → va_S A s.heap H locs → W p l e R s m args below meth c H locs 0 0 Q (F0 m 20 ls [])) :
    ∀ (n i : Nat) (f : Nat → Int32) (H : Heap) (locs : List Loc) (ls : Array Slot), i ≤ N → N + 1 ≤ i + n → va_P D clsL [(h0, .inl (k 0, N, .inl f))] H → va_D A [(h0, .inl (k 0, N, .inl f))] → va_S A s.heap H locs → lv_has ls 4 [(0, .ref h0), (1, .int x), (2, .int (nI i)), (3, .int (nI N))] → W p l e R s m args below meth c H locs 0 0 Q (F0 m 5 ls []) := by
  intro n
  induction n with
  | zero => intro i f H locs ls h1 h2; omega
  | succ n ih =>
    intro i f H locs ls hi hn hP hD hS hl
    refine lv_iload_n hx hb dJ7_fill_53178_5 rfl (lv_at hl 2 rfl) ?_
    refine lv_iload_n hx hb dJ7_fill_53178_6 rfl (lv_at hl 3 rfl) ?_
    refine lv_icmp_ge (tgt := 20) hx hb dJ7_fill_53178_7 (by decide) (fun c_ => ?_) (fun c_ => ?_)
    · exact kk f H locs ls hP hD hS
    · have hlt : i < N := by
        rcases Nat.lt_or_ge i N with q | q
        · exact q
        · exact absurd (nI_le q (by omega)) c_
      refine lv_aload_n hx hb dJ7_fill_53178_10 rfl (lv_at hl 0 rfl) ?_
      refine lv_iload_n hx hb dJ7_fill_53178_11 rfl (lv_at hl 2 rfl) ?_
      refine lv_iload_n hx hb dJ7_fill_53178_12 rfl (lv_at hl 1 rfl) ?_
      refine stI hx hb hK hP hD hS 0 rfl (vp_in_nI hlt hN) dJ7_fill_53178_13 (fun H locs hP hD hS => ?_)
      refine lv_iinc (v := nI (i + 1)) (lv' := [(2, .int (nI (i + 1))), (0, .ref h0), (1, .int x), (3, .int (nI N))]) hx hb dJ7_fill_53178_14 hl (k := 2) rfl (nI_1 i) (by decide) rfl (fun ls hl => ?_)
      refine lv_goto (tgt := 5) hx hb dJ7_fill_53178_17 (by decide) ?_
      exact ih (i + 1) _ H locs ls hlt (by omega) hP hD hS (lv_sub hl [1, 2, 0, 3] rfl)
set_option maxHeartbeats 400000 in
set_option maxRecDepth 100000 in
theorem c_J7_fill_53178 (l : Launch) (D : va_G) (k : Nat → ClassId) (h0 : Nat) (f0_ : Nat → Int32) (p0 : Int32) : CV l yJ7_fill_53178 cJ7_fill_53178 4 0 0 0 0 D k [(h0, .inl (k 0, 24, .inl f0_))] [.ref h0, .int p0] (S := Nat → Int32) (fun (_ : Nat → Int32) => True) (fun (f : Nat → Int32) => ([(h0, .inl (k 0, 24, .inl f))] : va_W)) := by
  intro sz
  refine mtX (Qc := fun A => va_Qv (S := Nat → Int32) (fun (_ : Nat → Int32) => True) (fun u t => WX D A ((fun (f : Nat → Int32) => ([(h0, .inl (k 0, 24, .inl f))] : va_W)) u) t) A) (free := fun A => A) (by decide) (Nat.le_of_ble_eq_true rfl) ?_
  intro p e s m below meth c ls A hB hl
  obtain ⟨hx, hb, hml, hr, hlocks, hnm, hown, ht, hK, hN, hA, hP, hD, hS⟩ := hB
  have hl : lv_has ls 4 [(0, .ref h0), (1, .int p0)] := hl
  refine lv_iconst (v := 0) hx hb dJ7_fill_53178_0 (by decide) ?_
  refine lv_istore_n (lv' := [(2, .int 0), (0, .ref h0), (1, .int p0)]) hx hb dJ7_fill_53178_1 rfl hl (by decide) rfl (fun ls hl => ?_)
  refine lv_aload_n hx hb dJ7_fill_53178_2 rfl (lv_at hl 1 rfl) ?_
  refine va_alen (D := D) (v := 24) hx hb hK hP 0 0 rfl rfl rfl dJ7_fill_53178_3 ?_
  refine lv_istore_n (lv' := [(3, .int 24), (2, .int 0), (0, .ref h0), (1, .int p0)]) hx hb dJ7_fill_53178_4 rfl hl (by decide) rfl (fun ls hl => ?_)
  refine fill_loop (by decide) hx hb hK (fun f H locs ls hP hD hS => ?_) 25 0 f0_ _ _ ls (by decide) (by decide) hP hD hS (lv_sub hl [2, 3, 1, 0] rfl)
  exact W.vret hx hb hr (fun t ht hW => ⟨⟨f, rfl, trivial, by rw [ht]; exact hP, hD⟩, hS.F ht⟩) hS.2.2 dJ7_fill_53178_20
