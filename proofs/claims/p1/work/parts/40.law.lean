theorem aoA_spec {args : Array Value} {s : State} (h : (Cond.arrayOver (.array .int)).before args s = true) : ∃ (comp c : ClassId) (kA : Class), s.vm.findClass "[I" = some comp ∧ s.vm.classes[c]? = some kA ∧ kA.kind = .array comp (.array .int) ∧ s.vm.findClass "[[I" = some c := by
  simp only [Cond.before, Cond.holds, Cond.value, beq_iff_eq] at h
  cases hc : s.vm.findClass (FieldType.array FieldType.int).toString with
  | none => simp [hc] at h
  | some comp =>
    simp only [hc, Option.bind_some, Option.bind_eq_some_iff, Option.map_eq_some_iff] at h
    obtain ⟨c, hi, kA, hk, hb⟩ := h
    obtain ⟨hlt, hp, -⟩ := Array.findIdx?_eq_some_iff_getElem.mp hi
    have hkk : s.vm.classes[c] = kA := (Array.getElem?_eq_some_iff.mp hk).2
    rw [hkk] at hp
    cases hkind : kA.kind with
    | array component ty =>
      rw [hkind] at hb hp
      simp at hb hp
      exact ⟨comp, c, kA, hc, hk, by rw [hkind, hp, hb.1], hb.2⟩
    | _ => rw [hkind] at hb; simp at hb
theorem nwW_in : ∀ w ∈ nwW, w ∈ lw_tbl := by
  intro w hw
  obtain ⟨i, hi⟩ := List.getElem?_of_mem hw
  match i, hi with
  | 0, hi => cases hi; exact mt1 (i := 28) rfl
  | 1, hi => cases hi; exact mt1 (i := 63) rfl
  | 2, hi => cases hi; exact mt1 (i := 128) rfl
  | 3, hi => cases hi; exact mt1 (i := 189) rfl
  | 4, hi => cases hi; exact mt2 (i := 139) rfl
  | 5, hi => cases hi; exact mt2 (i := 142) rfl
  | 6, hi => cases hi; exact mt2 (i := 145) rfl
  | 7, hi => cases hi; exact mt2 (i := 148) rfl
  | 8, hi => cases hi; exact mt2 (i := 159) rfl
  | 9, hi => cases hi; exact mt2 (i := 162) rfl
  | 10, hi => cases hi; exact mt2 (i := 167) rfl
  | 11, hi => cases hi; exact mt2 (i := 170) rfl
  | 12, hi => cases hi; exact mt2 (i := 175) rfl
  | 13, hi => cases hi; exact mt2 (i := 187) rfl
  | 14, hi => cases hi; exact mt7 (i := 111) rfl
  | 15, hi => cases hi; exact mt7 (i := 112) rfl
  | 16, hi => cases hi; exact mt7 (i := 113) rfl
  | 17, hi => cases hi; exact mt7 (i := 114) rfl
  | 18, hi => cases hi; exact mt7 (i := 115) rfl
  | i + 19, hi => simp [nwW] at hi
theorem ont {w : Cond} (h : nwOk w = true) : w.onTables = true := by
  cases w <;> first | rfl | (simp [nwOk] at h; done)
set_option maxHeartbeats 400000 in
set_option maxRecDepth 100000 in
theorem law_known {b : Nat} {s : State} (hts : ∀ w ∈ lw_tbl, w.before #[Value.ref b] s = true) : ∃ (D : va_G) (k : Nat → ClassId), va_K D clsL (tyL k) s ∧ nw k s := by
  have ht : ∀ w ∈ gtb, w.before #[Value.ref b] s = true := fun w h => hts w (gtb_tbl h)
  obtain ⟨c0, i0, g0⟩ := u_known (C := "TuneSchool$Cadence") (T := TX0) (N := 1) (n := 1) ht iX0 (ht _ q2_166)
  obtain ⟨c1, i1, g1⟩ := u_known (C := "TuneSchool$Desk") (T := TX1) (N := 17) (n := 17) ht iX1 (ht _ q1_122)
  obtain ⟨c2, i2, g2⟩ := u_known (C := "TuneSchool$Interval") (T := TX2) (N := 1) (n := 1) ht iX2 (ht _ q2_174)
  obtain ⟨c3, i3, g3⟩ := u_known (C := "TuneSchool$Leap") (T := TX3) (N := 1) (n := 1) ht iX3 (ht _ q2_158)
  obtain ⟨c4, i4, g4⟩ := u_known (C := "TuneSchool$Line") (T := TX4) (N := 3) (n := 3) ht iX4 (ht _ q1_188)
  obtain ⟨c5, i5, g5⟩ := u_known (C := "TuneSchool$Moment") (T := TX5) (N := 11) (n := 11) ht iX5 (ht _ q1_62)
  obtain ⟨c6, i6, g6⟩ := u_known (C := "TuneSchool$Motion") (T := TX6) (N := 1) (n := 1) ht iX6 (ht _ q2_138)
  obtain ⟨c7, i7, g7⟩ := u_known (C := "TuneSchool$School") (T := TX8) (N := 2) (n := 2) ht iX8 (ht _ q2_183)
  obtain ⟨c8, i8, g8⟩ := u_known (C := "TuneSchool$Voice") (T := TX10) (N := 5) (n := 5) ht iX10 (ht _ q1_27)
  obtain ⟨c9, i9, g9⟩ := u_known (C := "TuneSchool") (T := TX11) (N := 17) (n := 17) ht iX11 (ht _ q1_18)
  obtain ⟨c10, i10, g10⟩ := u_known (C := "TuneSchoolModel") (T := TX12) (N := 71) (n := 71) ht iX12 (ht _ q4_227)
  obtain ⟨a0, kI, x0, e0, e1, e2⟩ := Cond.arrayClass_spec (hts (.arrayClass .int) (gtb_tbl q1_58))
  obtain ⟨a1, kZ, x1, z0, z1, z2⟩ := Cond.arrayClass_spec (hts (.arrayClass .boolean) (gtb_tbl q5_206))
  obtain ⟨a2_, kJ, x2, j0, j1, j2⟩ := Cond.arrayClass_spec (hts (.arrayClass .long) (gtb_tbl q2_156))
  have o3 := hts (.arrayOver (.object "TuneSchool$Voice")) (mt1 (i := 26) rfl)
  have o4 := hts (.arrayOver (.object "TuneSchool$Standing")) (mt1 (i := 60) rfl)
  have o5 := hts (.arrayOver (.object "TuneSchool$Rule")) (mt1 (i := 206) rfl)
  have o6 := hts (.arrayOver (.array .int)) (mt1 (i := 33) rfl)
  obtain ⟨p3, a3, k3, v1, v2, v3, v4, v5⟩ := Cond.arrayOver_spec o3
  obtain ⟨p4, a4, k4, s1, s2, s3, s4, s5⟩ := Cond.arrayOver_spec o4
  obtain ⟨p5, a5, k5, r1, r2, r3, r4, r5⟩ := Cond.arrayOver_spec o5
  obtain ⟨p6, a6, k6, w1, w3, w4, w5⟩ := aoA_spec o6
  have h60 : p6 = a0 := Option.some.inj (w1.symm.trans e0)
  subst h60
  refine ⟨(fun j => match j with | 0 => c0 | 1 => c1 | 2 => c2 | 3 => c3 | 4 => c4 | 5 => c5 | 6 => c6 | 7 => c7 | 8 => c8 | 9 => c9 | _ => c10, fun j => match j with | 0 => i0 | 1 => i1 | 2 => i2 | 3 => i3 | 4 => i4 | 5 => i5 | 6 => i6 | 7 => i7 | 8 => i8 | 9 => i9 | _ => i10), (fun j => match j with | 0 => p6 | 1 => a1 | 2 => a2_ | 3 => a3 | 4 => a4 | 5 => a5 | _ => a6), ⟨?_, ?_⟩, ?_, o3, o4, o5, k6, w3, w4⟩
  · intro j q hq
    match j, hq with
    | 0, hq => cases hq; exact g0
    | 1, hq => cases hq; exact g1
    | 2, hq => cases hq; exact g2
    | 3, hq => cases hq; exact g3
    | 4, hq => cases hq; exact g4
    | 5, hq => cases hq; exact g5
    | 6, hq => cases hq; exact g6
    | 7, hq => cases hq; exact g7
    | 8, hq => cases hq; exact g8
    | 9, hq => cases hq; exact g9
    | 10, hq => cases hq; exact g10
    | j + 11, hq => simp [clsL] at hq
  · intro j q hq
    match j, hq with
    | 0, hq => cases hq; exact ⟨fun N z => ⟨(fun q h => by cases h), kI, e1, x0, e2⟩, e0⟩
    | 1, hq => cases hq; exact ⟨fun N z => ⟨(fun q h => by cases h), kZ, z1, x1, z2⟩, z0⟩
    | 2, hq => cases hq; exact ⟨fun N z => ⟨(fun q h => by cases h), kJ, j1, x2, j2⟩, j0⟩
    | 3, hq => cases hq; exact ⟨fun N z => ⟨(fun q h => by cases h), k3, v3, p3, v4⟩, k3, p3, v3, v4, v1, v5⟩
    | 4, hq => cases hq; exact ⟨fun N z => ⟨(fun q h => by cases h), k4, s3, p4, s4⟩, k4, p4, s3, s4, s1, s5⟩
    | 5, hq => cases hq; exact ⟨fun N z => ⟨(fun q h => by cases h), k5, r3, p5, r4⟩, k5, p5, r3, r4, r1, r5⟩
    | 6, hq => cases hq; exact ⟨fun N z => ⟨(fun q h => by cases h), k6, w3, p6, w4⟩, w5⟩
    | j + 7, hq => simp [tyL] at hq
  · exact fun w hw => va_Nw.of (ont (nwW_ok w hw)) (hts w (nwW_in w hw))
theorem bl_X11 : ∀ j, j < 17 → defaultValue (tyX11 j) = vp_V [.null, .null, .null, .null, .null, .null, .null, .null, .null, .null, .null, .int 0, .int 0, .int 0, .int 0, .int 0, .int 0] j := by
  intro j hj
  match j, hj with
  | 0, _ => rfl
  | 1, _ => rfl
  | 2, _ => rfl
  | 3, _ => rfl
  | 4, _ => rfl
  | 5, _ => rfl
  | 6, _ => rfl
  | 7, _ => rfl
  | 8, _ => rfl
  | 9, _ => rfl
  | 10, _ => rfl
  | 11, _ => rfl
  | 12, _ => rfl
  | 13, _ => rfl
  | 14, _ => rfl
  | 15, _ => rfl
  | 16, _ => rfl
  | j + 17, hj => omega
theorem bl_X12 : ∀ j, j < 71 → defaultValue (tyX12 j) = vp_V [.int 0, .int 0, .null, .null, .null, .int 0, .int 0, .int 0, .null, .null, .int 0, .null, .null, .int 0, .null, .null, .null, .null, .int 0, .null, .null, .null, .null, .null, .int 0, .int 0, .null, .int 0, .int 0, .null, .int 0, .int 0, .null, .null, .null, .null, .null, .null, .int 0, .null, .int 0, .int 0, .int 0, .null, .int 0, .int 0, .int 0, .int 0, .int 0, .int 0, .int 0, .null, .null, .null, .int 0, .int 0, .int 0, .int 0, .int 0, .int 0, .null, .null, .null, .null, .int 0, .int 0, .int 0, .null, .null, .null, .int 0] j := by
  intro j hj
  match j, hj with
  | 0, _ => rfl
  | 1, _ => rfl
  | 2, _ => rfl
  | 3, _ => rfl
  | 4, _ => rfl
  | 5, _ => rfl
  | 6, _ => rfl
  | 7, _ => rfl
  | 8, _ => rfl
  | 9, _ => rfl
  | 10, _ => rfl
  | 11, _ => rfl
  | 12, _ => rfl
  | 13, _ => rfl
  | 14, _ => rfl
  | 15, _ => rfl
  | 16, _ => rfl
  | 17, _ => rfl
  | 18, _ => rfl
  | 19, _ => rfl
  | 20, _ => rfl
  | 21, _ => rfl
  | 22, _ => rfl
  | 23, _ => rfl
  | 24, _ => rfl
  | 25, _ => rfl
  | 26, _ => rfl
  | 27, _ => rfl
  | 28, _ => rfl
  | 29, _ => rfl
  | 30, _ => rfl
  | 31, _ => rfl
  | 32, _ => rfl
  | 33, _ => rfl
  | 34, _ => rfl
  | 35, _ => rfl
  | 36, _ => rfl
  | 37, _ => rfl
  | 38, _ => rfl
  | 39, _ => rfl
  | 40, _ => rfl
  | 41, _ => rfl
  | 42, _ => rfl
  | 43, _ => rfl
  | 44, _ => rfl
  | 45, _ => rfl
  | 46, _ => rfl
  | 47, _ => rfl
  | 48, _ => rfl
  | 49, _ => rfl
  | 50, _ => rfl
  | 51, _ => rfl
  | 52, _ => rfl
  | 53, _ => rfl
  | 54, _ => rfl
  | 55, _ => rfl
  | 56, _ => rfl
  | 57, _ => rfl
  | 58, _ => rfl
  | 59, _ => rfl
  | 60, _ => rfl
  | 61, _ => rfl
  | 62, _ => rfl
  | 63, _ => rfl
  | 64, _ => rfl
  | 65, _ => rfl
  | 66, _ => rfl
  | 67, _ => rfl
  | 68, _ => rfl
  | 69, _ => rfl
  | 70, _ => rfl
  | j + 71, hj => omega
section SL
variable {p : Program} {l : Launch} {e : Env} {R : Room} {s : State} {m : MethodId} {args : Array Value} {below : List Frame} {meth : Method} {c : Code} {H : Heap} {locs : List Loc} {cells slots : Nat} {Q : State → Prop}
variable {A : Nat → Prop} {H0 : Heap} {cc : ByteArray} {pc : Nat} {rest : List Value} {ls : Array Slot}
theorem sld1 (hx : p.tables.exec = Jvm.exec) (hb : c.code = cc) {b L n : Nat} {xs : Nat → Int32} (hX : va_X b L xs s H0) (hbl : b < H0.size) (hbA : ¬ A b) (hS : va_S A H0 H locs) {i : Int32} (hn : i.toNatClampNeg = n) (hin : vp_in i L) (hdg : decode cc pc = .ok (.iaload, 1))
    (kk : W p l e R s m args below meth c H locs cells slots Q (F0 m (pc + 1) ls (.int (xs n) :: rest))) : W p l e R s m args below meth c H locs cells slots Q (F0 m pc ls (.int i :: .ref b :: rest)) := va_sld hx hb hX hbl hbA hS hin hdg (by rw [hn]; exact kk)
end SL
def jx (v : Int32) : Nat := if 0 ≤ v.toInt ∧ v.toInt < 6 then v.toNatClampNeg else 0
theorem jx_lt (v : Int32) : jx v < 6 := by
  unfold jx
  split
  · rename_i h
    show v.toInt.toNat < 6
    omega
  · omega
theorem jx_eq {v : Int32} (h1 : 0 ≤ v.toInt) (h2 : v.toInt < 6) : jx v = v.toNatClampNeg := if_pos ⟨h1, h2⟩
theorem jx_vf {vf : Nat → Option Nat} {w : Nat → Nat} (hq : ∀ j, j < 6 → vf j = some (w j)) (v : Int32) : 0 ≤ v.toInt → v.toInt < 6 → vf v.toNatClampNeg = some (w (jx v)) := fun h1 h2 => by
  rw [jx_eq h1 h2]
  exact hq _ (by show v.toInt.toNat < 6; omega)
/-- what the law's cases count on -/
def LA (p : Program) (s : State) (m : MethodId) (meth : Method) (c : Code) (D : va_G) (k : Nat → ClassId) (b : Nat) (xs : Nat → Int32) (A : Nat → Prop) : Prop :=
  p.tables.exec = Jvm.exec ∧ c.code = cL_law ∧ meth.sig.returnType = ret ∧ c.maxLocals = 4 ∧ s.vm.findClass "TuneSchoolLaw" = some m.cls ∧ (∀ w ∈ gtb, w.before #[Value.ref b] s = true) ∧ va_K D clsL (tyL k) s ∧ nw k s ∧ va_X b 8 xs s s.heap ∧ b < s.heap.size ∧ meth.locks = false ∧ (∀ q, s.heap.size ≤ q → A q) ∧ (∀ q, A q → s.heap.size ≤ q)
set_option maxHeartbeats 400000 in
set_option maxRecDepth 100000 in
theorem law_out {p : Program} {l : Launch} {e : Env} {s : State} {m : MethodId} {below : List Frame} {meth : Method} {c : Code} {b : Nat} {H : Heap} {locs : List Loc} {cells slots : Nat} {ls : Array Slot} {A : Nat → Prop} (hx : p.tables.exec = Jvm.exec) (hb : c.code = cL_law) (hr : meth.sig.returnType = ret) (hlocks : meth.locks = false) (hA2 : ∀ q, A q → s.heap.size ≤ q) (hS : va_S A s.heap H locs) (h1 : cells ≤ 600000) (h2 : slots ≤ 7302250) : W p l e room_1 s m #[Value.ref b] below meth c H locs cells slots (lw_Z below #[Value.ref b] s) (F0 m 1674 ls []) := by
  refine lv_iconst (v := 1) hx hb dL_law_1674 (by decide) ?_
  refine va_forget (fun q hq => hA2 _ (hS.2.2 q hq)) ?_
  refine W.widen (k := 600000) (n := 7302250) h1 h2 ?_
  exact lw_ret hx hb hr hlocks dL_law_1675
set_option maxHeartbeats 400000 in
set_option maxRecDepth 100000 in
theorem law_end {p : Program} {l : Launch} {e : Env} {s : State} {m : MethodId} {below : List Frame} {meth : Method} {c : Code} {D : va_G} {k : Nat → ClassId} {b : Nat} {xs : Nat → Int32} {H : Heap} {locs : List Loc} {cells slots : Nat} {ls : Array Slot} {A : Nat → Prop} (C : LA p s m meth c D k b xs A) (hS : va_S A s.heap H locs) (h1 : cells ≤ 600000) (h2 : slots ≤ 7302250) (hl : lv_has ls 4 [(3, .int 0), (0, .ref b)]) : W p l e room_1 s m #[Value.ref b] below meth c H locs cells slots (lw_Z below #[Value.ref b] s) (F0 m 1668 ls []) := by
  obtain ⟨hx, hb, hr, hml, hown, ht, hK, hN, hX, hbl, hlocks, hA, hA2⟩ := C
  have hbA : ¬ A b := fun h => Nat.not_le.mpr hbl (hA2 b h)
  refine lv_iinc (v := 8) (lv' := [(3, .int 8), (0, .ref b)]) hx hb dL_law_1668 hl (k := 0) rfl (by decide) (by decide) rfl (fun ls hl => ?_)
  refine lv_goto (tgt := 18) hx hb dL_law_1671 (by decide) ?_
  refine lv_iload_n hx hb dL_law_18 rfl (lv_at hl 0 rfl) ?_
  refine lv_aload_n hx hb dL_law_19 rfl (lv_at hl 1 rfl) ?_
  refine va_slen hx hb hX hbl hbA hS dL_law_20 ?_
  refine lv_bipush (v := 8) hx hb dL_law_21 (by decide) ?_
  refine ev_isub (v := 0) hx hb dL_law_23 (by decide) ?_
  refine lv_icmp_gt (tgt := 1674) hx hb dL_law_24 (by decide) (fun _ => ?_) (fun c_ => absurd (by decide) c_)
  exact law_out hx hb hr hlocks hA2 hS h1 h2
set_option maxHeartbeats 400000 in
set_option maxRecDepth 100000 in
theorem pick {D : va_G} {A : Nat → Prop} {k : Nat → ClassId} {H : Heap} {h1 h2 : Nat} {r w : Nat → Nat} {rs : Nat → Nat → Nat} {vf : Nat → Option Nat} {wf : Nat → Int32} {r2 : Nat → Nat} {wf2 : Nat → Int32} {j : Nat} (hj : j < 6) (hP : va_P D clsL [(h1, .inr (9, oX11 r f9)), ((r 0), .inl (k 3, 6, .inr (.inr (.inr (.inr vf))))), ((r 4), .inl (k 4, 16, .inr (.inr (.inr (.inr (fun _ => none)))))), ((r 5), .inr (5, oX5 (rs 8) f5)), ((r 6), .inr (1, oX1 (rs 9) f1)), (((rs 9) 1), .inl (k 0, 3, .inl wf)), ((r 7), .inr (4, oX4 (rs 10) f0)), (((rs 10) 0), .inl (k 0, 160, .inl (fun _ => 0))), ((r 1), .inr (8, oX10 (rs 6) f0)), (((rs 6) 0), .inl (k 6, 2, .inr (.inr (.inr (.inr (va_up (va_up (fun _ => none) 0 (some ((rs 6) 10))) 1 (some ((rs 6) 11)))))))), (((rs 6) 10), .inl (k 0, 24, .inl (fun _ => 0))), (((rs 6) 11), .inl (k 0, 24, .inl (fun _ => 0))), (((rs 6) 1), .inl (k 0, 2, .inl (fun _ => 0))), ((r 2), .inr (8, oX10 (rs 7) f0)), (((rs 7) 0), .inl (k 6, 2, .inr (.inr (.inr (.inr (va_up (va_up (fun _ => none) 0 (some ((rs 7) 10))) 1 (some ((rs 7) 11)))))))), (((rs 7) 10), .inl (k 0, 24, .inl (fun _ => 0))), (((rs 7) 11), .inl (k 0, 24, .inl (fun _ => 0))), (((rs 7) 1), .inl (k 0, 2, .inl (fun _ => 0))), ((w 0), .inr (8, oX10 (rs 0) f0)), (((rs 0) 0), .inl (k 6, 2, .inr (.inr (.inr (.inr (va_up (va_up (fun _ => none) 0 (some ((rs 0) 10))) 1 (some ((rs 0) 11)))))))), (((rs 0) 10), .inl (k 0, 24, .inl (fun _ => 0))), (((rs 0) 11), .inl (k 0, 24, .inl (fun _ => 0))), (((rs 0) 1), .inl (k 0, 2, .inl (fun _ => 0))), ((w 1), .inr (8, oX10 (rs 1) f0)), (((rs 1) 0), .inl (k 6, 2, .inr (.inr (.inr (.inr (va_up (va_up (fun _ => none) 0 (some ((rs 1) 10))) 1 (some ((rs 1) 11)))))))), (((rs 1) 10), .inl (k 0, 24, .inl (fun _ => 0))), (((rs 1) 11), .inl (k 0, 24, .inl (fun _ => 0))), (((rs 1) 1), .inl (k 0, 2, .inl (fun _ => 0))), ((w 2), .inr (8, oX10 (rs 2) f0)), (((rs 2) 0), .inl (k 6, 2, .inr (.inr (.inr (.inr (va_up (va_up (fun _ => none) 0 (some ((rs 2) 10))) 1 (some ((rs 2) 11)))))))), (((rs 2) 10), .inl (k 0, 24, .inl (fun _ => 0))), (((rs 2) 11), .inl (k 0, 24, .inl (fun _ => 0))), (((rs 2) 1), .inl (k 0, 2, .inl (fun _ => 0))), ((w 3), .inr (8, oX10 (rs 3) f0)), (((rs 3) 0), .inl (k 6, 2, .inr (.inr (.inr (.inr (va_up (va_up (fun _ => none) 0 (some ((rs 3) 10))) 1 (some ((rs 3) 11)))))))), (((rs 3) 10), .inl (k 0, 24, .inl (fun _ => 0))), (((rs 3) 11), .inl (k 0, 24, .inl (fun _ => 0))), (((rs 3) 1), .inl (k 0, 2, .inl (fun _ => 0))), ((w 4), .inr (8, oX10 (rs 4) f0)), (((rs 4) 0), .inl (k 6, 2, .inr (.inr (.inr (.inr (va_up (va_up (fun _ => none) 0 (some ((rs 4) 10))) 1 (some ((rs 4) 11)))))))), (((rs 4) 10), .inl (k 0, 24, .inl (fun _ => 0))), (((rs 4) 11), .inl (k 0, 24, .inl (fun _ => 0))), (((rs 4) 1), .inl (k 0, 2, .inl (fun _ => 0))), ((w 5), .inr (8, oX10 (rs 5) f0)), (((rs 5) 0), .inl (k 6, 2, .inr (.inr (.inr (.inr (va_up (va_up (fun _ => none) 0 (some ((rs 5) 10))) 1 (some ((rs 5) 11)))))))), (((rs 5) 10), .inl (k 0, 24, .inl (fun _ => 0))), (((rs 5) 11), .inl (k 0, 24, .inl (fun _ => 0))), (((rs 5) 1), .inl (k 0, 2, .inl (fun _ => 0))), (h2, .inr (10, oX12 r2 fm)), ((r2 2), .inl (k 1, 6, .inl (fun _ => 0))), ((r2 3), .inl (k 0, 12, .inl (fun _ => 0))), ((r2 4), .inl (k 0, 288, .inl (fun _ => 0))), ((r2 8), .inl (k 0, 2, .inl (fun _ => 0))), ((r2 9), .inl (k 0, 48, .inl (fun _ => 0))), ((r2 14), .inl (k 0, 520, .inl (fun _ => 0))), ((r2 19), .inl (k 0, 520, .inl (fun _ => 0))), ((r2 20), .inl (k 0, 520, .inl (fun _ => 0))), ((r2 21), .inl (k 0, 4160, .inl (fun _ => 0))), ((r2 22), .inl (k 0, 16, .inl (fun _ => 0))), ((r2 23), .inl (k 0, 16, .inl (fun _ => 0))), ((r2 37), .inl (k 0, 160, .inl (fun _ => 0))), ((r2 26), .inl (k 0, 3, .inl wf2))] H) (hD : va_D A [(h1, .inr (9, oX11 r f9)), ((r 0), .inl (k 3, 6, .inr (.inr (.inr (.inr vf))))), ((r 4), .inl (k 4, 16, .inr (.inr (.inr (.inr (fun _ => none)))))), ((r 5), .inr (5, oX5 (rs 8) f5)), ((r 6), .inr (1, oX1 (rs 9) f1)), (((rs 9) 1), .inl (k 0, 3, .inl wf)), ((r 7), .inr (4, oX4 (rs 10) f0)), (((rs 10) 0), .inl (k 0, 160, .inl (fun _ => 0))), ((r 1), .inr (8, oX10 (rs 6) f0)), (((rs 6) 0), .inl (k 6, 2, .inr (.inr (.inr (.inr (va_up (va_up (fun _ => none) 0 (some ((rs 6) 10))) 1 (some ((rs 6) 11)))))))), (((rs 6) 10), .inl (k 0, 24, .inl (fun _ => 0))), (((rs 6) 11), .inl (k 0, 24, .inl (fun _ => 0))), (((rs 6) 1), .inl (k 0, 2, .inl (fun _ => 0))), ((r 2), .inr (8, oX10 (rs 7) f0)), (((rs 7) 0), .inl (k 6, 2, .inr (.inr (.inr (.inr (va_up (va_up (fun _ => none) 0 (some ((rs 7) 10))) 1 (some ((rs 7) 11)))))))), (((rs 7) 10), .inl (k 0, 24, .inl (fun _ => 0))), (((rs 7) 11), .inl (k 0, 24, .inl (fun _ => 0))), (((rs 7) 1), .inl (k 0, 2, .inl (fun _ => 0))), ((w 0), .inr (8, oX10 (rs 0) f0)), (((rs 0) 0), .inl (k 6, 2, .inr (.inr (.inr (.inr (va_up (va_up (fun _ => none) 0 (some ((rs 0) 10))) 1 (some ((rs 0) 11)))))))), (((rs 0) 10), .inl (k 0, 24, .inl (fun _ => 0))), (((rs 0) 11), .inl (k 0, 24, .inl (fun _ => 0))), (((rs 0) 1), .inl (k 0, 2, .inl (fun _ => 0))), ((w 1), .inr (8, oX10 (rs 1) f0)), (((rs 1) 0), .inl (k 6, 2, .inr (.inr (.inr (.inr (va_up (va_up (fun _ => none) 0 (some ((rs 1) 10))) 1 (some ((rs 1) 11)))))))), (((rs 1) 10), .inl (k 0, 24, .inl (fun _ => 0))), (((rs 1) 11), .inl (k 0, 24, .inl (fun _ => 0))), (((rs 1) 1), .inl (k 0, 2, .inl (fun _ => 0))), ((w 2), .inr (8, oX10 (rs 2) f0)), (((rs 2) 0), .inl (k 6, 2, .inr (.inr (.inr (.inr (va_up (va_up (fun _ => none) 0 (some ((rs 2) 10))) 1 (some ((rs 2) 11)))))))), (((rs 2) 10), .inl (k 0, 24, .inl (fun _ => 0))), (((rs 2) 11), .inl (k 0, 24, .inl (fun _ => 0))), (((rs 2) 1), .inl (k 0, 2, .inl (fun _ => 0))), ((w 3), .inr (8, oX10 (rs 3) f0)), (((rs 3) 0), .inl (k 6, 2, .inr (.inr (.inr (.inr (va_up (va_up (fun _ => none) 0 (some ((rs 3) 10))) 1 (some ((rs 3) 11)))))))), (((rs 3) 10), .inl (k 0, 24, .inl (fun _ => 0))), (((rs 3) 11), .inl (k 0, 24, .inl (fun _ => 0))), (((rs 3) 1), .inl (k 0, 2, .inl (fun _ => 0))), ((w 4), .inr (8, oX10 (rs 4) f0)), (((rs 4) 0), .inl (k 6, 2, .inr (.inr (.inr (.inr (va_up (va_up (fun _ => none) 0 (some ((rs 4) 10))) 1 (some ((rs 4) 11)))))))), (((rs 4) 10), .inl (k 0, 24, .inl (fun _ => 0))), (((rs 4) 11), .inl (k 0, 24, .inl (fun _ => 0))), (((rs 4) 1), .inl (k 0, 2, .inl (fun _ => 0))), ((w 5), .inr (8, oX10 (rs 5) f0)), (((rs 5) 0), .inl (k 6, 2, .inr (.inr (.inr (.inr (va_up (va_up (fun _ => none) 0 (some ((rs 5) 10))) 1 (some ((rs 5) 11)))))))), (((rs 5) 10), .inl (k 0, 24, .inl (fun _ => 0))), (((rs 5) 11), .inl (k 0, 24, .inl (fun _ => 0))), (((rs 5) 1), .inl (k 0, 2, .inl (fun _ => 0))), (h2, .inr (10, oX12 r2 fm)), ((r2 2), .inl (k 1, 6, .inl (fun _ => 0))), ((r2 3), .inl (k 0, 12, .inl (fun _ => 0))), ((r2 4), .inl (k 0, 288, .inl (fun _ => 0))), ((r2 8), .inl (k 0, 2, .inl (fun _ => 0))), ((r2 9), .inl (k 0, 48, .inl (fun _ => 0))), ((r2 14), .inl (k 0, 520, .inl (fun _ => 0))), ((r2 19), .inl (k 0, 520, .inl (fun _ => 0))), ((r2 20), .inl (k 0, 520, .inl (fun _ => 0))), ((r2 21), .inl (k 0, 4160, .inl (fun _ => 0))), ((r2 22), .inl (k 0, 16, .inl (fun _ => 0))), ((r2 23), .inl (k 0, 16, .inl (fun _ => 0))), ((r2 37), .inl (k 0, 160, .inl (fun _ => 0))), ((r2 26), .inl (k 0, 3, .inl wf2))]) : va_P D clsL [(h1, .inr (9, oX11 r f9)), ((r 0), .inl (k 3, 6, .inr (.inr (.inr (.inr vf))))), ((r 4), .inl (k 4, 16, .inr (.inr (.inr (.inr (fun _ => none)))))), ((r 5), .inr (5, oX5 (rs 8) f5)), ((r 6), .inr (1, oX1 (rs 9) f1)), (((rs 9) 1), .inl (k 0, 3, .inl wf)), ((r 7), .inr (4, oX4 (rs 10) f0)), (((rs 10) 0), .inl (k 0, 160, .inl (fun _ => 0))), ((r 1), .inr (8, oX10 (rs 6) f0)), (((rs 6) 0), .inl (k 6, 2, .inr (.inr (.inr (.inr (va_up (va_up (fun _ => none) 0 (some ((rs 6) 10))) 1 (some ((rs 6) 11)))))))), (((rs 6) 10), .inl (k 0, 24, .inl (fun _ => 0))), (((rs 6) 11), .inl (k 0, 24, .inl (fun _ => 0))), (((rs 6) 1), .inl (k 0, 2, .inl (fun _ => 0))), ((r 2), .inr (8, oX10 (rs 7) f0)), (((rs 7) 0), .inl (k 6, 2, .inr (.inr (.inr (.inr (va_up (va_up (fun _ => none) 0 (some ((rs 7) 10))) 1 (some ((rs 7) 11)))))))), (((rs 7) 10), .inl (k 0, 24, .inl (fun _ => 0))), (((rs 7) 11), .inl (k 0, 24, .inl (fun _ => 0))), (((rs 7) 1), .inl (k 0, 2, .inl (fun _ => 0))), ((w j), .inr (8, oX10 (rs j) f0)), (((rs j) 0), .inl (k 6, 2, .inr (.inr (.inr (.inr (va_up (va_up (fun _ => none) 0 (some ((rs j) 10))) 1 (some ((rs j) 11)))))))), (((rs j) 10), .inl (k 0, 24, .inl (fun _ => 0))), (((rs j) 11), .inl (k 0, 24, .inl (fun _ => 0))), (((rs j) 1), .inl (k 0, 2, .inl (fun _ => 0))), (h2, .inr (10, oX12 r2 fm)), ((r2 2), .inl (k 1, 6, .inl (fun _ => 0))), ((r2 3), .inl (k 0, 12, .inl (fun _ => 0))), ((r2 4), .inl (k 0, 288, .inl (fun _ => 0))), ((r2 8), .inl (k 0, 2, .inl (fun _ => 0))), ((r2 9), .inl (k 0, 48, .inl (fun _ => 0))), ((r2 14), .inl (k 0, 520, .inl (fun _ => 0))), ((r2 19), .inl (k 0, 520, .inl (fun _ => 0))), ((r2 20), .inl (k 0, 520, .inl (fun _ => 0))), ((r2 21), .inl (k 0, 4160, .inl (fun _ => 0))), ((r2 22), .inl (k 0, 16, .inl (fun _ => 0))), ((r2 23), .inl (k 0, 16, .inl (fun _ => 0))), ((r2 37), .inl (k 0, 160, .inl (fun _ => 0))), ((r2 26), .inl (k 0, 3, .inl wf2))] H ∧ va_D A [(h1, .inr (9, oX11 r f9)), ((r 0), .inl (k 3, 6, .inr (.inr (.inr (.inr vf))))), ((r 4), .inl (k 4, 16, .inr (.inr (.inr (.inr (fun _ => none)))))), ((r 5), .inr (5, oX5 (rs 8) f5)), ((r 6), .inr (1, oX1 (rs 9) f1)), (((rs 9) 1), .inl (k 0, 3, .inl wf)), ((r 7), .inr (4, oX4 (rs 10) f0)), (((rs 10) 0), .inl (k 0, 160, .inl (fun _ => 0))), ((r 1), .inr (8, oX10 (rs 6) f0)), (((rs 6) 0), .inl (k 6, 2, .inr (.inr (.inr (.inr (va_up (va_up (fun _ => none) 0 (some ((rs 6) 10))) 1 (some ((rs 6) 11)))))))), (((rs 6) 10), .inl (k 0, 24, .inl (fun _ => 0))), (((rs 6) 11), .inl (k 0, 24, .inl (fun _ => 0))), (((rs 6) 1), .inl (k 0, 2, .inl (fun _ => 0))), ((r 2), .inr (8, oX10 (rs 7) f0)), (((rs 7) 0), .inl (k 6, 2, .inr (.inr (.inr (.inr (va_up (va_up (fun _ => none) 0 (some ((rs 7) 10))) 1 (some ((rs 7) 11)))))))), (((rs 7) 10), .inl (k 0, 24, .inl (fun _ => 0))), (((rs 7) 11), .inl (k 0, 24, .inl (fun _ => 0))), (((rs 7) 1), .inl (k 0, 2, .inl (fun _ => 0))), ((w j), .inr (8, oX10 (rs j) f0)), (((rs j) 0), .inl (k 6, 2, .inr (.inr (.inr (.inr (va_up (va_up (fun _ => none) 0 (some ((rs j) 10))) 1 (some ((rs j) 11)))))))), (((rs j) 10), .inl (k 0, 24, .inl (fun _ => 0))), (((rs j) 11), .inl (k 0, 24, .inl (fun _ => 0))), (((rs j) 1), .inl (k 0, 2, .inl (fun _ => 0))), (h2, .inr (10, oX12 r2 fm)), ((r2 2), .inl (k 1, 6, .inl (fun _ => 0))), ((r2 3), .inl (k 0, 12, .inl (fun _ => 0))), ((r2 4), .inl (k 0, 288, .inl (fun _ => 0))), ((r2 8), .inl (k 0, 2, .inl (fun _ => 0))), ((r2 9), .inl (k 0, 48, .inl (fun _ => 0))), ((r2 14), .inl (k 0, 520, .inl (fun _ => 0))), ((r2 19), .inl (k 0, 520, .inl (fun _ => 0))), ((r2 20), .inl (k 0, 520, .inl (fun _ => 0))), ((r2 21), .inl (k 0, 4160, .inl (fun _ => 0))), ((r2 22), .inl (k 0, 16, .inl (fun _ => 0))), ((r2 23), .inl (k 0, 16, .inl (fun _ => 0))), ((r2 37), .inl (k 0, 160, .inl (fun _ => 0))), ((r2 26), .inl (k 0, 3, .inl wf2))] := by
  rcases (show j = 0 ∨ j = 1 ∨ j = 2 ∨ j = 3 ∨ j = 4 ∨ j = 5 by omega) with rfl | rfl | rfl | rfl | rfl | rfl
  · exact ⟨hP.sub [0, 1, 2, 3, 4, 5, 6, 7, 8, 9, 10, 11, 12, 13, 14, 15, 16, 17, 18, 19, 20, 21, 22, 48, 49, 50, 51, 52, 53, 54, 55, 56, 57, 58, 59, 60, 61] rfl, hD.sub [0, 1, 2, 3, 4, 5, 6, 7, 8, 9, 10, 11, 12, 13, 14, 15, 16, 17, 18, 19, 20, 21, 22, 48, 49, 50, 51, 52, 53, 54, 55, 56, 57, 58, 59, 60, 61] (by decide) rfl⟩
  · exact ⟨hP.sub [0, 1, 2, 3, 4, 5, 6, 7, 8, 9, 10, 11, 12, 13, 14, 15, 16, 17, 23, 24, 25, 26, 27, 48, 49, 50, 51, 52, 53, 54, 55, 56, 57, 58, 59, 60, 61] rfl, hD.sub [0, 1, 2, 3, 4, 5, 6, 7, 8, 9, 10, 11, 12, 13, 14, 15, 16, 17, 23, 24, 25, 26, 27, 48, 49, 50, 51, 52, 53, 54, 55, 56, 57, 58, 59, 60, 61] (by decide) rfl⟩
  · exact ⟨hP.sub [0, 1, 2, 3, 4, 5, 6, 7, 8, 9, 10, 11, 12, 13, 14, 15, 16, 17, 28, 29, 30, 31, 32, 48, 49, 50, 51, 52, 53, 54, 55, 56, 57, 58, 59, 60, 61] rfl, hD.sub [0, 1, 2, 3, 4, 5, 6, 7, 8, 9, 10, 11, 12, 13, 14, 15, 16, 17, 28, 29, 30, 31, 32, 48, 49, 50, 51, 52, 53, 54, 55, 56, 57, 58, 59, 60, 61] (by decide) rfl⟩
  · exact ⟨hP.sub [0, 1, 2, 3, 4, 5, 6, 7, 8, 9, 10, 11, 12, 13, 14, 15, 16, 17, 33, 34, 35, 36, 37, 48, 49, 50, 51, 52, 53, 54, 55, 56, 57, 58, 59, 60, 61] rfl, hD.sub [0, 1, 2, 3, 4, 5, 6, 7, 8, 9, 10, 11, 12, 13, 14, 15, 16, 17, 33, 34, 35, 36, 37, 48, 49, 50, 51, 52, 53, 54, 55, 56, 57, 58, 59, 60, 61] (by decide) rfl⟩
  · exact ⟨hP.sub [0, 1, 2, 3, 4, 5, 6, 7, 8, 9, 10, 11, 12, 13, 14, 15, 16, 17, 38, 39, 40, 41, 42, 48, 49, 50, 51, 52, 53, 54, 55, 56, 57, 58, 59, 60, 61] rfl, hD.sub [0, 1, 2, 3, 4, 5, 6, 7, 8, 9, 10, 11, 12, 13, 14, 15, 16, 17, 38, 39, 40, 41, 42, 48, 49, 50, 51, 52, 53, 54, 55, 56, 57, 58, 59, 60, 61] (by decide) rfl⟩
  · exact ⟨hP.sub [0, 1, 2, 3, 4, 5, 6, 7, 8, 9, 10, 11, 12, 13, 14, 15, 16, 17, 43, 44, 45, 46, 47, 48, 49, 50, 51, 52, 53, 54, 55, 56, 57, 58, 59, 60, 61] rfl, hD.sub [0, 1, 2, 3, 4, 5, 6, 7, 8, 9, 10, 11, 12, 13, 14, 15, 16, 17, 43, 44, 45, 46, 47, 48, 49, 50, 51, 52, 53, 54, 55, 56, 57, 58, 59, 60, 61] (by decide) rfl⟩
