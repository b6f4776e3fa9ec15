set_option maxHeartbeats 400000 in
set_option maxRecDepth 100000 in
theorem c_X9_init (l : Launch) (D : va_G) (k : Nat → ClassId) (h0 : Nat) : CV l yX9_init cX9_init 1 1 12 0 0 D k [] [.ref h0] (S := Unit) (fun (_ : Unit) => True) (fun (_ : Unit) => ([] : va_W)) := by
  intro sz
  refine mtX (Qc := fun A => va_Qv (S := Unit) (fun (_ : Unit) => True) (fun u t => WX D A ((fun (_ : Unit) => ([] : va_W)) u) t) A) (free := fun A => A) (by decide) (Nat.le_of_ble_eq_true rfl) ?_
  intro p e s m below meth c ls A hB hl
  obtain ⟨hx, hb, hml, hr, hlocks, hnm, hown, ht, hK, hN, hA, hP, hD, hS⟩ := hB
  have hl : lv_has ls 1 [(0, .ref h0)] := hl
  refine lv_aload_n hx hb dX9_init_0 rfl (lv_at hl 0 rfl) ?_
  refine W.objInit hx hb hown (ht _ q2_151) (ht _ q1_23) (ht _ q1_24) rfl (by rw [hml]; exact hl.1) rfl dX9_init_1 (by decide) (Nat.le_of_ble_eq_true rfl) ?_
  refine W.eq (g2 := F0 m 4 ls []) rfl ?_
  exact W.vret hx hb hr (fun t ht hW => ⟨⟨(), rfl, trivial, nilP, nilD⟩, hS.F ht⟩) hS.2.2 dX9_init_4
set_option maxHeartbeats 400000 in
set_option maxRecDepth 100000 in
theorem c_X7_init_X0 (l : Launch) (D : va_G) (k : Nat → ClassId) (h0 : Nat) : CV l yX7_init cX7_init 1 2 32 1 3 D k [(h0, .inr (0, [.null]))] [.ref h0] (S := Nat) (fun (_ : Nat) => True) (fun (q : Nat) => ([(h0, .inr (0, [.ref q]))] : va_W)) := by
  intro sz
  refine mtX (Qc := fun A => va_Qv (S := Nat) (fun (_ : Nat) => True) (fun u t => WX D A ((fun (q : Nat) => ([(h0, .inr (0, [.ref q]))] : va_W)) u) t) A) (free := fun A => A) (by decide) (Nat.le_of_ble_eq_true rfl) ?_
  intro p e s m below meth c ls A hB hl
  obtain ⟨hx, hb, hml, hr, hlocks, hnm, hown, ht, hK, hN, hA, hP, hD, hS⟩ := hB
  have hl : lv_has ls 1 [(0, .ref h0)] := hl
  refine lv_aload_n hx hb dX7_init_0 rfl (lv_at hl 0 rfl) ?_
  refine afterV (wr := [(h0, .inr (0, [.null]))]) (xN (fr := 1) (lo := 12) (mc := 0) (ms := 0) (As := []) (rest := []) (wc := []) (host := "TuneSchool") ⟨hx, hb, hml, hown, ht⟩ (c_X9_init l D k h0 _) hK hN nilP (nilD (A := A)) rfl (List.mem_of_getElem? (i := 7) rfl) q2_149 q1_9 q2_150 md_X9_init ⟨by decide, by decide⟩ rfl hl.1 rfl (Nat.le_of_ble_eq_true rfl) dX7_init_1 ⟨by decide, by decide⟩) hP hD hS hA [] [0] rfl rfl rfl (by decide) (fun u_2 H locs h_3 hP hD hS => ?_)
  have hP : va_P D clsL [(h0, .inr (0, [.null]))] H := hP
  have hD : va_D A [(h0, .inr (0, [.null]))] := hD
  refine lv_aload_n hx hb dX7_init_4 rfl (lv_at hl 0 rfl) ?_
  refine lv_iconst (v := 3) hx hb dX7_init_5 (by decide) ?_
  refine newJ (N' := 3) hx hb (ht _ q2_156) hK hP hD hS hA (by decide) (by decide) (by decide) (by decide) (by decide) dX7_init_6 (fun q_4 H hP hD hS => ?_)
  refine W.widen (k := 1) (n := 3) (by decide) (by decide) ?_
  have hP : va_P D clsL [(h0, .inr (0, [.null])), (q_4, .inl (k 2, 3, .inr (.inl (fun _ => 0))))] H := hP
  have hD : va_D A [(h0, .inr (0, [.null])), (q_4, .inl (k 2, 3, .inr (.inl (fun _ => 0))))] := hD
  refine va_putF (D := D) (ci := 0) (v := .ref q_4) (ty := .array .long) (C := "TuneSchool$Cadence") (T := TX0) (N := 1) hx hb ht iX0 tyX0 tyX0_ok nmX0 hown hK hP hD hS 0 rfl rfl 0 (by decide) (ht _ q2_152) (fun _ h9 => h9) rfl hnm rfl (by decide +kernel) rfl rfl (Nat.le_of_ble_eq_true rfl) dX7_init_8 (fun H locs hP hD hS => ?_)
  have hP : va_P D clsL [(h0, .inr (0, [.ref q_4])), (q_4, .inl (k 2, 3, .inr (.inl (fun _ => 0))))] H := hP
  have hD : va_D A [(h0, .inr (0, [.ref q_4])), (q_4, .inl (k 2, 3, .inr (.inl (fun _ => 0))))] := hD
  refine W.widen (k := 1) (n := 3) (by decide) (by decide) ?_
  have hP9 := hP.sub (ws' := [(h0, .inr (0, [.ref q_4]))]) [0] rfl
  have hD9 := hD.sub (ws' := [(h0, .inr (0, [.ref q_4]))]) [0] (by decide) rfl
  exact W.vret hx hb hr (fun t ht hW => ⟨⟨q_4, rfl, trivial, by rw [ht]; exact hP9, hD9⟩, hS.F ht⟩) hS.2.2 dX7_init_11
set_option maxHeartbeats 400000 in
set_option maxRecDepth 100000 in
theorem c_X7_init_X2 (l : Launch) (D : va_G) (k : Nat → ClassId) (h0 : Nat) : CV l yX7_init cX7_init 1 2 32 1 3 D k [(h0, .inr (2, [.null]))] [.ref h0] (S := Nat) (fun (_ : Nat) => True) (fun (q : Nat) => ([(h0, .inr (2, [.ref q]))] : va_W)) := by
  intro sz
  refine mtX (Qc := fun A => va_Qv (S := Nat) (fun (_ : Nat) => True) (fun u t => WX D A ((fun (q : Nat) => ([(h0, .inr (2, [.ref q]))] : va_W)) u) t) A) (free := fun A => A) (by decide) (Nat.le_of_ble_eq_true rfl) ?_
  intro p e s m below meth c ls A hB hl
  obtain ⟨hx, hb, hml, hr, hlocks, hnm, hown, ht, hK, hN, hA, hP, hD, hS⟩ := hB
  have hl : lv_has ls 1 [(0, .ref h0)] := hl
  refine lv_aload_n hx hb dX7_init_0 rfl (lv_at hl 0 rfl) ?_
  refine afterV (wr := [(h0, .inr (2, [.null]))]) (xN (fr := 1) (lo := 12) (mc := 0) (ms := 0) (As := []) (rest := []) (wc := []) (host := "TuneSchool") ⟨hx, hb, hml, hown, ht⟩ (c_X9_init l D k h0 _) hK hN nilP (nilD (A := A)) rfl (List.mem_of_getElem? (i := 7) rfl) q2_149 q1_9 q2_150 md_X9_init ⟨by decide, by decide⟩ rfl hl.1 rfl (Nat.le_of_ble_eq_true rfl) dX7_init_1 ⟨by decide, by decide⟩) hP hD hS hA [] [0] rfl rfl rfl (by decide) (fun u_2 H locs h_3 hP hD hS => ?_)
  have hP : va_P D clsL [(h0, .inr (2, [.null]))] H := hP
  have hD : va_D A [(h0, .inr (2, [.null]))] := hD
  refine lv_aload_n hx hb dX7_init_4 rfl (lv_at hl 0 rfl) ?_
  refine lv_iconst (v := 3) hx hb dX7_init_5 (by decide) ?_
  refine newJ (N' := 3) hx hb (ht _ q2_156) hK hP hD hS hA (by decide) (by decide) (by decide) (by decide) (by decide) dX7_init_6 (fun q_4 H hP hD hS => ?_)
  refine W.widen (k := 1) (n := 3) (by decide) (by decide) ?_
  have hP : va_P D clsL [(h0, .inr (2, [.null])), (q_4, .inl (k 2, 3, .inr (.inl (fun _ => 0))))] H := hP
  have hD : va_D A [(h0, .inr (2, [.null])), (q_4, .inl (k 2, 3, .inr (.inl (fun _ => 0))))] := hD
  refine va_putF (D := D) (ci := 2) (v := .ref q_4) (ty := .array .long) (C := "TuneSchool$Interval") (T := TX2) (N := 1) hx hb ht iX2 tyX2 tyX2_ok nmX2 hown hK hP hD hS 0 rfl rfl 0 (by decide) (ht _ q2_152) (fun _ h9 => h9) rfl hnm rfl (by decide +kernel) rfl rfl (Nat.le_of_ble_eq_true rfl) dX7_init_8 (fun H locs hP hD hS => ?_)
  have hP : va_P D clsL [(h0, .inr (2, [.ref q_4])), (q_4, .inl (k 2, 3, .inr (.inl (fun _ => 0))))] H := hP
  have hD : va_D A [(h0, .inr (2, [.ref q_4])), (q_4, .inl (k 2, 3, .inr (.inl (fun _ => 0))))] := hD
  refine W.widen (k := 1) (n := 3) (by decide) (by decide) ?_
  have hP9 := hP.sub (ws' := [(h0, .inr (2, [.ref q_4]))]) [0] rfl
  have hD9 := hD.sub (ws' := [(h0, .inr (2, [.ref q_4]))]) [0] (by decide) rfl
  exact W.vret hx hb hr (fun t ht hW => ⟨⟨q_4, rfl, trivial, by rw [ht]; exact hP9, hD9⟩, hS.F ht⟩) hS.2.2 dX7_init_11
set_option maxHeartbeats 400000 in
set_option maxRecDepth 100000 in
theorem c_X7_init_X3 (l : Launch) (D : va_G) (k : Nat → ClassId) (h0 : Nat) : CV l yX7_init cX7_init 1 2 32 1 3 D k [(h0, .inr (3, [.null]))] [.ref h0] (S := Nat) (fun (_ : Nat) => True) (fun (q : Nat) => ([(h0, .inr (3, [.ref q]))] : va_W)) := by
  intro sz
  refine mtX (Qc := fun A => va_Qv (S := Nat) (fun (_ : Nat) => True) (fun u t => WX D A ((fun (q : Nat) => ([(h0, .inr (3, [.ref q]))] : va_W)) u) t) A) (free := fun A => A) (by decide) (Nat.le_of_ble_eq_true rfl) ?_
  intro p e s m below meth c ls A hB hl
  obtain ⟨hx, hb, hml, hr, hlocks, hnm, hown, ht, hK, hN, hA, hP, hD, hS⟩ := hB
  have hl : lv_has ls 1 [(0, .ref h0)] := hl
  refine lv_aload_n hx hb dX7_init_0 rfl (lv_at hl 0 rfl) ?_
  refine afterV (wr := [(h0, .inr (3, [.null]))]) (xN (fr := 1) (lo := 12) (mc := 0) (ms := 0) (As := []) (rest := []) (wc := []) (host := "TuneSchool") ⟨hx, hb, hml, hown, ht⟩ (c_X9_init l D k h0 _) hK hN nilP (nilD (A := A)) rfl (List.mem_of_getElem? (i := 7) rfl) q2_149 q1_9 q2_150 md_X9_init ⟨by decide, by decide⟩ rfl hl.1 rfl (Nat.le_of_ble_eq_true rfl) dX7_init_1 ⟨by decide, by decide⟩) hP hD hS hA [] [0] rfl rfl rfl (by decide) (fun u_2 H locs h_3 hP hD hS => ?_)
  have hP : va_P D clsL [(h0, .inr (3, [.null]))] H := hP
  have hD : va_D A [(h0, .inr (3, [.null]))] := hD
  refine lv_aload_n hx hb dX7_init_4 rfl (lv_at hl 0 rfl) ?_
  refine lv_iconst (v := 3) hx hb dX7_init_5 (by decide) ?_
  refine newJ (N' := 3) hx hb (ht _ q2_156) hK hP hD hS hA (by decide) (by decide) (by decide) (by decide) (by decide) dX7_init_6 (fun q_4 H hP hD hS => ?_)
  refine W.widen (k := 1) (n := 3) (by decide) (by decide) ?_
  have hP : va_P D clsL [(h0, .inr (3, [.null])), (q_4, .inl (k 2, 3, .inr (.inl (fun _ => 0))))] H := hP
  have hD : va_D A [(h0, .inr (3, [.null])), (q_4, .inl (k 2, 3, .inr (.inl (fun _ => 0))))] := hD
  refine va_putF (D := D) (ci := 3) (v := .ref q_4) (ty := .array .long) (C := "TuneSchool$Leap") (T := TX3) (N := 1) hx hb ht iX3 tyX3 tyX3_ok nmX3 hown hK hP hD hS 0 rfl rfl 0 (by decide) (ht _ q2_152) (fun _ h9 => h9) rfl hnm rfl (by decide +kernel) rfl rfl (Nat.le_of_ble_eq_true rfl) dX7_init_8 (fun H locs hP hD hS => ?_)
  have hP : va_P D clsL [(h0, .inr (3, [.ref q_4])), (q_4, .inl (k 2, 3, .inr (.inl (fun _ => 0))))] H := hP
  have hD : va_D A [(h0, .inr (3, [.ref q_4])), (q_4, .inl (k 2, 3, .inr (.inl (fun _ => 0))))] := hD
  refine W.widen (k := 1) (n := 3) (by decide) (by decide) ?_
  have hP9 := hP.sub (ws' := [(h0, .inr (3, [.ref q_4]))]) [0] rfl
  have hD9 := hD.sub (ws' := [(h0, .inr (3, [.ref q_4]))]) [0] (by decide) rfl
  exact W.vret hx hb hr (fun t ht hW => ⟨⟨q_4, rfl, trivial, by rw [ht]; exact hP9, hD9⟩, hS.F ht⟩) hS.2.2 dX7_init_11
set_option maxHeartbeats 400000 in
set_option maxRecDepth 100000 in
theorem c_X7_init_X6 (l : Launch) (D : va_G) (k : Nat → ClassId) (h0 : Nat) : CV l yX7_init cX7_init 1 2 32 1 3 D k [(h0, .inr (6, [.null]))] [.ref h0] (S := Nat) (fun (_ : Nat) => True) (fun (q : Nat) => ([(h0, .inr (6, [.ref q]))] : va_W)) := by
  intro sz
  refine mtX (Qc := fun A => va_Qv (S := Nat) (fun (_ : Nat) => True) (fun u t => WX D A ((fun (q : Nat) => ([(h0, .inr (6, [.ref q]))] : va_W)) u) t) A) (free := fun A => A) (by decide) (Nat.le_of_ble_eq_true rfl) ?_
  intro p e s m below meth c ls A hB hl
  obtain ⟨hx, hb, hml, hr, hlocks, hnm, hown, ht, hK, hN, hA, hP, hD, hS⟩ := hB
  have hl : lv_has ls 1 [(0, .ref h0)] := hl
  refine lv_aload_n hx hb dX7_init_0 rfl (lv_at hl 0 rfl) ?_
  refine afterV (wr := [(h0, .inr (6, [.null]))]) (xN (fr := 1) (lo := 12) (mc := 0) (ms := 0) (As := []) (rest := []) (wc := []) (host := "TuneSchool") ⟨hx, hb, hml, hown, ht⟩ (c_X9_init l D k h0 _) hK hN nilP (nilD (A := A)) rfl (List.mem_of_getElem? (i := 7) rfl) q2_149 q1_9 q2_150 md_X9_init ⟨by decide, by decide⟩ rfl hl.1 rfl (Nat.le_of_ble_eq_true rfl) dX7_init_1 ⟨by decide, by decide⟩) hP hD hS hA [] [0] rfl rfl rfl (by decide) (fun u_2 H locs h_3 hP hD hS => ?_)
  have hP : va_P D clsL [(h0, .inr (6, [.null]))] H := hP
  have hD : va_D A [(h0, .inr (6, [.null]))] := hD
  refine lv_aload_n hx hb dX7_init_4 rfl (lv_at hl 0 rfl) ?_
  refine lv_iconst (v := 3) hx hb dX7_init_5 (by decide) ?_
  refine newJ (N' := 3) hx hb (ht _ q2_156) hK hP hD hS hA (by decide) (by decide) (by decide) (by decide) (by decide) dX7_init_6 (fun q_4 H hP hD hS => ?_)
  refine W.widen (k := 1) (n := 3) (by decide) (by decide) ?_
  have hP : va_P D clsL [(h0, .inr (6, [.null])), (q_4, .inl (k 2, 3, .inr (.inl (fun _ => 0))))] H := hP
  have hD : va_D A [(h0, .inr (6, [.null])), (q_4, .inl (k 2, 3, .inr (.inl (fun _ => 0))))] := hD
  refine va_putF (D := D) (ci := 6) (v := .ref q_4) (ty := .array .long) (C := "TuneSchool$Motion") (T := TX6) (N := 1) hx hb ht iX6 tyX6 tyX6_ok nmX6 hown hK hP hD hS 0 rfl rfl 0 (by decide) (ht _ q2_152) (fun _ h9 => h9) rfl hnm rfl (by decide +kernel) rfl rfl (Nat.le_of_ble_eq_true rfl) dX7_init_8 (fun H locs hP hD hS => ?_)
  have hP : va_P D clsL [(h0, .inr (6, [.ref q_4])), (q_4, .inl (k 2, 3, .inr (.inl (fun _ => 0))))] H := hP
  have hD : va_D A [(h0, .inr (6, [.ref q_4])), (q_4, .inl (k 2, 3, .inr (.inl (fun _ => 0))))] := hD
  refine W.widen (k := 1) (n := 3) (by decide) (by decide) ?_
  have hP9 := hP.sub (ws' := [(h0, .inr (6, [.ref q_4]))]) [0] rfl
  have hD9 := hD.sub (ws' := [(h0, .inr (6, [.ref q_4]))]) [0] (by decide) rfl
  exact W.vret hx hb hr (fun t ht hW => ⟨⟨q_4, rfl, trivial, by rw [ht]; exact hP9, hD9⟩, hS.F ht⟩) hS.2.2 dX7_init_11
set_option maxHeartbeats 400000 in
set_option maxRecDepth 100000 in
theorem c_X2_init_X0 (l : Launch) (D : va_G) (k : Nat → ClassId) (h0 : Nat) : CV l yX2_init cX2_init 1 3 52 1 3 D k [(h0, .inr (0, [.null]))] [.ref h0] (S := Nat) (fun (_ : Nat) => True) (fun (q : Nat) => ([(h0, .inr (0, [.ref q]))] : va_W)) := by
  intro sz
  refine mtX (Qc := fun A => va_Qv (S := Nat) (fun (_ : Nat) => True) (fun u t => WX D A ((fun (q : Nat) => ([(h0, .inr (0, [.ref q]))] : va_W)) u) t) A) (free := fun A => A) (by decide) (Nat.le_of_ble_eq_true rfl) ?_
  intro p e s m below meth c ls A hB hl
  obtain ⟨hx, hb, hml, hr, hlocks, hnm, hown, ht, hK, hN, hA, hP, hD, hS⟩ := hB
  have hl : lv_has ls 1 [(0, .ref h0)] := hl
  refine lv_aload_n hx hb dX2_init_0 rfl (lv_at hl 0 rfl) ?_
  refine afterV (wr := []) (xN (fr := 2) (lo := 32) (mc := 1) (ms := 3) (As := []) (rest := []) (wc := [(h0, .inr (0, [.null]))]) (host := "TuneSchool") ⟨hx, hb, hml, hown, ht⟩ (c_X7_init_X0 l D k h0 _) hK hN (hP.sub (ws' := [(h0, .inr (0, [.null]))]) [0] rfl) (hD.sub (ws' := [(h0, .inr (0, [.null]))]) [0] (by decide) rfl) rfl (List.mem_of_getElem? (i := 6) rfl) q2_146 q1_10 q2_147 md_X7_init ⟨by decide, by decide⟩ rfl hl.1 rfl (Nat.le_of_ble_eq_true rfl) dX2_init_1 ⟨by decide, by decide⟩) hP hD hS hA [0] [] rfl rfl rfl (by decide) (fun u_2 H locs h_3 hP hD hS => ?_)
  refine W.widen (k := 1) (n := 3) (by decide) (by decide) ?_
  have hP : va_P D clsL [(h0, .inr (0, [.ref u_2]))] H := hP
  have hD : va_D A [(h0, .inr (0, [.ref u_2]))] := hD
  refine W.widen (k := 1) (n := 3) (by decide) (by decide) ?_
  have hP9 := hP.sub (ws' := [(h0, .inr (0, [.ref u_2]))]) [0] rfl
  have hD9 := hD.sub (ws' := [(h0, .inr (0, [.ref u_2]))]) [0] (by decide) rfl
  exact W.vret hx hb hr (fun t ht hW => ⟨⟨u_2, rfl, trivial, by rw [ht]; exact hP9, hD9⟩, hS.F ht⟩) hS.2.2 dX2_init_4
set_option maxHeartbeats 400000 in
set_option maxRecDepth 100000 in
theorem c_X2_init_X2 (l : Launch) (D : va_G) (k : Nat → ClassId) (h0 : Nat) : CV l yX2_init cX2_init 1 3 52 1 3 D k [(h0, .inr (2, [.null]))] [.ref h0] (S := Nat) (fun (_ : Nat) => True) (fun (q : Nat) => ([(h0, .inr (2, [.ref q]))] : va_W)) := by
  intro sz
  refine mtX (Qc := fun A => va_Qv (S := Nat) (fun (_ : Nat) => True) (fun u t => WX D A ((fun (q : Nat) => ([(h0, .inr (2, [.ref q]))] : va_W)) u) t) A) (free := fun A => A) (by decide) (Nat.le_of_ble_eq_true rfl) ?_
  intro p e s m below meth c ls A hB hl
  obtain ⟨hx, hb, hml, hr, hlocks, hnm, hown, ht, hK, hN, hA, hP, hD, hS⟩ := hB
  have hl : lv_has ls 1 [(0, .ref h0)] := hl
  refine lv_aload_n hx hb dX2_init_0 rfl (lv_at hl 0 rfl) ?_
  refine afterV (wr := []) (xN (fr := 2) (lo := 32) (mc := 1) (ms := 3) (As := []) (rest := []) (wc := [(h0, .inr (2, [.null]))]) (host := "TuneSchool") ⟨hx, hb, hml, hown, ht⟩ (c_X7_init_X2 l D k h0 _) hK hN (hP.sub (ws' := [(h0, .inr (2, [.null]))]) [0] rfl) (hD.sub (ws' := [(h0, .inr (2, [.null]))]) [0] (by decide) rfl) rfl (List.mem_of_getElem? (i := 6) rfl) q2_146 q1_10 q2_147 md_X7_init ⟨by decide, by decide⟩ rfl hl.1 rfl (Nat.le_of_ble_eq_true rfl) dX2_init_1 ⟨by decide, by decide⟩) hP hD hS hA [0] [] rfl rfl rfl (by decide) (fun u_2 H locs h_3 hP hD hS => ?_)
  refine W.widen (k := 1) (n := 3) (by decide) (by decide) ?_
  have hP : va_P D clsL [(h0, .inr (2, [.ref u_2]))] H := hP
  have hD : va_D A [(h0, .inr (2, [.ref u_2]))] := hD
  refine W.widen (k := 1) (n := 3) (by decide) (by decide) ?_
  have hP9 := hP.sub (ws' := [(h0, .inr (2, [.ref u_2]))]) [0] rfl
  have hD9 := hD.sub (ws' := [(h0, .inr (2, [.ref u_2]))]) [0] (by decide) rfl
  exact W.vret hx hb hr (fun t ht hW => ⟨⟨u_2, rfl, trivial, by rw [ht]; exact hP9, hD9⟩, hS.F ht⟩) hS.2.2 dX2_init_4
set_option maxHeartbeats 400000 in
set_option maxRecDepth 100000 in
theorem c_X2_init_X6 (l : Launch) (D : va_G) (k : Nat → ClassId) (h0 : Nat) : CV l yX2_init cX2_init 1 3 52 1 3 D k [(h0, .inr (6, [.null]))] [.ref h0] (S := Nat) (fun (_ : Nat) => True) (fun (q : Nat) => ([(h0, .inr (6, [.ref q]))] : va_W)) := by
  intro sz
  refine mtX (Qc := fun A => va_Qv (S := Nat) (fun (_ : Nat) => True) (fun u t => WX D A ((fun (q : Nat) => ([(h0, .inr (6, [.ref q]))] : va_W)) u) t) A) (free := fun A => A) (by decide) (Nat.le_of_ble_eq_true rfl) ?_
  intro p e s m below meth c ls A hB hl
  obtain ⟨hx, hb, hml, hr, hlocks, hnm, hown, ht, hK, hN, hA, hP, hD, hS⟩ := hB
  have hl : lv_has ls 1 [(0, .ref h0)] := hl
  refine lv_aload_n hx hb dX2_init_0 rfl (lv_at hl 0 rfl) ?_
  refine afterV (wr := []) (xN (fr := 2) (lo := 32) (mc := 1) (ms := 3) (As := []) (rest := []) (wc := [(h0, .inr (6, [.null]))]) (host := "TuneSchool") ⟨hx, hb, hml, hown, ht⟩ (c_X7_init_X6 l D k h0 _) hK hN (hP.sub (ws' := [(h0, .inr (6, [.null]))]) [0] rfl) (hD.sub (ws' := [(h0, .inr (6, [.null]))]) [0] (by decide) rfl) rfl (List.mem_of_getElem? (i := 6) rfl) q2_146 q1_10 q2_147 md_X7_init ⟨by decide, by decide⟩ rfl hl.1 rfl (Nat.le_of_ble_eq_true rfl) dX2_init_1 ⟨by decide, by decide⟩) hP hD hS hA [0] [] rfl rfl rfl (by decide) (fun u_2 H locs h_3 hP hD hS => ?_)
  refine W.widen (k := 1) (n := 3) (by decide) (by decide) ?_
  have hP : va_P D clsL [(h0, .inr (6, [.ref u_2]))] H := hP
  have hD : va_D A [(h0, .inr (6, [.ref u_2]))] := hD
  refine W.widen (k := 1) (n := 3) (by decide) (by decide) ?_
  have hP9 := hP.sub (ws' := [(h0, .inr (6, [.ref u_2]))]) [0] rfl
  have hD9 := hD.sub (ws' := [(h0, .inr (6, [.ref u_2]))]) [0] (by decide) rfl
  exact W.vret hx hb hr (fun t ht hW => ⟨⟨u_2, rfl, trivial, by rw [ht]; exact hP9, hD9⟩, hS.F ht⟩) hS.2.2 dX2_init_4
set_option maxHeartbeats 400000 in
set_option maxRecDepth 100000 in
theorem c_X6_init_X0 (l : Launch) (D : va_G) (k : Nat → ClassId) (h0 : Nat) : CV l yX6_init cX6_init 1 4 72 1 3 D k [(h0, .inr (0, [.null]))] [.ref h0] (S := Nat) (fun (_ : Nat) => True) (fun (q : Nat) => ([(h0, .inr (0, [.ref q]))] : va_W)) := by
  intro sz
  refine mtX (Qc := fun A => va_Qv (S := Nat) (fun (_ : Nat) => True) (fun u t => WX D A ((fun (q : Nat) => ([(h0, .inr (0, [.ref q]))] : va_W)) u) t) A) (free := fun A => A) (by decide) (Nat.le_of_ble_eq_true rfl) ?_
  intro p e s m below meth c ls A hB hl
  obtain ⟨hx, hb, hml, hr, hlocks, hnm, hown, ht, hK, hN, hA, hP, hD, hS⟩ := hB
  have hl : lv_has ls 1 [(0, .ref h0)] := hl
  refine lv_aload_n hx hb dX6_init_0 rfl (lv_at hl 0 rfl) ?_
  refine afterV (wr := []) (xN (fr := 3) (lo := 52) (mc := 1) (ms := 3) (As := []) (rest := []) (wc := [(h0, .inr (0, [.null]))]) (host := "TuneSchool") ⟨hx, hb, hml, hown, ht⟩ (c_X2_init_X0 l D k h0 _) hK hN (hP.sub (ws' := [(h0, .inr (0, [.null]))]) [0] rfl) (hD.sub (ws' := [(h0, .inr (0, [.null]))]) [0] (by decide) rfl) rfl (List.mem_of_getElem? (i := 5) rfl) q2_143 q1_11 q2_144 md_X2_init ⟨by decide, by decide⟩ rfl hl.1 rfl (Nat.le_of_ble_eq_true rfl) dX6_init_1 ⟨by decide, by decide⟩) hP hD hS hA [0] [] rfl rfl rfl (by decide) (fun u_2 H locs h_3 hP hD hS => ?_)
  refine W.widen (k := 1) (n := 3) (by decide) (by decide) ?_
  have hP : va_P D clsL [(h0, .inr (0, [.ref u_2]))] H := hP
  have hD : va_D A [(h0, .inr (0, [.ref u_2]))] := hD
  refine W.widen (k := 1) (n := 3) (by decide) (by decide) ?_
  have hP9 := hP.sub (ws' := [(h0, .inr (0, [.ref u_2]))]) [0] rfl
  have hD9 := hD.sub (ws' := [(h0, .inr (0, [.ref u_2]))]) [0] (by decide) rfl
  exact W.vret hx hb hr (fun t ht hW => ⟨⟨u_2, rfl, trivial, by rw [ht]; exact hP9, hD9⟩, hS.F ht⟩) hS.2.2 dX6_init_4
set_option maxHeartbeats 400000 in
set_option maxRecDepth 100000 in
theorem c_X6_init_X6 (l : Launch) (D : va_G) (k : Nat → ClassId) (h0 : Nat) : CV l yX6_init cX6_init 1 4 72 1 3 D k [(h0, .inr (6, [.null]))] [.ref h0] (S := Nat) (fun (_ : Nat) => True) (fun (q : Nat) => ([(h0, .inr (6, [.ref q]))] : va_W)) := by
  intro sz
  refine mtX (Qc := fun A => va_Qv (S := Nat) (fun (_ : Nat) => True) (fun u t => WX D A ((fun (q : Nat) => ([(h0, .inr (6, [.ref q]))] : va_W)) u) t) A) (free := fun A => A) (by decide) (Nat.le_of_ble_eq_true rfl) ?_
  intro p e s m below meth c ls A hB hl
  obtain ⟨hx, hb, hml, hr, hlocks, hnm, hown, ht, hK, hN, hA, hP, hD, hS⟩ := hB
  have hl : lv_has ls 1 [(0, .ref h0)] := hl
  refine lv_aload_n hx hb dX6_init_0 rfl (lv_at hl 0 rfl) ?_
  refine afterV (wr := []) (xN (fr := 3) (lo := 52) (mc := 1) (ms := 3) (As := []) (rest := []) (wc := [(h0, .inr (6, [.null]))]) (host := "TuneSchool") ⟨hx, hb, hml, hown, ht⟩ (c_X2_init_X6 l D k h0 _) hK hN (hP.sub (ws' := [(h0, .inr (6, [.null]))]) [0] rfl) (hD.sub (ws' := [(h0, .inr (6, [.null]))]) [0] (by decide) rfl) rfl (List.mem_of_getElem? (i := 5) rfl) q2_143 q1_11 q2_144 md_X2_init ⟨by decide, by decide⟩ rfl hl.1 rfl (Nat.le_of_ble_eq_true rfl) dX6_init_1 ⟨by decide, by decide⟩) hP hD hS hA [0] [] rfl rfl rfl (by decide) (fun u_2 H locs h_3 hP hD hS => ?_)
  refine W.widen (k := 1) (n := 3) (by decide) (by decide) ?_
  have hP : va_P D clsL [(h0, .inr (6, [.ref u_2]))] H := hP
  have hD : va_D A [(h0, .inr (6, [.ref u_2]))] := hD
  refine W.widen (k := 1) (n := 3) (by decide) (by decide) ?_
  have hP9 := hP.sub (ws' := [(h0, .inr (6, [.ref u_2]))]) [0] rfl
  have hD9 := hD.sub (ws' := [(h0, .inr (6, [.ref u_2]))]) [0] (by decide) rfl
  exact W.vret hx hb hr (fun t ht hW => ⟨⟨u_2, rfl, trivial, by rw [ht]; exact hP9, hD9⟩, hS.F ht⟩) hS.2.2 dX6_init_4
set_option maxHeartbeats 400000 in
set_option maxRecDepth 100000 in
theorem c_X0_init_X0 (l : Launch) (D : va_G) (k : Nat → ClassId) (h0 : Nat) : CV l yX0_init cX0_init 1 5 92 1 3 D k [(h0, .inr (0, [.null]))] [.ref h0] (S := Nat) (fun (_ : Nat) => True) (fun (q : Nat) => ([(h0, .inr (0, [.ref q]))] : va_W)) := by
  intro sz
  refine mtX (Qc := fun A => va_Qv (S := Nat) (fun (_ : Nat) => True) (fun u t => WX D A ((fun (q : Nat) => ([(h0, .inr (0, [.ref q]))] : va_W)) u) t) A) (free := fun A => A) (by decide) (Nat.le_of_ble_eq_true rfl) ?_
  intro p e s m below meth c ls A hB hl
  obtain ⟨hx, hb, hml, hr, hlocks, hnm, hown, ht, hK, hN, hA, hP, hD, hS⟩ := hB
  have hl : lv_has ls 1 [(0, .ref h0)] := hl
  refine lv_aload_n hx hb dX0_init_0 rfl (lv_at hl 0 rfl) ?_
  refine afterV (wr := []) (xN (fr := 4) (lo := 72) (mc := 1) (ms := 3) (As := []) (rest := []) (wc := [(h0, .inr (0, [.null]))]) (host := "TuneSchool") ⟨hx, hb, hml, hown, ht⟩ (c_X6_init_X0 l D k h0 _) hK hN (hP.sub (ws' := [(h0, .inr (0, [.null]))]) [0] rfl) (hD.sub (ws' := [(h0, .inr (0, [.null]))]) [0] (by decide) rfl) rfl (List.mem_of_getElem? (i := 11) rfl) q2_140 q1_12 q2_141 md_X6_init ⟨by decide, by decide⟩ rfl hl.1 rfl (Nat.le_of_ble_eq_true rfl) dX0_init_1 ⟨by decide, by decide⟩) hP hD hS hA [0] [] rfl rfl rfl (by decide) (fun u_2 H locs h_3 hP hD hS => ?_)
  refine W.widen (k := 1) (n := 3) (by decide) (by decide) ?_
  have hP : va_P D clsL [(h0, .inr (0, [.ref u_2]))] H := hP
  have hD : va_D A [(h0, .inr (0, [.ref u_2]))] := hD
  refine W.widen (k := 1) (n := 3) (by decide) (by decide) ?_
  have hP9 := hP.sub (ws' := [(h0, .inr (0, [.ref u_2]))]) [0] rfl
  have hD9 := hD.sub (ws' := [(h0, .inr (0, [.ref u_2]))]) [0] (by decide) rfl
  exact W.vret hx hb hr (fun t ht hW => ⟨⟨u_2, rfl, trivial, by rw [ht]; exact hP9, hD9⟩, hS.F ht⟩) hS.2.2 dX0_init_4
set_option maxHeartbeats 400000 in
set_option maxRecDepth 100000 in
theorem c_X3_init_X3 (l : Launch) (D : va_G) (k : Nat → ClassId) (h0 : Nat) : CV l yX3_init cX3_init 1 3 52 1 3 D k [(h0, .inr (3, [.null]))] [.ref h0] (S := Nat) (fun (_ : Nat) => True) (fun (q : Nat) => ([(h0, .inr (3, [.ref q]))] : va_W)) := by
  intro sz
  refine mtX (Qc := fun A => va_Qv (S := Nat) (fun (_ : Nat) => True) (fun u t => WX D A ((fun (q : Nat) => ([(h0, .inr (3, [.ref q]))] : va_W)) u) t) A) (free := fun A => A) (by decide) (Nat.le_of_ble_eq_true rfl) ?_
  intro p e s m below meth c ls A hB hl
  obtain ⟨hx, hb, hml, hr, hlocks, hnm, hown, ht, hK, hN, hA, hP, hD, hS⟩ := hB
  have hl : lv_has ls 1 [(0, .ref h0)] := hl
  refine lv_aload_n hx hb dX3_init_0 rfl (lv_at hl 0 rfl) ?_
  refine afterV (wr := []) (xN (fr := 2) (lo := 32) (mc := 1) (ms := 3) (As := []) (rest := []) (wc := [(h0, .inr (3, [.null]))]) (host := "TuneSchool") ⟨hx, hb, hml, hown, ht⟩ (c_X7_init_X3 l D k h0 _) hK hN (hP.sub (ws' := [(h0, .inr (3, [.null]))]) [0] rfl) (hD.sub (ws' := [(h0, .inr (3, [.null]))]) [0] (by decide) rfl) rfl (List.mem_of_getElem? (i := 9) rfl) q2_146 q1_10 q2_147 md_X7_init ⟨by decide, by decide⟩ rfl hl.1 rfl (Nat.le_of_ble_eq_true rfl) dX3_init_1 ⟨by decide, by decide⟩) hP hD hS hA [0] [] rfl rfl rfl (by decide) (fun u_2 H locs h_3 hP hD hS => ?_)
  refine W.widen (k := 1) (n := 3) (by decide) (by decide) ?_
  have hP : va_P D clsL [(h0, .inr (3, [.ref u_2]))] H := hP
  have hD : va_D A [(h0, .inr (3, [.ref u_2]))] := hD
  refine W.widen (k := 1) (n := 3) (by decide) (by decide) ?_
  have hP9 := hP.sub (ws' := [(h0, .inr (3, [.ref u_2]))]) [0] rfl
  have hD9 := hD.sub (ws' := [(h0, .inr (3, [.ref u_2]))]) [0] (by decide) rfl
  exact W.vret hx hb hr (fun t ht hW => ⟨⟨u_2, rfl, trivial, by rw [ht]; exact hP9, hD9⟩, hS.F ht⟩) hS.2.2 dX3_init_4
set_option maxHeartbeats 400000 in
set_option maxRecDepth 100000 in
theorem c_X11_newRule (l : Launch) (D : va_G) (k : Nat → ClassId) (p0 : Int32) : CR l yX11_newRule cX11_newRule 1 (some (.object "TuneSchool$Rule")) 6 112 2 4 D k [] [.int p0] (S := Nat × Nat) (fun (u : Nat × Nat) => u.1 = 0 ∨ u.1 = 2 ∨ u.1 = 3 ∨ u.1 = 6) (fun (u : Nat × Nat) (a : Nat) => ([(a, .inr (u.1, [.ref u.2]))] : va_W)) := by
  intro sz
  refine mtX (Qc := fun A => va_Qr (S := Nat × Nat) (fun (u : Nat × Nat) => u.1 = 0 ∨ u.1 = 2 ∨ u.1 = 3 ∨ u.1 = 6) (fun u a t => WX D A ((fun (u : Nat × Nat) (a : Nat) => ([(a, .inr (u.1, [.ref u.2]))] : va_W)) u a) t) A) (free := fun A => A) (by decide) (Nat.le_of_ble_eq_true rfl) ?_
  intro p e s m below meth c ls A hB hl
  obtain ⟨hx, hb, hml, hr, hlocks, hnm, hown, ht, hK, hN, hA, hP, hD, hS⟩ := hB
  have hl : lv_has ls 1 [(0, .int p0)] := hl
  refine lv_iload_n hx hb dX11_newRule_0 rfl (lv_at hl 0 rfl) ?_
  rcases (show (p0.toInt < 1 ∨ 3 < p0.toInt) ∨ p0.toInt = 1 ∨ p0.toInt = 2 ∨ p0.toInt = 3 by omega) with c_1 | c_1 | c_1 | c_1
  · skip
    refine lv_tableOut (tgt := 52) hx hb dX11_newRule_1 c_1 (by decide) ?_
    refine va_new (ci := 2) (fs := [.null]) (C := "TuneSchool$Interval") (T := TX2) (N := 1) hx hb ht iX2 tyX2 tyX2_ok hown (ht _ q2_173) (ht _ q2_174) (ht _ q1_11) hK hP hD hS hA rfl (fun j hj => by rcases (show j = 0 by omega) with rfl <;> rfl) (by decide) (by decide) dX11_newRule_52 (fun q_2 H hP hD hS => ?_)
    refine W.widen (k := 1) (n := 1) (by decide) (by decide) ?_
    have hP : va_P D clsL [(q_2, .inr (2, [.null]))] H := hP
    have hD : va_D A [(q_2, .inr (2, [.null]))] := hD
    refine lv_dup hx hb dX11_newRule_55 rfl ?_
    refine afterV (wr := []) (xN (fr := 3) (lo := 52) (mc := 1) (ms := 3) (As := []) (rest := [.ref q_2]) (wc := [(q_2, .inr (2, [.null]))]) (host := "TuneSchool") ⟨hx, hb, hml, hown, ht⟩ (c_X2_init_X2 l D k q_2 _) hK hN (hP.sub (ws' := [(q_2, .inr (2, [.null]))]) [0] rfl) (hD.sub (ws' := [(q_2, .inr (2, [.null]))]) [0] (by decide) rfl) rfl (List.mem_of_getElem? (i := 12) rfl) q2_143 q1_11 q2_144 md_X2_init ⟨by decide, by decide⟩ rfl hl.1 rfl (Nat.le_of_ble_eq_true rfl) dX11_newRule_56 ⟨by decide, by decide⟩) hP hD hS hA [0] [] rfl rfl rfl (by decide) (fun u_4 H locs h_5 hP hD hS => ?_)
    refine W.widen (k := 2) (n := 4) (by decide) (by decide) ?_
    have hP : va_P D clsL [(q_2, .inr (2, [.ref u_4]))] H := hP
    have hD : va_D A [(q_2, .inr (2, [.ref u_4]))] := hD
    refine W.widen (k := 2) (n := 4) (by decide) (by decide) ?_
    have hP9 := hP.sub (ws' := [(q_2, .inr (2, [.ref u_4]))]) [0] rfl
    have hD9 := hD.sub (ws' := [(q_2, .inr (2, [.ref u_4]))]) [0] (by decide) rfl
    exact W.aret (v := .ref q_2) (rt := .object "TuneSchool$Rule") hx hb hr (Or.inl ⟨_, rfl⟩) (Or.inr ⟨_, rfl⟩) (fun t ht hW => ⟨⟨(2, u_4), q_2, rfl, (by show (2 : Nat) = 0 ∨ (2 : Nat) = 2 ∨ (2 : Nat) = 3 ∨ (2 : Nat) = 6; decide), by rw [ht]; exact hP9, hD9⟩, hS.F ht⟩) hS.2.2 dX11_newRule_59
  · skip
    obtain rfl : p0 = 1 := eqI (by decide) c_1
    refine lv_tableIn (off := 27) (tgt := 28) hx hb dX11_newRule_1 (by decide) (by decide) (by decide) (by decide) ?_
    refine va_new (ci := 6) (fs := [.null]) (C := "TuneSchool$Motion") (T := TX6) (N := 1) hx hb ht iX6 tyX6 tyX6_ok hown (ht _ q2_137) (ht _ q2_138) (ht _ q1_12) hK hP hD hS hA rfl (fun j hj => by rcases (show j = 0 by omega) with rfl <;> rfl) (by decide) (by decide) dX11_newRule_28 (fun q_6 H hP hD hS => ?_)
    refine W.widen (k := 1) (n := 1) (by decide) (by decide) ?_
    have hP : va_P D clsL [(q_6, .inr (6, [.null]))] H := hP
    have hD : va_D A [(q_6, .inr (6, [.null]))] := hD
    refine lv_dup hx hb dX11_newRule_31 rfl ?_
    refine afterV (wr := []) (xN (fr := 4) (lo := 72) (mc := 1) (ms := 3) (As := []) (rest := [.ref q_6]) (wc := [(q_6, .inr (6, [.null]))]) (host := "TuneSchool") ⟨hx, hb, hml, hown, ht⟩ (c_X6_init_X6 l D k q_6 _) hK hN (hP.sub (ws' := [(q_6, .inr (6, [.null]))]) [0] rfl) (hD.sub (ws' := [(q_6, .inr (6, [.null]))]) [0] (by decide) rfl) rfl (List.mem_of_getElem? (i := 4) rfl) q2_140 q1_12 q2_141 md_X6_init ⟨by decide, by decide⟩ rfl hl.1 rfl (Nat.le_of_ble_eq_true rfl) dX11_newRule_32 ⟨by decide, by decide⟩) hP hD hS hA [0] [] rfl rfl rfl (by decide) (fun u_8 H locs h_9 hP hD hS => ?_)
    refine W.widen (k := 2) (n := 4) (by decide) (by decide) ?_
    have hP : va_P D clsL [(q_6, .inr (6, [.ref u_8]))] H := hP
    have hD : va_D A [(q_6, .inr (6, [.ref u_8]))] := hD
    refine W.widen (k := 2) (n := 4) (by decide) (by decide) ?_
    have hP9 := hP.sub (ws' := [(q_6, .inr (6, [.ref u_8]))]) [0] rfl
    have hD9 := hD.sub (ws' := [(q_6, .inr (6, [.ref u_8]))]) [0] (by decide) rfl
    exact W.aret (v := .ref q_6) (rt := .object "TuneSchool$Rule") hx hb hr (Or.inl ⟨_, rfl⟩) (Or.inr ⟨_, rfl⟩) (fun t ht hW => ⟨⟨(6, u_8), q_6, rfl, (by show (6 : Nat) = 0 ∨ (6 : Nat) = 2 ∨ (6 : Nat) = 3 ∨ (6 : Nat) = 6; decide), by rw [ht]; exact hP9, hD9⟩, hS.F ht⟩) hS.2.2 dX11_newRule_35
  · skip
    obtain rfl : p0 = 2 := eqI (by decide) c_1
    refine lv_tableIn (off := 35) (tgt := 36) hx hb dX11_newRule_1 (by decide) (by decide) (by decide) (by decide) ?_
    refine va_new (ci := 3) (fs := [.null]) (C := "TuneSchool$Leap") (T := TX3) (N := 1) hx hb ht iX3 tyX3 tyX3_ok hown (ht _ q2_157) (ht _ q2_158) (ht _ q1_13) hK hP hD hS hA rfl (fun j hj => by rcases (show j = 0 by omega) with rfl <;> rfl) (by decide) (by decide) dX11_newRule_36 (fun q_10 H hP hD hS => ?_)
    refine W.widen (k := 1) (n := 1) (by decide) (by decide) ?_
    have hP : va_P D clsL [(q_10, .inr (3, [.null]))] H := hP
    have hD : va_D A [(q_10, .inr (3, [.null]))] := hD
    refine lv_dup hx hb dX11_newRule_39 rfl ?_
    refine afterV (wr := []) (xN (fr := 3) (lo := 52) (mc := 1) (ms := 3) (As := []) (rest := [.ref q_10]) (wc := [(q_10, .inr (3, [.null]))]) (host := "TuneSchool") ⟨hx, hb, hml, hown, ht⟩ (c_X3_init_X3 l D k q_10 _) hK hN (hP.sub (ws' := [(q_10, .inr (3, [.null]))]) [0] rfl) (hD.sub (ws' := [(q_10, .inr (3, [.null]))]) [0] (by decide) rfl) rfl (List.mem_of_getElem? (i := 8) rfl) q2_160 q1_13 q2_161 md_X3_init ⟨by decide, by decide⟩ rfl hl.1 rfl (Nat.le_of_ble_eq_true rfl) dX11_newRule_40 ⟨by decide, by decide⟩) hP hD hS hA [0] [] rfl rfl rfl (by decide) (fun u_12 H locs h_13 hP hD hS => ?_)
    refine W.widen (k := 2) (n := 4) (by decide) (by decide) ?_
    have hP : va_P D clsL [(q_10, .inr (3, [.ref u_12]))] H := hP
    have hD : va_D A [(q_10, .inr (3, [.ref u_12]))] := hD
    refine W.widen (k := 2) (n := 4) (by decide) (by decide) ?_
    have hP9 := hP.sub (ws' := [(q_10, .inr (3, [.ref u_12]))]) [0] rfl
    have hD9 := hD.sub (ws' := [(q_10, .inr (3, [.ref u_12]))]) [0] (by decide) rfl
    exact W.aret (v := .ref q_10) (rt := .object "TuneSchool$Rule") hx hb hr (Or.inl ⟨_, rfl⟩) (Or.inr ⟨_, rfl⟩) (fun t ht hW => ⟨⟨(3, u_12), q_10, rfl, (by show (3 : Nat) = 0 ∨ (3 : Nat) = 2 ∨ (3 : Nat) = 3 ∨ (3 : Nat) = 6; decide), by rw [ht]; exact hP9, hD9⟩, hS.F ht⟩) hS.2.2 dX11_newRule_43
  · skip
    obtain rfl : p0 = 3 := eqI (by decide) c_1
    refine lv_tableIn (off := 43) (tgt := 44) hx hb dX11_newRule_1 (by decide) (by decide) (by decide) (by decide) ?_
    refine va_new (ci := 0) (fs := [.null]) (C := "TuneSchool$Cadence") (T := TX0) (N := 1) hx hb ht iX0 tyX0 tyX0_ok hown (ht _ q2_165) (ht _ q2_166) (ht _ q1_14) hK hP hD hS hA rfl (fun j hj => by rcases (show j = 0 by omega) with rfl <;> rfl) (by decide) (by decide) dX11_newRule_44 (fun q_14 H hP hD hS => ?_)
    refine W.widen (k := 1) (n := 1) (by decide) (by decide) ?_
    have hP : va_P D clsL [(q_14, .inr (0, [.null]))] H := hP
    have hD : va_D A [(q_14, .inr (0, [.null]))] := hD
    refine lv_dup hx hb dX11_newRule_47 rfl ?_
    refine afterV (wr := []) (xN (fr := 5) (lo := 92) (mc := 1) (ms := 3) (As := []) (rest := [.ref q_14]) (wc := [(q_14, .inr (0, [.null]))]) (host := "TuneSchool") ⟨hx, hb, hml, hown, ht⟩ (c_X0_init_X0 l D k q_14 _) hK hN (hP.sub (ws' := [(q_14, .inr (0, [.null]))]) [0] rfl) (hD.sub (ws' := [(q_14, .inr (0, [.null]))]) [0] (by decide) rfl) rfl (List.mem_of_getElem? (i := 10) rfl) q2_168 q1_14 q2_169 md_X0_init ⟨by decide, by decide⟩ rfl hl.1 rfl (Nat.le_of_ble_eq_true rfl) dX11_newRule_48 ⟨by decide, by decide⟩) hP hD hS hA [0] [] rfl rfl rfl (by decide) (fun u_16 H locs h_17 hP hD hS => ?_)
    refine W.widen (k := 2) (n := 4) (by decide) (by decide) ?_
    have hP : va_P D clsL [(q_14, .inr (0, [.ref u_16]))] H := hP
    have hD : va_D A [(q_14, .inr (0, [.ref u_16]))] := hD
    refine W.widen (k := 2) (n := 4) (by decide) (by decide) ?_
    have hP9 := hP.sub (ws' := [(q_14, .inr (0, [.ref u_16]))]) [0] rfl
    have hD9 := hD.sub (ws' := [(q_14, .inr (0, [.ref u_16]))]) [0] (by decide) rfl
    exact W.aret (v := .ref q_14) (rt := .object "TuneSchool$Rule") hx hb hr (Or.inl ⟨_, rfl⟩) (Or.inr ⟨_, rfl⟩) (fun t ht hW => ⟨⟨(0, u_16), q_14, rfl, (by show (0 : Nat) = 0 ∨ (0 : Nat) = 2 ∨ (0 : Nat) = 3 ∨ (0 : Nat) = 6; decide), by rw [ht]; exact hP9, hD9⟩, hS.F ht⟩) hS.2.2 dX11_newRule_51
set_option maxHeartbeats 400000 in
set_option maxRecDepth 100000 in
theorem c_X11_rule (l : Launch) (D : va_G) (k : Nat → ClassId) (h0 : Nat) (r : Nat → Nat) (p0 p1 : Int32)  : CI l yX11_rule cX11_rule 3 (some .int) 7 132 2 4 D k [(h0, .inr (9, oX11 r f9)), ((r 4), .inl (k 4, 16, .inr (.inr (.inr (.inr (fun _ => none))))))] [.ref h0, .int p0, .int p1] (S := Unit) (fun (r : Int32) (_ : Unit) => r = an_rule p0 p1) (fun _ => ([] : va_W)) := by
  intro sz
  refine mtX (Qc := fun A => va_Qi (S := Unit) (fun (r : Int32) (_ : Unit) => r = an_rule p0 p1) (fun u t => WX D A ((fun _ => ([] : va_W)) u) t) A) (free := fun A => A) (by decide) (Nat.le_of_ble_eq_true rfl) ?_
  intro p e s m below meth c ls A hB hl
  obtain ⟨hx, hb, hml, hr, hlocks, hnm, hown, ht, hK, hN, hA, hP, hD, hS⟩ := hB
  have hl : lv_has ls 3 [(0, .ref h0), (1, .int p0), (2, .int p1)] := hl
  refine lv_iload_n hx hb dX11_rule_0 rfl (lv_at hl 1 rfl) ?_
  refine afterP (xS (fr := 0) (lo := 0) (mc := 0) (ms := 0) (As := [.int p0]) (rest := []) (wc := []) ⟨hx, hb, hml, hown, ht⟩ (c_X11_isPlace l D k p0 _) hK hN nilP (nilD (A := A)) q2_131 q2_132 q1_1 q2_133 md_X11_isPlace ⟨by decide, by decide⟩ rfl hl.1 rfl (Nat.le_of_ble_eq_true rfl) dX11_rule_1 ⟨by decide, by decide⟩) (fun r_1 h_2 => ?_)
  rcases h_2 with ⟨rfl, h_2⟩ | ⟨rfl, h_2⟩
  · skip
    refine lv_if_eq (tgt := 16) hx hb dX11_rule_4 (by decide) (fun c_ => absurd c_ (by decide)) (fun _ => ?_)
    refine lv_iload_n hx hb dX11_rule_7 rfl (lv_at hl 2 rfl) ?_
    refine lv_iconst (v := 0) hx hb dX11_rule_8 (by decide) ?_
    refine lv_iconst (v := 3) hx hb dX11_rule_9 (by decide) ?_
    refine afterP (xS (fr := 0) (lo := 0) (mc := 0) (ms := 0) (As := [.int p1, .int 0, .int 3]) (rest := []) (wc := []) ⟨hx, hb, hml, hown, ht⟩ (c_X11_isWithin l D k p1 0 3 0 3 (by decide) (by decide) _) hK hN nilP (nilD (A := A)) q2_60 q2_61 q1_1 q2_62 md_X11_isWithin ⟨by decide, by decide⟩ rfl hl.1 rfl (Nat.le_of_ble_eq_true rfl) dX11_rule_10 ⟨by decide, by decide⟩) (fun r_3 h_4 => ?_)
    rcases h_4 with ⟨rfl, h_4⟩ | ⟨rfl, h_4⟩
    · skip
      refine lv_if_ne (tgt := 18) hx hb dX11_rule_13 (by decide) (fun _ => ?_) (fun c_ => absurd c_ (by decide))
      refine lv_aload_n hx hb dX11_rule_18 rfl (lv_at hl 0 rfl) ?_
      refine va_get (D := D) (ci := 9) (v := .ref (r 4)) (C := "TuneSchool") (T := TX11) (N := 17) hx hb ht iX11 hown hK hP 0 rfl rfl 4 (by decide) (ht _ q1_211) (fun _ h9 => h9) rfl dX11_rule_19 ?_
      refine lv_iload_n hx hb dX11_rule_22 rfl (lv_at hl 1 rfl) ?_
      refine lv_iload_n hx hb dX11_rule_23 rfl (lv_at hl 2 rfl) ?_
      refine afterR (wr := [(h0, .inr (9, oX11 r f9)), ((r 4), .inl (k 4, 16, .inr (.inr (.inr (.inr (fun _ => none))))))]) (xS (fr := 6) (lo := 112) (mc := 2) (ms := 4) (As := [.int p1]) (rest := [.int p0, .ref (r 4)]) (wc := []) ⟨hx, hb, hml, hown, ht⟩ (c_X11_newRule l D k p1 _) hK hN nilP (nilD (A := A)) q2_134 q2_135 q1_1 q2_136 md_X11_newRule ⟨by decide, by decide⟩ rfl hl.1 rfl (Nat.le_of_ble_eq_true rfl) dX11_rule_24 ⟨by decide, by decide⟩) hP hD hS hA [] [0, 1] rfl rfl rfl (by decide) (fun u_6 r_5 H locs h_7 hP hD hS => ?_)
      obtain ⟨ci, qq⟩ := u_6
      have h_7 : ci = 0 ∨ ci = 2 ∨ ci = 3 ∨ ci = 6 := h_7
      rcases h_7 with rfl | rfl | rfl | rfl
      · skip
        refine W.widen (k := 2) (n := 4) (by decide) (by decide) ?_
        have hP : va_P D clsL [(h0, .inr (9, oX11 r f9)), ((r 4), .inl (k 4, 16, .inr (.inr (.inr (.inr (fun _ => none)))))), (r_5, .inr (0, [.ref qq]))] H := hP
        have hD : va_D A [(h0, .inr (9, oX11 r f9)), ((r 4), .inl (k 4, 16, .inr (.inr (.inr (.inr (fun _ => none)))))), (r_5, .inr (0, [.ref qq]))] := hD
        refine va_astqO (D := D) hx hb hK hP hD hS 1 4 2 0 rfl rfl (hN.1 (.castable "TuneSchool$Cadence" "TuneSchool$Standing") (List.mem_of_getElem? (i := 14) rfl)) rfl rfl (vin (by omega) (by omega)) dX11_rule_27 (fun H locs hP hD hS => ?_)
        have hP : va_P D clsL [(h0, .inr (9, oX11 r f9)), ((r 4), .inl (k 4, 16, .inr (.inr (.inr (.inr (va_up (fun _ => none) p0.toNatClampNeg (some r_5))))))), (r_5, .inr (0, [.ref qq]))] H := hP
        have hD : va_D A [(h0, .inr (9, oX11 r f9)), ((r 4), .inl (k 4, 16, .inr (.inr (.inr (.inr (va_up (fun _ => none) p0.toNatClampNeg (some r_5))))))), (r_5, .inr (0, [.ref qq]))] := hD
        refine lv_aload_n hx hb dX11_rule_28 rfl (lv_at hl 0 rfl) ?_
        refine lv_iconst (v := 1) hx hb dX11_rule_29 (by decide) ?_
        refine afterI (wr := [((r 4), .inl (k 4, 16, .inr (.inr (.inr (.inr (va_up (fun _ => none) p0.toNatClampNeg (some r_5))))))), (r_5, .inr (0, [.ref qq]))]) (xV (fr := 0) (lo := 0) (mc := 0) (ms := 0) (As := [.int 1]) (rest := []) (wc := [(h0, .inr (9, oX11 r f9))]) ⟨hx, hb, hml, hown, ht⟩ (c_X11_fine l D k h0 r f9 1 _) hK hN (hP.sub (ws' := [(h0, .inr (9, oX11 r f9))]) [0] rfl) (hD.sub (ws' := [(h0, .inr (9, oX11 r f9))]) [0] (by decide) rfl) 9 0 rfl rfl rfl q2_48 q2_50 qs_2 q1_1 q2_51 md_X11_fine ⟨by decide, by decide⟩ rfl hl.1 rfl (Nat.le_of_ble_eq_true rfl) dX11_rule_30 ⟨by decide, by decide⟩) hP hD hS hA [0] [1, 2] rfl rfl rfl (by decide) (fun r_8 u_9 H locs h_10 hP hD hS => ?_)
        obtain rfl : r_8 = 1 := h_10.trans (by decide)
        have hP : va_P D clsL [((r 4), .inl (k 4, 16, .inr (.inr (.inr (.inr (va_up (fun _ => none) p0.toNatClampNeg (some r_5))))))), (r_5, .inr (0, [.ref qq]))] H := hP
        have hD : va_D A [((r 4), .inl (k 4, 16, .inr (.inr (.inr (.inr (va_up (fun _ => none) p0.toNatClampNeg (some r_5))))))), (r_5, .inr (0, [.ref qq]))] := hD
        refine W.widen (k := 2) (n := 4) (by decide) (by decide) ?_
        exact W.iret (v := 1) hx hb hr (fun t ht hW => ⟨⟨1, (), rfl, (by first | (unfold an_rule; (repeat' split) <;> first | rfl | (exfalso; omega)) | rfl | decide), nilP, nilD⟩, hS.F ht⟩) hS.2.2 dX11_rule_33
      · skip
        refine W.widen (k := 2) (n := 4) (by decide) (by decide) ?_
        have hP : va_P D clsL [(h0, .inr (9, oX11 r f9)), ((r 4), .inl (k 4, 16, .inr (.inr (.inr (.inr (fun _ => none)))))), (r_5, .inr (2, [.ref qq]))] H := hP
        have hD : va_D A [(h0, .inr (9, oX11 r f9)), ((r 4), .inl (k 4, 16, .inr (.inr (.inr (.inr (fun _ => none)))))), (r_5, .inr (2, [.ref qq]))] := hD
        refine va_astqO (D := D) hx hb hK hP hD hS 1 4 2 2 rfl rfl (hN.1 (.castable "TuneSchool$Interval" "TuneSchool$Standing") (List.mem_of_getElem? (i := 15) rfl)) rfl rfl (vin (by omega) (by omega)) dX11_rule_27 (fun H locs hP hD hS => ?_)
        have hP : va_P D clsL [(h0, .inr (9, oX11 r f9)), ((r 4), .inl (k 4, 16, .inr (.inr (.inr (.inr (va_up (fun _ => none) p0.toNatClampNeg (some r_5))))))), (r_5, .inr (2, [.ref qq]))] H := hP
        have hD : va_D A [(h0, .inr (9, oX11 r f9)), ((r 4), .inl (k 4, 16, .inr (.inr (.inr (.inr (va_up (fun _ => none) p0.toNatClampNeg (some r_5))))))), (r_5, .inr (2, [.ref qq]))] := hD
        refine lv_aload_n hx hb dX11_rule_28 rfl (lv_at hl 0 rfl) ?_
        refine lv_iconst (v := 1) hx hb dX11_rule_29 (by decide) ?_
        refine afterI (wr := [((r 4), .inl (k 4, 16, .inr (.inr (.inr (.inr (va_up (fun _ => none) p0.toNatClampNeg (some r_5))))))), (r_5, .inr (2, [.ref qq]))]) (xV (fr := 0) (lo := 0) (mc := 0) (ms := 0) (As := [.int 1]) (rest := []) (wc := [(h0, .inr (9, oX11 r f9))]) ⟨hx, hb, hml, hown, ht⟩ (c_X11_fine l D k h0 r f9 1 _) hK hN (hP.sub (ws' := [(h0, .inr (9, oX11 r f9))]) [0] rfl) (hD.sub (ws' := [(h0, .inr (9, oX11 r f9))]) [0] (by decide) rfl) 9 0 rfl rfl rfl q2_48 q2_50 qs_2 q1_1 q2_51 md_X11_fine ⟨by decide, by decide⟩ rfl hl.1 rfl (Nat.le_of_ble_eq_true rfl) dX11_rule_30 ⟨by decide, by decide⟩) hP hD hS hA [0] [1, 2] rfl rfl rfl (by decide) (fun r_11 u_12 H locs h_13 hP hD hS => ?_)
        obtain rfl : r_11 = 1 := h_13.trans (by decide)
        have hP : va_P D clsL [((r 4), .inl (k 4, 16, .inr (.inr (.inr (.inr (va_up (fun _ => none) p0.toNatClampNeg (some r_5))))))), (r_5, .inr (2, [.ref qq]))] H := hP
        have hD : va_D A [((r 4), .inl (k 4, 16, .inr (.inr (.inr (.inr (va_up (fun _ => none) p0.toNatClampNeg (some r_5))))))), (r_5, .inr (2, [.ref qq]))] := hD
        refine W.widen (k := 2) (n := 4) (by decide) (by decide) ?_
        exact W.iret (v := 1) hx hb hr (fun t ht hW => ⟨⟨1, (), rfl, (by first | (unfold an_rule; (repeat' split) <;> first | rfl | (exfalso; omega)) | rfl | decide), nilP, nilD⟩, hS.F ht⟩) hS.2.2 dX11_rule_33
      · skip
        refine W.widen (k := 2) (n := 4) (by decide) (by decide) ?_
        have hP : va_P D clsL [(h0, .inr (9, oX11 r f9)), ((r 4), .inl (k 4, 16, .inr (.inr (.inr (.inr (fun _ => none)))))), (r_5, .inr (3, [.ref qq]))] H := hP
        have hD : va_D A [(h0, .inr (9, oX11 r f9)), ((r 4), .inl (k 4, 16, .inr (.inr (.inr (.inr (fun _ => none)))))), (r_5, .inr (3, [.ref qq]))] := hD
        refine va_astqO (D := D) hx hb hK hP hD hS 1 4 2 3 rfl rfl (hN.1 (.castable "TuneSchool$Leap" "TuneSchool$Standing") (List.mem_of_getElem? (i := 16) rfl)) rfl rfl (vin (by omega) (by omega)) dX11_rule_27 (fun H locs hP hD hS => ?_)
        have hP : va_P D clsL [(h0, .inr (9, oX11 r f9)), ((r 4), .inl (k 4, 16, .inr (.inr (.inr (.inr (va_up (fun _ => none) p0.toNatClampNeg (some r_5))))))), (r_5, .inr (3, [.ref qq]))] H := hP
        have hD : va_D A [(h0, .inr (9, oX11 r f9)), ((r 4), .inl (k 4, 16, .inr (.inr (.inr (.inr (va_up (fun _ => none) p0.toNatClampNeg (some r_5))))))), (r_5, .inr (3, [.ref qq]))] := hD
        refine lv_aload_n hx hb dX11_rule_28 rfl (lv_at hl 0 rfl) ?_
        refine lv_iconst (v := 1) hx hb dX11_rule_29 (by decide) ?_
        refine afterI (wr := [((r 4), .inl (k 4, 16, .inr (.inr (.inr (.inr (va_up (fun _ => none) p0.toNatClampNeg (some r_5))))))), (r_5, .inr (3, [.ref qq]))]) (xV (fr := 0) (lo := 0) (mc := 0) (ms := 0) (As := [.int 1]) (rest := []) (wc := [(h0, .inr (9, oX11 r f9))]) ⟨hx, hb, hml, hown, ht⟩ (c_X11_fine l D k h0 r f9 1 _) hK hN (hP.sub (ws' := [(h0, .inr (9, oX11 r f9))]) [0] rfl) (hD.sub (ws' := [(h0, .inr (9, oX11 r f9))]) [0] (by decide) rfl) 9 0 rfl rfl rfl q2_48 q2_50 qs_2 q1_1 q2_51 md_X11_fine ⟨by decide, by decide⟩ rfl hl.1 rfl (Nat.le_of_ble_eq_true rfl) dX11_rule_30 ⟨by decide, by decide⟩) hP hD hS hA [0] [1, 2] rfl rfl rfl (by decide) (fun r_14 u_15 H locs h_16 hP hD hS => ?_)
        obtain rfl : r_14 = 1 := h_16.trans (by decide)
        have hP : va_P D clsL [((r 4), .inl (k 4, 16, .inr (.inr (.inr (.inr (va_up (fun _ => none) p0.toNatClampNeg (some r_5))))))), (r_5, .inr (3, [.ref qq]))] H := hP
        have hD : va_D A [((r 4), .inl (k 4, 16, .inr (.inr (.inr (.inr (va_up (fun _ => none) p0.toNatClampNeg (some r_5))))))), (r_5, .inr (3, [.ref qq]))] := hD
        refine W.widen (k := 2) (n := 4) (by decide) (by decide) ?_
        exact W.iret (v := 1) hx hb hr (fun t ht hW => ⟨⟨1, (), rfl, (by first | (unfold an_rule; (repeat' split) <;> first | rfl | (exfalso; omega)) | rfl | decide), nilP, nilD⟩, hS.F ht⟩) hS.2.2 dX11_rule_33
      · skip
        refine W.widen (k := 2) (n := 4) (by decide) (by decide) ?_
        have hP : va_P D clsL [(h0, .inr (9, oX11 r f9)), ((r 4), .inl (k 4, 16, .inr (.inr (.inr (.inr (fun _ => none)))))), (r_5, .inr (6, [.ref qq]))] H := hP
        have hD : va_D A [(h0, .inr (9, oX11 r f9)), ((r 4), .inl (k 4, 16, .inr (.inr (.inr (.inr (fun _ => none)))))), (r_5, .inr (6, [.ref qq]))] := hD
        refine va_astqO (D := D) hx hb hK hP hD hS 1 4 2 6 rfl rfl (hN.1 (.castable "TuneSchool$Motion" "TuneSchool$Standing") (List.mem_of_getElem? (i := 17) rfl)) rfl rfl (vin (by omega) (by omega)) dX11_rule_27 (fun H locs hP hD hS => ?_)
        have hP : va_P D clsL [(h0, .inr (9, oX11 r f9)), ((r 4), .inl (k 4, 16, .inr (.inr (.inr (.inr (va_up (fun _ => none) p0.toNatClampNeg (some r_5))))))), (r_5, .inr (6, [.ref qq]))] H := hP
        have hD : va_D A [(h0, .inr (9, oX11 r f9)), ((r 4), .inl (k 4, 16, .inr (.inr (.inr (.inr (va_up (fun _ => none) p0.toNatClampNeg (some r_5))))))), (r_5, .inr (6, [.ref qq]))] := hD
        refine lv_aload_n hx hb dX11_rule_28 rfl (lv_at hl 0 rfl) ?_
        refine lv_iconst (v := 1) hx hb dX11_rule_29 (by decide) ?_
        refine afterI (wr := [((r 4), .inl (k 4, 16, .inr (.inr (.inr (.inr (va_up (fun _ => none) p0.toNatClampNeg (some r_5))))))), (r_5, .inr (6, [.ref qq]))]) (xV (fr := 0) (lo := 0) (mc := 0) (ms := 0) (As := [.int 1]) (rest := []) (wc := [(h0, .inr (9, oX11 r f9))]) ⟨hx, hb, hml, hown, ht⟩ (c_X11_fine l D k h0 r f9 1 _) hK hN (hP.sub (ws' := [(h0, .inr (9, oX11 r f9))]) [0] rfl) (hD.sub (ws' := [(h0, .inr (9, oX11 r f9))]) [0] (by decide) rfl) 9 0 rfl rfl rfl q2_48 q2_50 qs_2 q1_1 q2_51 md_X11_fine ⟨by decide, by decide⟩ rfl hl.1 rfl (Nat.le_of_ble_eq_true rfl) dX11_rule_30 ⟨by decide, by decide⟩) hP hD hS hA [0] [1, 2] rfl rfl rfl (by decide) (fun r_17 u_18 H locs h_19 hP hD hS => ?_)
        obtain rfl : r_17 = 1 := h_19.trans (by decide)
        have hP : va_P D clsL [((r 4), .inl (k 4, 16, .inr (.inr (.inr (.inr (va_up (fun _ => none) p0.toNatClampNeg (some r_5))))))), (r_5, .inr (6, [.ref qq]))] H := hP
        have hD : va_D A [((r 4), .inl (k 4, 16, .inr (.inr (.inr (.inr (va_up (fun _ => none) p0.toNatClampNeg (some r_5))))))), (r_5, .inr (6, [.ref qq]))] := hD
        refine W.widen (k := 2) (n := 4) (by decide) (by decide) ?_
        exact W.iret (v := 1) hx hb hr (fun t ht hW => ⟨⟨1, (), rfl, (by first | (unfold an_rule; (repeat' split) <;> first | rfl | (exfalso; omega)) | rfl | decide), nilP, nilD⟩, hS.F ht⟩) hS.2.2 dX11_rule_33
    · skip
      refine lv_if_ne (tgt := 18) hx hb dX11_rule_13 (by decide) (fun c_ => absurd c_ (by decide)) (fun _ => ?_)
      refine lv_iconst (v := (-1)) hx hb dX11_rule_16 (by decide) ?_
      refine W.widen (k := 2) (n := 4) (by decide) (by decide) ?_
      exact W.iret (v := (-1)) hx hb hr (fun t ht hW => ⟨⟨(-1), (), rfl, (by first | (unfold an_rule; (repeat' split) <;> first | rfl | (exfalso; omega)) | rfl | decide), nilP, nilD⟩, hS.F ht⟩) hS.2.2 dX11_rule_17
  · skip
    refine lv_if_eq (tgt := 16) hx hb dX11_rule_4 (by decide) (fun _ => ?_) (fun c_ => absurd c_ (by decide))
    refine lv_iconst (v := (-1)) hx hb dX11_rule_16 (by decide) ?_
    refine W.widen (k := 2) (n := 4) (by decide) (by decide) ?_
    exact W.iret (v := (-1)) hx hb hr (fun t ht hW => ⟨⟨(-1), (), rfl, (by first | (unfold an_rule; (repeat' split) <;> first | rfl | (exfalso; omega)) | rfl | decide), nilP, nilD⟩, hS.F ht⟩) hS.2.2 dX11_rule_17
set_option maxHeartbeats 400000 in
set_option maxRecDepth 100000 in
theorem c_X8_init (l : Launch) (D : va_G) (k : Nat → ClassId) (h0 : Nat) (p0 p1 : Int32) (hn0 : 0 ≤ p1.toInt) (hn8 : p1.toInt ≤ 8) : CV l yX8_init cX8_init 3 2 32 1 8 D k [(h0, .inr (7, [.int 0, .null]))] [.ref h0, .int p0, .int p1] (S := Nat) (fun (_ : Nat) => True) (fun (q : Nat) => ([(h0, .inr (7, [.int p0, .ref q]))] : va_W)) := by
  intro sz
  refine mtX (Qc := fun A => va_Qv (S := Nat) (fun (_ : Nat) => True) (fun u t => WX D A ((fun (q : Nat) => ([(h0, .inr (7, [.int p0, .ref q]))] : va_W)) u) t) A) (free := fun A => A) (by decide) (Nat.le_of_ble_eq_true rfl) ?_
  intro p e s m below meth c ls A hB hl
  obtain ⟨hx, hb, hml, hr, hlocks, hnm, hown, ht, hK, hN, hA, hP, hD, hS⟩ := hB
  have hl : lv_has ls 3 [(0, .ref h0), (1, .int p0), (2, .int p1)] := hl
  refine lv_aload_n hx hb dX8_init_0 rfl (lv_at hl 0 rfl) ?_
  refine afterV (wr := [(h0, .inr (7, [.int 0, .null]))]) (xN (fr := 1) (lo := 12) (mc := 0) (ms := 0) (As := []) (rest := []) (wc := []) (host := "TuneSchool") ⟨hx, hb, hml, hown, ht⟩ (c_X9_init l D k h0 _) hK hN nilP (nilD (A := A)) rfl (List.mem_of_getElem? (i := 13) rfl) q2_149 q1_9 q2_150 md_X9_init ⟨by decide, by decide⟩ rfl hl.1 rfl (Nat.le_of_ble_eq_true rfl) dX8_init_1 ⟨by decide, by decide⟩) hP hD hS hA [] [0] rfl rfl rfl (by decide) (fun u_2 H locs h_3 hP hD hS => ?_)
  have hP : va_P D clsL [(h0, .inr (7, [.int 0, .null]))] H := hP
  have hD : va_D A [(h0, .inr (7, [.int 0, .null]))] := hD
  refine lv_aload_n hx hb dX8_init_4 rfl (lv_at hl 0 rfl) ?_
  refine lv_iload_n hx hb dX8_init_5 rfl (lv_at hl 1 rfl) ?_
  refine va_putF (D := D) (ci := 7) (v := .int p0) (ty := .int) (C := "TuneSchool$School") (T := TX8) (N := 2) hx hb ht iX8 tyX8 tyX8_ok nmX8 hown hK hP hD hS 0 rfl rfl 0 (by decide) (ht _ q2_189) (fun _ h9 => h9) rfl hnm rfl (by decide +kernel) rfl rfl (Nat.le_of_ble_eq_true rfl) dX8_init_6 (fun H locs hP hD hS => ?_)
  have hP : va_P D clsL [(h0, .inr (7, [.int p0, .null]))] H := hP
  have hD : va_D A [(h0, .inr (7, [.int p0, .null]))] := hD
  refine lv_aload_n hx hb dX8_init_9 rfl (lv_at hl 0 rfl) ?_
  refine lv_iload_n hx hb dX8_init_10 rfl (lv_at hl 2 rfl) ?_
  refine newQ (N' := p1.toNatClampNeg) 5 hx hb hown (ht _ q2_188) hN.2.2.2.1 hK rfl hP hD hS hA (fun q_ => by have := i_lt (a := p1.toInt) (b := 0) rfl (by decide) q_; omega) rfl (by have : p1.toNatClampNeg = p1.toInt.toNat := rfl; omega) (by decide) (by show 0 + p1.toNatClampNeg ≤ 8; have : p1.toNatClampNeg = p1.toInt.toNat := rfl; omega) dX8_init_11 (fun q_4 H hP hD hS => ?_)
  refine W.widen (k := 1) (n := 8) (by decide) (by show 0 + p1.toNatClampNeg ≤ 8; have : p1.toNatClampNeg = p1.toInt.toNat := rfl; omega) ?_
  have hP : va_P D clsL [(h0, .inr (7, [.int p0, .null])), (q_4, .inl (k 5, p1.toNatClampNeg, .inr (.inr (.inr (.inr (fun _ => none))))))] H := hP
  have hD : va_D A [(h0, .inr (7, [.int p0, .null])), (q_4, .inl (k 5, p1.toNatClampNeg, .inr (.inr (.inr (.inr (fun _ => none))))))] := hD
  refine va_putF (D := D) (ci := 7) (v := .ref q_4) (ty := .array (.object "TuneSchool$Rule")) (C := "TuneSchool$School") (T := TX8) (N := 2) hx hb ht iX8 tyX8 tyX8_ok nmX8 hown hK hP hD hS 0 rfl rfl 1 (by decide) (ht _ q2_190) (fun _ h9 => h9) rfl hnm rfl (by decide +kernel) rfl rfl (Nat.le_of_ble_eq_true rfl) dX8_init_14 (fun H locs hP hD hS => ?_)
  have hP : va_P D clsL [(h0, .inr (7, [.int p0, .ref q_4])), (q_4, .inl (k 5, p1.toNatClampNeg, .inr (.inr (.inr (.inr (fun _ => none))))))] H := hP
  have hD : va_D A [(h0, .inr (7, [.int p0, .ref q_4])), (q_4, .inl (k 5, p1.toNatClampNeg, .inr (.inr (.inr (.inr (fun _ => none))))))] := hD
  have hP9 := hP.sub (ws' := [(h0, .inr (7, [.int p0, .ref q_4]))]) [0] rfl
  have hD9 := hD.sub (ws' := [(h0, .inr (7, [.int p0, .ref q_4]))]) [0] (by decide) rfl
  exact W.vret hx hb hr (fun t ht hW => ⟨⟨q_4, rfl, trivial, by rw [ht]; exact hP9, hD9⟩, hS.F ht⟩) hS.2.2 dX8_init_17
set_option maxHeartbeats 400000 in
set_option maxRecDepth 100000 in
theorem c_X11_school (l : Launch) (D : va_G) (k : Nat → ClassId) (h0 : Nat) (r : Nat → Nat) (p0 p1 p2 : Int32)  : CI l yX11_school cX11_school 4 (some .int) 3 54 2 10 D k [(h0, .inr (9, oX11 r f9)), ((r 4), .inl (k 4, 16, .inr (.inr (.inr (.inr (fun _ => none))))))] [.ref h0, .int p0, .int p1, .int p2] (S := Unit) (fun (r : Int32) (_ : Unit) => r = an_school p0 p1 p2) (fun _ => ([] : va_W)) := by
  intro sz
  refine mtX (Qc := fun A => va_Qi (S := Unit) (fun (r : Int32) (_ : Unit) => r = an_school p0 p1 p2) (fun u t => WX D A ((fun _ => ([] : va_W)) u) t) A) (free := fun A => A) (by decide) (Nat.le_of_ble_eq_true rfl) ?_
  intro p e s m below meth c ls A hB hl
  obtain ⟨hx, hb, hml, hr, hlocks, hnm, hown, ht, hK, hN, hA, hP, hD, hS⟩ := hB
  have hl : lv_has ls 4 [(0, .ref h0), (1, .int p0), (2, .int p1), (3, .int p2)] := hl
  refine lv_iload_n hx hb dX11_school_0 rfl (lv_at hl 1 rfl) ?_
  refine afterP (xS (fr := 0) (lo := 0) (mc := 0) (ms := 0) (As := [.int p0]) (rest := []) (wc := []) ⟨hx, hb, hml, hown, ht⟩ (c_X11_isPlace l D k p0 _) hK hN nilP (nilD (A := A)) q2_131 q2_132 q1_1 q2_133 md_X11_isPlace ⟨by decide, by decide⟩ rfl hl.1 rfl (Nat.le_of_ble_eq_true rfl) dX11_school_1 ⟨by decide, by decide⟩) (fun r_1 h_2 => ?_)
  rcases h_2 with ⟨rfl, h_2⟩ | ⟨rfl, h_2⟩
  · skip
    refine lv_if_eq (tgt := 22) hx hb dX11_school_4 (by decide) (fun c_ => absurd c_ (by decide)) (fun _ => ?_)
    refine lv_iload_n hx hb dX11_school_7 rfl (lv_at hl 2 rfl) ?_
    refine lv_iconst (v := 0) hx hb dX11_school_8 (by decide) ?_
    refine lv_iconst (v := 2) hx hb dX11_school_9 (by decide) ?_
    refine afterP (xS (fr := 0) (lo := 0) (mc := 0) (ms := 0) (As := [.int p1, .int 0, .int 2]) (rest := []) (wc := []) ⟨hx, hb, hml, hown, ht⟩ (c_X11_isWithin l D k p1 0 2 0 2 (by decide) (by decide) _) hK hN nilP (nilD (A := A)) q2_60 q2_61 q1_1 q2_62 md_X11_isWithin ⟨by decide, by decide⟩ rfl hl.1 rfl (Nat.le_of_ble_eq_true rfl) dX11_school_10 ⟨by decide, by decide⟩) (fun r_3 h_4 => ?_)
    rcases h_4 with ⟨rfl, h_4⟩ | ⟨rfl, h_4⟩
    · skip
      refine lv_if_eq (tgt := 22) hx hb dX11_school_13 (by decide) (fun c_ => absurd c_ (by decide)) (fun _ => ?_)
      refine lv_iload_n hx hb dX11_school_16 rfl (lv_at hl 3 rfl) ?_
      refine lv_bipush (v := 8) hx hb dX11_school_17 (by decide) ?_
      refine lv_icmp_le (tgt := 24) hx hb dX11_school_19 (by decide) (fun c_5 => ?_) (fun c_5 => ?_)
      · skip
        have c_5 := i_le (a := p2.toInt) (b := 8) rfl (by decide) c_5
        refine lv_iload_n hx hb dX11_school_24 rfl (lv_at hl 3 rfl) ?_
        refine lv_if_ge (tgt := 34) hx hb dX11_school_25 (by decide) (fun c_6 => ?_) (fun c_6 => ?_)
        · skip
          have c_6 := i_le (a := 0) (b := p2.toInt) (by decide) rfl c_6
          refine lv_aload_n hx hb dX11_school_34 rfl (lv_at hl 0 rfl) ?_
          refine va_get (D := D) (ci := 9) (v := .ref (r 4)) (C := "TuneSchool") (T := TX11) (N := 17) hx hb ht iX11 hown hK hP 0 rfl rfl 4 (by decide) (ht _ q1_211) (fun _ h9 => h9) rfl dX11_school_35 ?_
          refine lv_iload_n hx hb dX11_school_38 rfl (lv_at hl 1 rfl) ?_
          refine va_new (ci := 7) (fs := [.int 0, .null]) (C := "TuneSchool$School") (T := TX8) (N := 2) hx hb ht iX8 tyX8 tyX8_ok hown (ht _ q2_182) (ht _ q2_183) (ht _ q1_15) hK hP hD hS hA rfl (fun j hj => by rcases (show j = 0 ∨ j = 1 by omega) with rfl | rfl <;> rfl) (by decide) (by decide) dX11_school_39 (fun q_7 H hP hD hS => ?_)
          refine W.widen (k := 1) (n := 2) (by decide) (by decide) ?_
          have hP : va_P D clsL [(h0, .inr (9, oX11 r f9)), ((r 4), .inl (k 4, 16, .inr (.inr (.inr (.inr (fun _ => none)))))), (q_7, .inr (7, [.int 0, .null]))] H := hP
          have hD : va_D A [(h0, .inr (9, oX11 r f9)), ((r 4), .inl (k 4, 16, .inr (.inr (.inr (.inr (fun _ => none)))))), (q_7, .inr (7, [.int 0, .null]))] := hD
          refine lv_dup hx hb dX11_school_42 rfl ?_
          refine lv_iload_n hx hb dX11_school_43 rfl (lv_at hl 2 rfl) ?_
          refine lv_iload_n hx hb dX11_school_44 rfl (lv_at hl 3 rfl) ?_
          refine afterV (wr := [(h0, .inr (9, oX11 r f9)), ((r 4), .inl (k 4, 16, .inr (.inr (.inr (.inr (fun _ => none))))))]) (xI (fr := 2) (lo := 32) (mc := 1) (ms := 8) (As := [.int p1, .int p2]) (rest := [.ref q_7, .int p0, .ref (r 4)]) (wc := [(q_7, .inr (7, [.int 0, .null]))]) ⟨hx, hb, hml, hown, ht⟩ (c_X8_init l D k q_7 p1 p2 (by omega) (by omega) _) hK hN (hP.sub (ws' := [(q_7, .inr (7, [.int 0, .null]))]) [2] rfl) (hD.sub (ws' := [(q_7, .inr (7, [.int 0, .null]))]) [2] (by decide) rfl) rfl q2_184 q2_185 q1_15 q2_186 md_X8_init ⟨by decide, by decide⟩ rfl hl.1 rfl (Nat.le_of_ble_eq_true rfl) dX11_school_45 ⟨by decide, by decide⟩) hP hD hS hA [2] [0, 1] rfl rfl rfl (by decide) (fun u_9 H locs h_10 hP hD hS => ?_)
          refine W.widen (k := 2) (n := 10) (by decide) (by decide) ?_
          have hP : va_P D clsL [(h0, .inr (9, oX11 r f9)), ((r 4), .inl (k 4, 16, .inr (.inr (.inr (.inr (fun _ => none)))))), (q_7, .inr (7, [.int p1, .ref u_9]))] H := hP
          have hD : va_D A [(h0, .inr (9, oX11 r f9)), ((r 4), .inl (k 4, 16, .inr (.inr (.inr (.inr (fun _ => none)))))), (q_7, .inr (7, [.int p1, .ref u_9]))] := hD
          refine va_astqO (D := D) hx hb hK hP hD hS 1 4 2 7 rfl rfl (hN.1 (.castable "TuneSchool$School" "TuneSchool$Standing") (List.mem_of_getElem? (i := 18) rfl)) rfl rfl (vin (by omega) (by omega)) dX11_school_48 (fun H locs hP hD hS => ?_)
          have hP : va_P D clsL [(h0, .inr (9, oX11 r f9)), ((r 4), .inl (k 4, 16, .inr (.inr (.inr (.inr (va_up (fun _ => none) p0.toNatClampNeg (some q_7))))))), (q_7, .inr (7, [.int p1, .ref u_9]))] H := hP
          have hD : va_D A [(h0, .inr (9, oX11 r f9)), ((r 4), .inl (k 4, 16, .inr (.inr (.inr (.inr (va_up (fun _ => none) p0.toNatClampNeg (some q_7))))))), (q_7, .inr (7, [.int p1, .ref u_9]))] := hD
          refine lv_aload_n hx hb dX11_school_49 rfl (lv_at hl 0 rfl) ?_
          refine lv_iconst (v := 1) hx hb dX11_school_50 (by decide) ?_
          refine afterI (wr := [((r 4), .inl (k 4, 16, .inr (.inr (.inr (.inr (va_up (fun _ => none) p0.toNatClampNeg (some q_7))))))), (q_7, .inr (7, [.int p1, .ref u_9]))]) (xV (fr := 0) (lo := 0) (mc := 0) (ms := 0) (As := [.int 1]) (rest := []) (wc := [(h0, .inr (9, oX11 r f9))]) ⟨hx, hb, hml, hown, ht⟩ (c_X11_fine l D k h0 r f9 1 _) hK hN (hP.sub (ws' := [(h0, .inr (9, oX11 r f9))]) [0] rfl) (hD.sub (ws' := [(h0, .inr (9, oX11 r f9))]) [0] (by decide) rfl) 9 0 rfl rfl rfl q2_48 q2_50 qs_2 q1_1 q2_51 md_X11_fine ⟨by decide, by decide⟩ rfl hl.1 rfl (Nat.le_of_ble_eq_true rfl) dX11_school_51 ⟨by decide, by decide⟩) hP hD hS hA [0] [1, 2] rfl rfl rfl (by decide) (fun r_11 u_12 H locs h_13 hP hD hS => ?_)
          obtain rfl : r_11 = 1 := h_13.trans (by decide)
          have hP : va_P D clsL [((r 4), .inl (k 4, 16, .inr (.inr (.inr (.inr (va_up (fun _ => none) p0.toNatClampNeg (some q_7))))))), (q_7, .inr (7, [.int p1, .ref u_9]))] H := hP
          have hD : va_D A [((r 4), .inl (k 4, 16, .inr (.inr (.inr (.inr (va_up (fun _ => none) p0.toNatClampNeg (some q_7))))))), (q_7, .inr (7, [.int p1, .ref u_9]))] := hD
          refine W.widen (k := 2) (n := 10) (by decide) (by decide) ?_
          exact W.iret (v := 1) hx hb hr (fun t ht hW => ⟨⟨1, (), rfl, (by first | (unfold an_school; (repeat' split) <;> first | rfl | (exfalso; omega)) | rfl | decide), nilP, nilD⟩, hS.F ht⟩) hS.2.2 dX11_school_54
        · skip
          have c_6 := i_nle (a := 0) (b := p2.toInt) (by decide) rfl c_6
          refine lv_aload_n hx hb dX11_school_28 rfl (lv_at hl 0 rfl) ?_
          refine lv_iconst (v := 5) hx hb dX11_school_29 (by decide) ?_
          refine afterI (wr := [((r 4), .inl (k 4, 16, .inr (.inr (.inr (.inr (fun _ => none))))))]) (xV (fr := 0) (lo := 0) (mc := 0) (ms := 0) (As := [.int 5]) (rest := []) (wc := [(h0, .inr (9, oX11 r f9))]) ⟨hx, hb, hml, hown, ht⟩ (c_X11_finding l D k h0 r f9 5 _) hK hN (hP.sub (ws' := [(h0, .inr (9, oX11 r f9))]) [0] rfl) (hD.sub (ws' := [(h0, .inr (9, oX11 r f9))]) [0] (by decide) rfl) 9 0 rfl rfl rfl q2_26 q2_28 qs_0 q1_1 q2_29 md_X11_finding ⟨by decide, by decide⟩ rfl hl.1 rfl (Nat.le_of_ble_eq_true rfl) dX11_school_30 ⟨by decide, by decide⟩) hP hD hS hA [0] [1] rfl rfl rfl (by decide) (fun r_14 u_15 H locs h_16 hP hD hS => ?_)
          obtain rfl : r_14 = (-15) := h_16.trans (by decide)
          have hP : va_P D clsL [((r 4), .inl (k 4, 16, .inr (.inr (.inr (.inr (fun _ => none))))))] H := hP
          have hD : va_D A [((r 4), .inl (k 4, 16, .inr (.inr (.inr (.inr (fun _ => none))))))] := hD
          refine W.widen (k := 2) (n := 10) (by decide) (by decide) ?_
          exact W.iret (v := (-15)) hx hb hr (fun t ht hW => ⟨⟨(-15), (), rfl, (by first | (unfold an_school; (repeat' split) <;> first | rfl | (exfalso; omega)) | rfl | decide), nilP, nilD⟩, hS.F ht⟩) hS.2.2 dX11_school_33
      · skip
        have c_5 := i_nle (a := p2.toInt) (b := 8) rfl (by decide) c_5
        refine lv_iconst (v := (-1)) hx hb dX11_school_22 (by decide) ?_
        refine W.widen (k := 2) (n := 10) (by decide) (by decide) ?_
        exact W.iret (v := (-1)) hx hb hr (fun t ht hW => ⟨⟨(-1), (), rfl, (by first | (unfold an_school; (repeat' split) <;> first | rfl | (exfalso; omega)) | rfl | decide), nilP, nilD⟩, hS.F ht⟩) hS.2.2 dX11_school_23
    · skip
      refine lv_if_eq (tgt := 22) hx hb dX11_school_13 (by decide) (fun _ => ?_) (fun c_ => absurd c_ (by decide))
      refine lv_iconst (v := (-1)) hx hb dX11_school_22 (by decide) ?_
      refine W.widen (k := 2) (n := 10) (by decide) (by decide) ?_
      exact W.iret (v := (-1)) hx hb hr (fun t ht hW => ⟨⟨(-1), (), rfl, (by first | (unfold an_school; (repeat' split) <;> first | rfl | (exfalso; omega)) | rfl | decide), nilP, nilD⟩, hS.F ht⟩) hS.2.2 dX11_school_23
  · skip
    refine lv_if_eq (tgt := 22) hx hb dX11_school_4 (by decide) (fun _ => ?_) (fun c_ => absurd c_ (by decide))
    refine lv_iconst (v := (-1)) hx hb dX11_school_22 (by decide) ?_
    refine W.widen (k := 2) (n := 10) (by decide) (by decide) ?_
    exact W.iret (v := (-1)) hx hb hr (fun t ht hW => ⟨⟨(-1), (), rfl, (by first | (unfold an_school; (repeat' split) <;> first | rfl | (exfalso; omega)) | rfl | decide), nilP, nilD⟩, hS.F ht⟩) hS.2.2 dX11_school_23
