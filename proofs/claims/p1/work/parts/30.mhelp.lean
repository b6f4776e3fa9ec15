set_option maxHeartbeats 400000 in
set_option maxRecDepth 100000 in
theorem c_X12_in (l : Launch) (D : va_G) (k : Nat → ClassId) (p0 p1 p2 : Int32) (ia ib : Int) (h_a : p1.toInt = ia) (h_b : p2.toInt = ib) : CP l yX12_in cX12_in 3 (some .boolean) 0 0 D k [] [.int p0, .int p1, .int p2] (fun r => (r = 1 ∧ ia ≤ p0.toInt ∧ p0.toInt ≤ ib) ∨ (r = 0 ∧ ¬ (ia ≤ p0.toInt ∧ p0.toInt ≤ ib))) := by
  intro sz
  refine mtX (Qc := fun _ => vp_Si (fun r => (r = 1 ∧ ia ≤ p0.toInt ∧ p0.toInt ≤ ib) ∨ (r = 0 ∧ ¬ (ia ≤ p0.toInt ∧ p0.toInt ≤ ib)))) (free := fun _ _ => False) (by decide) (Nat.le_of_ble_eq_true rfl) ?_
  intro p e s m below meth c ls A hB hl
  obtain ⟨hx, hb, hml, hr, hlocks, hnm, hown, ht, hK, hN, hA, hP, hD, hS⟩ := hB
  have hl : lv_has ls 3 [(0, .int p0), (1, .int p1), (2, .int p2)] := hl
  refine lv_iload_n hx hb dX12_in_0 rfl (lv_at hl 0 rfl) ?_
  refine lv_iload_n hx hb dX12_in_1 rfl (lv_at hl 1 rfl) ?_
  refine lv_icmp_lt (tgt := 14) hx hb dX12_in_2 (by decide) (fun c_1 => ?_) (fun c_1 => ?_)
  · skip
    have c_1 := i_lt (a := p0.toInt) (b := p1.toInt) rfl rfl c_1
    refine lv_iconst (v := 0) hx hb dX12_in_14 (by decide) ?_
    exact W.zret (v := 0) (ty := .boolean) hx hb hr rfl (fun t ht hW => ⟨0, rfl, Or.inr ⟨rfl, by omega⟩, ht⟩) (fun _ h => by cases h) dX12_in_15
  · skip
    have c_1 := i_nlt (a := p0.toInt) (b := p1.toInt) rfl rfl c_1
    refine lv_iload_n hx hb dX12_in_5 rfl (lv_at hl 0 rfl) ?_
    refine lv_iload_n hx hb dX12_in_6 rfl (lv_at hl 2 rfl) ?_
    refine lv_icmp_gt (tgt := 14) hx hb dX12_in_7 (by decide) (fun c_2 => ?_) (fun c_2 => ?_)
    · skip
      have c_2 := i_lt (a := p2.toInt) (b := p0.toInt) rfl rfl c_2
      refine lv_iconst (v := 0) hx hb dX12_in_14 (by decide) ?_
      exact W.zret (v := 0) (ty := .boolean) hx hb hr rfl (fun t ht hW => ⟨0, rfl, Or.inr ⟨rfl, by omega⟩, ht⟩) (fun _ h => by cases h) dX12_in_15
    · skip
      have c_2 := i_nlt (a := p2.toInt) (b := p0.toInt) rfl rfl c_2
      refine lv_iconst (v := 1) hx hb dX12_in_10 (by decide) ?_
      refine lv_goto (tgt := 15) hx hb dX12_in_11 (by decide) ?_
      exact W.zret (v := 1) (ty := .boolean) hx hb hr rfl (fun t ht hW => ⟨1, rfl, Or.inl ⟨rfl, by omega⟩, ht⟩) (fun _ h => by cases h) dX12_in_15
set_option maxHeartbeats 400000 in
set_option maxRecDepth 100000 in
theorem c_X12_isVoice (l : Launch) (D : va_G) (k : Nat → ClassId) (p0 : Int32) : CP l yX12_isVoice cX12_isVoice 1 (some .boolean) 1 22 D k [] [.int p0] (fun r => (r = 1 ∧ 0 ≤ p0.toInt ∧ p0.toInt ≤ 5) ∨ (r = 0 ∧ ¬ (0 ≤ p0.toInt ∧ p0.toInt ≤ 5))) := by
  intro sz
  refine mtX (Qc := fun _ => vp_Si (fun r => (r = 1 ∧ 0 ≤ p0.toInt ∧ p0.toInt ≤ 5) ∨ (r = 0 ∧ ¬ (0 ≤ p0.toInt ∧ p0.toInt ≤ 5)))) (free := fun _ _ => False) (by decide) (Nat.le_of_ble_eq_true rfl) ?_
  intro p e s m below meth c ls A hB hl
  obtain ⟨hx, hb, hml, hr, hlocks, hnm, hown, ht, hK, hN, hA, hP, hD, hS⟩ := hB
  have hl : lv_has ls 1 [(0, .int p0)] := hl
  refine lv_iload_n hx hb dX12_isVoice_0 rfl (lv_at hl 0 rfl) ?_
  refine lv_iconst (v := 0) hx hb dX12_isVoice_1 (by decide) ?_
  refine lv_iconst (v := 5) hx hb dX12_isVoice_2 (by decide) ?_
  refine afterP (xS (fr := 0) (lo := 0) (mc := 0) (ms := 0) (As := [.int p0, .int 0, .int 5]) (rest := []) (wc := []) ⟨hx, hb, hml, hown, ht⟩ (c_X12_in l D k p0 0 5 0 5 (by decide) (by decide) _) hK hN nilP (nilD (A := A)) q5_214 q5_215 q1_6 q5_216 md_X12_in ⟨by decide, by decide⟩ rfl hl.1 rfl (Nat.le_of_ble_eq_true rfl) dX12_isVoice_3 ⟨by decide, by decide⟩) (fun r_1 h_2 => ?_)
  rcases h_2 with ⟨rfl, h_2⟩ | ⟨rfl, h_2⟩
  · skip
    exact W.zret (v := 1) (ty := .boolean) hx hb hr rfl (fun t ht hW => ⟨1, rfl, Or.inl ⟨rfl, by omega⟩, ht⟩) (fun _ h => by cases h) dX12_isVoice_6
  · skip
    exact W.zret (v := 0) (ty := .boolean) hx hb hr rfl (fun t ht hW => ⟨0, rfl, Or.inr ⟨rfl, by omega⟩, ht⟩) (fun _ h => by cases h) dX12_isVoice_6
set_option maxHeartbeats 400000 in
set_option maxRecDepth 100000 in
theorem c_X12_isPlace (l : Launch) (D : va_G) (k : Nat → ClassId) (p0 : Int32) : CP l yX12_isPlace cX12_isPlace 1 (some .boolean) 1 22 D k [] [.int p0] (fun r => (r = 1 ∧ 0 ≤ p0.toInt ∧ p0.toInt ≤ 15) ∨ (r = 0 ∧ ¬ (0 ≤ p0.toInt ∧ p0.toInt ≤ 15))) := by
  intro sz
  refine mtX (Qc := fun _ => vp_Si (fun r => (r = 1 ∧ 0 ≤ p0.toInt ∧ p0.toInt ≤ 15) ∨ (r = 0 ∧ ¬ (0 ≤ p0.toInt ∧ p0.toInt ≤ 15)))) (free := fun _ _ => False) (by decide) (Nat.le_of_ble_eq_true rfl) ?_
  intro p e s m below meth c ls A hB hl
  obtain ⟨hx, hb, hml, hr, hlocks, hnm, hown, ht, hK, hN, hA, hP, hD, hS⟩ := hB
  have hl : lv_has ls 1 [(0, .int p0)] := hl
  refine lv_iload_n hx hb dX12_isPlace_0 rfl (lv_at hl 0 rfl) ?_
  refine lv_iconst (v := 0) hx hb dX12_isPlace_1 (by decide) ?_
  refine lv_bipush (v := 15) hx hb dX12_isPlace_2 (by decide) ?_
  refine afterP (xS (fr := 0) (lo := 0) (mc := 0) (ms := 0) (As := [.int p0, .int 0, .int 15]) (rest := []) (wc := []) ⟨hx, hb, hml, hown, ht⟩ (c_X12_in l D k p0 0 15 0 15 (by decide) (by decide) _) hK hN nilP (nilD (A := A)) q5_214 q5_215 q1_6 q5_216 md_X12_in ⟨by decide, by decide⟩ rfl hl.1 rfl (Nat.le_of_ble_eq_true rfl) dX12_isPlace_4 ⟨by decide, by decide⟩) (fun r_1 h_2 => ?_)
  rcases h_2 with ⟨rfl, h_2⟩ | ⟨rfl, h_2⟩
  · skip
    exact W.zret (v := 1) (ty := .boolean) hx hb hr rfl (fun t ht hW => ⟨1, rfl, Or.inl ⟨rfl, by omega⟩, ht⟩) (fun _ h => by cases h) dX12_isPlace_7
  · skip
    exact W.zret (v := 0) (ty := .boolean) hx hb hr rfl (fun t ht hW => ⟨0, rfl, Or.inr ⟨rfl, by omega⟩, ht⟩) (fun _ h => by cases h) dX12_isPlace_7
set_option maxHeartbeats 400000 in
set_option maxRecDepth 100000 in
theorem c_X12_finds (l : Launch) (D : va_G) (k : Nat → ClassId) (h0 : Nat) (r : Nat → Nat) (v : Nat → Int32) (p0 : Int32) : CI l yX12_finds cX12_finds 2 (some .int) 0 0 0 0 D k [(h0, .inr (10, oX12 r v))] [.ref h0, .int p0] (S := Unit) (fun (r : Int32) (_ : Unit) => r = -10 - p0) (fun _ => ([] : va_W)) := by
  intro sz
  refine mtX (Qc := fun A => va_Qi (S := Unit) (fun (r : Int32) (_ : Unit) => r = -10 - p0) (fun u t => WX D A ((fun _ => ([] : va_W)) u) t) A) (free := fun A => A) (by decide) (Nat.le_of_ble_eq_true rfl) ?_
  intro p e s m below meth c ls A hB hl
  obtain ⟨hx, hb, hml, hr, hlocks, hnm, hown, ht, hK, hN, hA, hP, hD, hS⟩ := hB
  have hl : lv_has ls 2 [(0, .ref h0), (1, .int p0)] := hl
  refine lv_aload_n hx hb dX12_finds_0 rfl (lv_at hl 0 rfl) ?_
  refine lv_iload_n hx hb dX12_finds_1 rfl (lv_at hl 1 rfl) ?_
  refine va_put (D := D) (ci := 10) (v := .int p0) (ty := .int) (C := "TuneSchoolModel") (T := TX12) (N := 71) hx hb ht iX12 tyX12 tyX12_ok nmX12 hown hK hP hD hS 0 rfl rfl 0 (by decide) (ht _ q4_232) (fun _ h9 => h9) rfl (by decide +kernel) rfl rfl (Nat.le_of_ble_eq_true rfl) dX12_finds_2 (fun H locs hP hD hS => ?_)
  have hP : va_P D clsL [(h0, .inr (10, oX12 r (va_up v 0 p0)))] H := hP
  have hD : va_D A [(h0, .inr (10, oX12 r (va_up v 0 p0)))] := hD
  refine lv_aload_n hx hb dX12_finds_5 rfl (lv_at hl 0 rfl) ?_
  refine lv_dup hx hb dX12_finds_6 rfl ?_
  refine va_get (D := D) (ci := 10) (v := .int (v 1)) (C := "TuneSchoolModel") (T := TX12) (N := 71) hx hb ht iX12 hown hK hP 0 rfl rfl 1 (by decide) (ht _ q4_233) (fun _ h9 => h9) rfl dX12_finds_7 ?_
  refine lv_iconst (v := 1) hx hb dX12_finds_10 (by decide) ?_
  refine lv_iadd hx hb dX12_finds_11 ?_
  refine va_put (D := D) (ci := 10) (v := .int ((v 1) + 1)) (ty := .int) (C := "TuneSchoolModel") (T := TX12) (N := 71) hx hb ht iX12 tyX12 tyX12_ok nmX12 hown hK hP hD hS 0 rfl rfl 1 (by decide) (ht _ q4_233) (fun _ h9 => h9) rfl (by decide +kernel) rfl rfl (Nat.le_of_ble_eq_true rfl) dX12_finds_12 (fun H locs hP hD hS => ?_)
  have hP : va_P D clsL [(h0, .inr (10, oX12 r (va_up (va_up v 0 p0) 1 ((v 1) + 1))))] H := hP
  have hD : va_D A [(h0, .inr (10, oX12 r (va_up (va_up v 0 p0) 1 ((v 1) + 1))))] := hD
  refine lv_bipush (v := (-10)) hx hb dX12_finds_15 (by decide) ?_
  refine lv_iload_n hx hb dX12_finds_17 rfl (lv_at hl 1 rfl) ?_
  refine lv_isub hx hb dX12_finds_18 ?_
  exact W.iret (v := ((-10) - p0)) hx hb hr (fun t ht hW => ⟨⟨((-10) - p0), (), rfl, rfl, nilP, nilD⟩, hS.F ht⟩) hS.2.2 dX12_finds_19
set_option maxHeartbeats 400000 in
set_option maxRecDepth 100000 in
theorem c_X12_against (l : Launch) (D : va_G) (k : Nat → ClassId) (h0 : Nat) (r : Nat → Nat) (v : Nat → Int32) (p0 : Int32) (hp0 : 0 ≤ p0.toInt) (hp1 : p0.toInt ≤ 5) : CP l yX12_against cX12_against 2 (some .int) 0 0 D k [(h0, .inr (10, oX12 r v)), ((r 2), .inl (k 1, 6, .inl (fun _ => 0)))] [.ref h0, .int p0] (fun r => r = 1) := by
  intro sz
  refine mtX (Qc := fun _ => vp_Si (fun r => r = 1)) (free := fun _ _ => False) (by decide) (Nat.le_of_ble_eq_true rfl) ?_
  intro p e s m below meth c ls A hB hl
  obtain ⟨hx, hb, hml, hr, hlocks, hnm, hown, ht, hK, hN, hA, hP, hD, hS⟩ := hB
  have hl : lv_has ls 2 [(0, .ref h0), (1, .int p0)] := hl
  refine lv_aload_n hx hb dX12_against_0 rfl (lv_at hl 0 rfl) ?_
  refine va_get (D := D) (ci := 10) (v := .ref (r 2)) (C := "TuneSchoolModel") (T := TX12) (N := 71) hx hb ht iX12 hown hK hP 0 rfl rfl 2 (by decide) (ht _ q4_234) (fun _ h9 => h9) rfl dX12_against_1 ?_
  refine lv_iload_n hx hb dX12_against_4 rfl (lv_at hl 1 rfl) ?_
  refine ldZ (v := 0) hx hb hK hP 1 rfl (vin (by omega) (by omega)) rfl dX12_against_5 ?_
  refine lv_if_ne (tgt := 13) hx hb dX12_against_6 (by decide) (fun c_ => absurd c_ (by decide)) (fun _ => ?_)
  refine lv_iconst (v := 1) hx hb dX12_against_9 (by decide) ?_
  refine lv_goto (tgt := 39) hx hb dX12_against_10 (by decide) ?_
  exact W.iret (v := 1) hx hb hr (fun t ht hW => ⟨1, rfl, rfl, ht⟩) (fun _ h => by cases h) dX12_against_39
set_option maxHeartbeats 400000 in
set_option maxRecDepth 100000 in
theorem c_X12_againstCanon (l : Launch) (D : va_G) (k : Nat → ClassId) (h0 : Nat) (r : Nat → Nat) (v : Nat → Int32) (p0 p1 : Int32) (hp0 : 0 ≤ p0.toInt) (hp1 : p0.toInt ≤ 5) : CP l yX12_againstCanon cX12_againstCanon 4 (some .int) 1 21 D k [(h0, .inr (10, oX12 r v)), ((r 2), .inl (k 1, 6, .inl (fun _ => 0)))] [.ref h0, .int p0, .int p1] (fun r => r = 1) := by
  intro sz
  refine mtX (Qc := fun _ => vp_Si (fun r => r = 1)) (free := fun _ _ => False) (by decide) (Nat.le_of_ble_eq_true rfl) ?_
  intro p e s m below meth c ls A hB hl
  obtain ⟨hx, hb, hml, hr, hlocks, hnm, hown, ht, hK, hN, hA, hP, hD, hS⟩ := hB
  have hl : lv_has ls 4 [(0, .ref h0), (1, .int p0), (2, .int p1)] := hl
  refine lv_aload_n hx hb dX12_againstCanon_0 rfl (lv_at hl 0 rfl) ?_
  refine lv_iload_n hx hb dX12_againstCanon_1 rfl (lv_at hl 1 rfl) ?_
  refine afterP (xV (fr := 0) (lo := 0) (mc := 0) (ms := 0) (As := [.int p0]) (rest := []) (wc := [(h0, .inr (10, oX12 r v)), ((r 2), .inl (k 1, 6, .inl (fun _ => 0)))]) ⟨hx, hb, hml, hown, ht⟩ (c_X12_against l D k h0 r v p0 (by omega) (by omega) _) hK hN (hP.sub (ws' := [(h0, .inr (10, oX12 r v)), ((r 2), .inl (k 1, 6, .inl (fun _ => 0)))]) [0, 1] rfl) (hD.sub (ws' := [(h0, .inr (10, oX12 r v)), ((r 2), .inl (k 1, 6, .inl (fun _ => 0)))]) [0, 1] (by decide) rfl) 10 0 rfl rfl rfl q6_9 q6_11 qs_19 q1_6 q6_12 md_X12_against ⟨by decide, by decide⟩ rfl hl.1 rfl (Nat.le_of_ble_eq_true rfl) dX12_againstCanon_2 ⟨by decide, by decide⟩) (fun r_1 h_2 => ?_)
  obtain rfl := h_2
  refine lv_istore_n (lv' := [(3, .int 1), (0, .ref h0), (1, .int p0), (2, .int p1)]) hx hb dX12_againstCanon_5 rfl hl (by decide) rfl (fun ls hl => ?_)
  refine lv_iload_n hx hb dX12_againstCanon_6 rfl (lv_at hl 0 rfl) ?_
  refine lv_if_le (tgt := 14) hx hb dX12_againstCanon_7 (by decide) (fun c_ => absurd c_ (by decide)) (fun _ => ?_)
  refine lv_iload_n hx hb dX12_againstCanon_10 rfl (lv_at hl 0 rfl) ?_
  refine lv_goto (tgt := 28) hx hb dX12_againstCanon_11 (by decide) ?_
  exact W.iret (v := 1) hx hb hr (fun t ht hW => ⟨1, rfl, rfl, ht⟩) (fun _ h => by cases h) dX12_againstCanon_28
set_option maxHeartbeats 400000 in
set_option maxRecDepth 100000 in
theorem c_X12_beginTrace (l : Launch) (D : va_G) (k : Nat → ClassId) (h0 : Nat) (r : Nat → Nat) (v : Nat → Int32) : CV l yX12_beginTrace cX12_beginTrace 1 0 0 0 0 D k [(h0, .inr (10, oX12 r v))] [.ref h0] (S := Unit) (fun (_ : Unit) => True) (fun (_ : Unit) => ([(h0, .inr (10, oX12 r (va_up (va_up v 28 0) 27 1)))] : va_W)) := by
  intro sz
  refine mtX (Qc := fun A => va_Qv (S := Unit) (fun (_ : Unit) => True) (fun u t => WX D A ((fun (_ : Unit) => ([(h0, .inr (10, oX12 r (va_up (va_up v 28 0) 27 1)))] : va_W)) u) t) A) (free := fun A => A) (by decide) (Nat.le_of_ble_eq_true rfl) ?_
  intro p e s m below meth c ls A hB hl
  obtain ⟨hx, hb, hml, hr, hlocks, hnm, hown, ht, hK, hN, hA, hP, hD, hS⟩ := hB
  have hl : lv_has ls 1 [(0, .ref h0)] := hl
  refine lv_aload_n hx hb dX12_beginTrace_0 rfl (lv_at hl 0 rfl) ?_
  refine lv_iconst (v := 0) hx hb dX12_beginTrace_1 (by decide) ?_
  refine va_put (D := D) (ci := 10) (v := .int 0) (ty := .int) (C := "TuneSchoolModel") (T := TX12) (N := 71) hx hb ht iX12 tyX12 tyX12_ok nmX12 hown hK hP hD hS 0 rfl rfl 28 (by decide) (ht _ q5_20) (fun _ h9 => h9) rfl (by decide +kernel) rfl rfl (Nat.le_of_ble_eq_true rfl) dX12_beginTrace_2 (fun H locs hP hD hS => ?_)
  have hP : va_P D clsL [(h0, .inr (10, oX12 r (va_up v 28 0)))] H := hP
  have hD : va_D A [(h0, .inr (10, oX12 r (va_up v 28 0)))] := hD
  refine lv_aload_n hx hb dX12_beginTrace_5 rfl (lv_at hl 0 rfl) ?_
  refine lv_iconst (v := 1) hx hb dX12_beginTrace_6 (by decide) ?_
  refine va_put (D := D) (ci := 10) (v := .int 1) (ty := .boolean) (C := "TuneSchoolModel") (T := TX12) (N := 71) hx hb ht iX12 tyX12 tyX12_ok nmX12 hown hK hP hD hS 0 rfl rfl 27 (by decide) (ht _ q5_19) (fun _ h9 => h9) rfl (by decide +kernel) rfl rfl (Nat.le_of_ble_eq_true rfl) dX12_beginTrace_7 (fun H locs hP hD hS => ?_)
  have hP : va_P D clsL [(h0, .inr (10, oX12 r (va_up (va_up v 28 0) 27 1)))] H := hP
  have hD : va_D A [(h0, .inr (10, oX12 r (va_up (va_up v 28 0) 27 1)))] := hD
  exact W.vret hx hb hr (fun t ht hW => ⟨⟨(), rfl, trivial, by rw [ht]; exact hP, hD⟩, hS.F ht⟩) hS.2.2 dX12_beginTrace_10
set_option maxHeartbeats 400000 in
set_option maxRecDepth 100000 in
theorem c_X12_wrongIn (l : Launch) (D : va_G) (k : Nat → ClassId) (h0 : Nat) (r : Nat → Nat) : CI l yX12_wrongIn cX12_wrongIn 5 (some .int) 0 0 0 0 D k [(h0, .inr (10, oX12 r (va_up fm 0 0)))] [.ref h0] (S := Unit) (fun (r : Int32) (_ : Unit) => r = -1) (fun (_ : Unit) => ([(h0, .inr (10, oX12 r (va_up (va_up fm 0 0) 70 0)))] : va_W)) := by
  intro sz
  refine mtX (Qc := fun A => va_Qi (S := Unit) (fun (r : Int32) (_ : Unit) => r = -1) (fun u t => WX D A ((fun (_ : Unit) => ([(h0, .inr (10, oX12 r (va_up (va_up fm 0 0) 70 0)))] : va_W)) u) t) A) (free := fun A => A) (by decide) (Nat.le_of_ble_eq_true rfl) ?_
  intro p e s m below meth c ls A hB hl
  obtain ⟨hx, hb, hml, hr, hlocks, hnm, hown, ht, hK, hN, hA, hP, hD, hS⟩ := hB
  have hl : lv_has ls 5 [(0, .ref h0)] := hl
  refine lv_aload_n hx hb dX12_wrongIn_0 rfl (lv_at hl 0 rfl) ?_
  refine lv_iconst (v := 0) hx hb dX12_wrongIn_1 (by decide) ?_
  refine va_put (D := D) (ci := 10) (v := .int 0) (ty := .int) (C := "TuneSchoolModel") (T := TX12) (N := 71) hx hb ht iX12 tyX12 tyX12_ok nmX12 hown hK hP hD hS 0 rfl rfl 70 (by decide) (ht _ q5_62) (fun _ h9 => h9) rfl (by decide +kernel) rfl rfl (Nat.le_of_ble_eq_true rfl) dX12_wrongIn_2 (fun H locs hP hD hS => ?_)
  have hP : va_P D clsL [(h0, .inr (10, oX12 r (va_up (va_up fm 0 0) 70 0)))] H := hP
  have hD : va_D A [(h0, .inr (10, oX12 r (va_up (va_up fm 0 0) 70 0)))] := hD
  refine lv_iconst (v := 0) hx hb dX12_wrongIn_5 (by decide) ?_
  refine lv_istore_n (lv' := [(1, .int 0), (0, .ref h0)]) hx hb dX12_wrongIn_6 rfl hl (by decide) rfl (fun ls hl => ?_)
  refine lv_aload_n hx hb dX12_wrongIn_7 rfl (lv_at hl 1 rfl) ?_
  refine va_get (D := D) (ci := 10) (v := .int 0) (C := "TuneSchoolModel") (T := TX12) (N := 71) hx hb ht iX12 hown hK hP 0 rfl rfl 38 (by decide) (ht _ q5_30) (fun _ h9 => h9) rfl dX12_wrongIn_8 ?_
  refine lv_if_le (tgt := 18) hx hb dX12_wrongIn_11 (by decide) (fun _ => ?_) (fun c_ => absurd c_ (by decide))
  refine lv_iconst (v := 0) hx hb dX12_wrongIn_18 (by decide) ?_
  refine lv_istore_n (lv' := [(2, .int 0), (1, .int 0), (0, .ref h0)]) hx hb dX12_wrongIn_19 rfl hl (by decide) rfl (fun ls hl => ?_)
  refine lv_iload_n hx hb dX12_wrongIn_20 rfl (lv_at hl 0 rfl) ?_
  refine lv_if_eq (tgt := 241) hx hb dX12_wrongIn_21 (by decide) (fun _ => ?_) (fun c_ => absurd c_ (by decide))
  refine lv_iconst (v := (-1)) hx hb dX12_wrongIn_241 (by decide) ?_
  exact W.iret (v := (-1)) hx hb hr (fun t ht hW => ⟨⟨(-1), (), rfl, rfl, by rw [ht]; exact hP, hD⟩, hS.F ht⟩) hS.2.2 dX12_wrongIn_242
set_option maxHeartbeats 400000 in
set_option maxRecDepth 100000 in
theorem keep_loop {p : Program} {l : Launch} {e : Env} {R : Room} {s : State} {m : MethodId} {args : Array Value} {below : List Frame} {meth : Method} {c : Code} {D : va_G} {k : Nat → ClassId} {A : Nat → Prop} {Q : State → Prop} {h0 j ρ : Nat} {r : Nat → Nat} {v fs : Nat → Int32} (hj : j < 6) (hρ : ρ < 2) (hx : p.tables.exec = Jvm.exec) (hb : c.code = cX12_keep) (hown : s.vm.findClass "TuneSchoolModel" = some m.cls) (ht : ∀ w ∈ gtb, w.before args s = true) (hK : va_K D clsL (tyL k) s)
    (kk : ∀ (f : Nat → Int32) (H : Heap) (locs : List Loc) (ls : Array Slot), va_P D clsL [(h0, .inr (10, oX12 r v)), ((r 2), .inl (k 1, 6, .inl (fun _ => 0))), ((r 3), .inl (k 0, 12, .inl (fun _ => 0))), ((r 4), .inl (k 0, 288, .inl (fun _ => 0))), ((r 8), .inl (k 0, 2, .inl fs)), ((r 9), .inl (k 0, 48, .inl f))] H → va_D A [(h0, .inr (10, oX12 r v)), ((r 2), .inl (k 1, 6, .inl (fun _ => 0))), ((r 3), .inl (k 0, 12, .inl (fun _ => 0))), ((r 4), .inl (k 0, 288, .inl (fun _ => 0))), ((r 8), .inl (k 0, 2, .inl fs)), ((r 9), .inl (k 0, 48, .inl f))] → va_S A s.heap H locs → lv_has ls 4 [(0, .ref h0), (1, .int (nI j)), (2, .int (nI ρ))] → W p l e R s m args below meth c H locs 0 0 Q (F0 m 83 ls [])) :
    ∀ (n i : Nat) (f : Nat → Int32) (H : Heap) (locs : List Loc) (ls : Array Slot), i ≤ 24 → 25 ≤ i + n → va_P D clsL [(h0, .inr (10, oX12 r v)), ((r 2), .inl (k 1, 6, .inl (fun _ => 0))), ((r 3), .inl (k 0, 12, .inl (fun _ => 0))), ((r 4), .inl (k 0, 288, .inl (fun _ => 0))), ((r 8), .inl (k 0, 2, .inl fs)), ((r 9), .inl (k 0, 48, .inl f))] H → va_D A [(h0, .inr (10, oX12 r v)), ((r 2), .inl (k 1, 6, .inl (fun _ => 0))), ((r 3), .inl (k 0, 12, .inl (fun _ => 0))), ((r 4), .inl (k 0, 288, .inl (fun _ => 0))), ((r 8), .inl (k 0, 2, .inl fs)), ((r 9), .inl (k 0, 48, .inl f))] → va_S A s.heap H locs → lv_has ls 4 [(0, .ref h0), (1, .int (nI j)), (2, .int (nI ρ)), (3, .int (nI i))] → W p l e R s m args below meth c H locs 0 0 Q (F0 m 45 ls []) := by
  intro n
  induction n with
  | zero => intro i f H locs ls h1 h2; omega
  | succ n ih =>
    intro i f H locs ls hi hn hP hD hS hl
    refine lv_iload_n hx hb dX12_keep_45 rfl (lv_at hl 3 rfl) ?_
    refine lv_bipush (v := 24) hx hb dX12_keep_46 (by decide) ?_
    refine lv_icmp_ge (tgt := 83) hx hb dX12_keep_48 (by decide) (fun c_ => ?_) (fun c_ => ?_)
    · exact kk f H locs ls hP hD hS (lv_sub hl [0, 1, 2] rfl)
    · have hlt : i < 24 := by
        rcases Nat.lt_or_ge i 24 with q | q
        · exact q
        · exact absurd (show (24 : Int32) ≤ nI i from nI_le (a := 24) q (by omega)) c_
      refine lv_aload_n hx hb dX12_keep_51 rfl (lv_at hl 0 rfl) ?_
      refine va_get (D := D) (ci := 10) (v := .ref (r 9)) (C := "TuneSchoolModel") (T := TX12) (N := 71) hx hb ht iX12 hown hK hP 0 rfl rfl 9 (by decide) (ht _ q5_1) (fun _ h9 => h9) rfl dX12_keep_52 ?_
      refine lv_bipush (v := 24) hx hb dX12_keep_55 (by decide) ?_
      refine lv_iload_n hx hb dX12_keep_57 rfl (lv_at hl 2 rfl) ?_
      refine ev_imul (v := (nI (24 * ρ))) hx hb dX12_keep_58 (pk_mul 24 ρ) ?_
      refine lv_iload_n hx hb dX12_keep_59 rfl (lv_at hl 3 rfl) ?_
      refine ev_iadd (v := (nI ((24 * ρ) + i))) hx hb dX12_keep_60 (nI_add (24 * ρ) i) ?_
      refine lv_aload_n hx hb dX12_keep_61 rfl (lv_at hl 0 rfl) ?_
      refine va_get (D := D) (ci := 10) (v := .ref (r 4)) (C := "TuneSchoolModel") (T := TX12) (N := 71) hx hb ht iX12 hown hK hP 0 rfl rfl 4 (by decide) (ht _ q4_236) (fun _ h9 => h9) rfl dX12_keep_62 ?_
      refine lv_bipush (v := 24) hx hb dX12_keep_65 (by decide) ?_
      refine lv_iconst (v := 2) hx hb dX12_keep_67 (by decide) ?_
      refine lv_iload_n hx hb dX12_keep_68 rfl (lv_at hl 1 rfl) ?_
      refine ev_imul (v := (nI (2 * j))) hx hb dX12_keep_69 (pk_mul 2 j) ?_
      refine lv_iload_n hx hb dX12_keep_70 rfl (lv_at hl 2 rfl) ?_
      refine ev_iadd (v := (nI ((2 * j) + ρ))) hx hb dX12_keep_71 (nI_add (2 * j) ρ) ?_
      refine ev_imul (v := (nI (24 * ((2 * j) + ρ)))) hx hb dX12_keep_72 (pk_mul 24 ((2 * j) + ρ)) ?_
      refine lv_iload_n hx hb dX12_keep_73 rfl (lv_at hl 3 rfl) ?_
      refine ev_iadd (v := (nI ((24 * ((2 * j) + ρ)) + i))) hx hb dX12_keep_74 (nI_add (24 * ((2 * j) + ρ)) i) ?_
      refine ldI (v := 0) hx hb hK hP 3 rfl (vp_in_nI (by omega) (by decide)) rfl dX12_keep_75 ?_
      refine stI hx hb hK hP hD hS 5 rfl (vp_in_nI (by omega) (by decide)) dX12_keep_76 (fun H locs hP hD hS => ?_)
      have hP : va_P D clsL [(h0, .inr (10, oX12 r v)), ((r 2), .inl (k 1, 6, .inl (fun _ => 0))), ((r 3), .inl (k 0, 12, .inl (fun _ => 0))), ((r 4), .inl (k 0, 288, .inl (fun _ => 0))), ((r 8), .inl (k 0, 2, .inl fs)), ((r 9), .inl (k 0, 48, .inl (upd f (nI ((24 * ρ) + i)).toNatClampNeg 0)))] H := hP
      have hD : va_D A [(h0, .inr (10, oX12 r v)), ((r 2), .inl (k 1, 6, .inl (fun _ => 0))), ((r 3), .inl (k 0, 12, .inl (fun _ => 0))), ((r 4), .inl (k 0, 288, .inl (fun _ => 0))), ((r 8), .inl (k 0, 2, .inl fs)), ((r 9), .inl (k 0, 48, .inl (upd f (nI ((24 * ρ) + i)).toNatClampNeg 0)))] := hD
      refine lv_iinc (v := nI (i + 1)) (lv' := [(3, .int (nI (i + 1))), (0, .ref h0), (1, .int (nI j)), (2, .int (nI ρ))]) hx hb dX12_keep_77 hl (k := 3) rfl (nI_1 i) (by decide) rfl (fun ls hl => ?_)
      refine lv_goto (tgt := 45) hx hb dX12_keep_80 (by decide) ?_
      exact ih (i + 1) _ H locs ls hlt (by omega) hP hD hS (lv_sub hl [1, 2, 3, 0] rfl)
set_option maxHeartbeats 400000 in
set_option maxRecDepth 100000 in
theorem c_X12_keep (l : Launch) (D : va_G) (k : Nat → ClassId) (h0 : Nat) (r : Nat → Nat) (v : Nat → Int32) (p0 : Int32) (hp0 : 0 ≤ p0.toInt) (hp1 : p0.toInt ≤ 5) : CV l yX12_keep cX12_keep 4 0 0 0 0 D k [(h0, .inr (10, oX12 r v)), ((r 2), .inl (k 1, 6, .inl (fun _ => 0))), ((r 3), .inl (k 0, 12, .inl (fun _ => 0))), ((r 4), .inl (k 0, 288, .inl (fun _ => 0))), ((r 8), .inl (k 0, 2, .inl (fun _ => 0))), ((r 9), .inl (k 0, 48, .inl (fun _ => 0)))] [.ref h0, .int p0] (S := Unit) (fun (_ : Unit) => True) (fun (_ : Unit) => ([(h0, .inr (10, oX12 r (va_up (va_up (va_up v 5 1) 6 p0) 7 0))), ((r 2), .inl (k 1, 6, .inl (fun _ => 0))), ((r 3), .inl (k 0, 12, .inl (fun _ => 0))), ((r 4), .inl (k 0, 288, .inl (fun _ => 0)))] : va_W)) := by
  intro sz
  refine mtX (Qc := fun A => va_Qv (S := Unit) (fun (_ : Unit) => True) (fun u t => WX D A ((fun (_ : Unit) => ([(h0, .inr (10, oX12 r (va_up (va_up (va_up v 5 1) 6 p0) 7 0))), ((r 2), .inl (k 1, 6, .inl (fun _ => 0))), ((r 3), .inl (k 0, 12, .inl (fun _ => 0))), ((r 4), .inl (k 0, 288, .inl (fun _ => 0)))] : va_W)) u) t) A) (free := fun A => A) (by decide) (Nat.le_of_ble_eq_true rfl) ?_
  intro p e s m below meth c ls A hB hl
  obtain ⟨hx, hb, hml, hr, hlocks, hnm, hown, ht, hK, hN, hA, hP, hD, hS⟩ := hB
  have hl : lv_has ls 4 [(0, .ref h0), (1, .int p0)] := hl
  obtain ⟨j, hj, rfl⟩ := vp_in_of (vin (n := 6) (i := p0) (by omega) (by omega)) (by decide)
  have hjt : (nI j).toInt = (j : Int) := nI_toInt (by omega)
  refine lv_aload_n hx hb dX12_keep_0 rfl (lv_at hl 0 rfl) ?_
  refine lv_iconst (v := 1) hx hb dX12_keep_1 (by decide) ?_
  refine va_put (D := D) (ci := 10) (v := .int 1) (ty := .boolean) (C := "TuneSchoolModel") (T := TX12) (N := 71) hx hb ht iX12 tyX12 tyX12_ok nmX12 hown hK hP hD hS 0 rfl rfl 5 (by decide) (ht _ q4_237) (fun _ h9 => h9) rfl (by decide +kernel) rfl rfl (Nat.le_of_ble_eq_true rfl) dX12_keep_2 (fun H locs hP hD hS => ?_)
  have hP : va_P D clsL [(h0, .inr (10, oX12 r (va_up v 5 1))), ((r 2), .inl (k 1, 6, .inl (fun _ => 0))), ((r 3), .inl (k 0, 12, .inl (fun _ => 0))), ((r 4), .inl (k 0, 288, .inl (fun _ => 0))), ((r 8), .inl (k 0, 2, .inl (fun _ => 0))), ((r 9), .inl (k 0, 48, .inl (fun _ => 0)))] H := hP
  have hD : va_D A [(h0, .inr (10, oX12 r (va_up v 5 1))), ((r 2), .inl (k 1, 6, .inl (fun _ => 0))), ((r 3), .inl (k 0, 12, .inl (fun _ => 0))), ((r 4), .inl (k 0, 288, .inl (fun _ => 0))), ((r 8), .inl (k 0, 2, .inl (fun _ => 0))), ((r 9), .inl (k 0, 48, .inl (fun _ => 0)))] := hD
  refine lv_aload_n hx hb dX12_keep_5 rfl (lv_at hl 0 rfl) ?_
  refine lv_iload_n hx hb dX12_keep_6 rfl (lv_at hl 1 rfl) ?_
  refine va_put (D := D) (ci := 10) (v := .int (nI j)) (ty := .int) (C := "TuneSchoolModel") (T := TX12) (N := 71) hx hb ht iX12 tyX12 tyX12_ok nmX12 hown hK hP hD hS 0 rfl rfl 6 (by decide) (ht _ q4_238) (fun _ h9 => h9) rfl (by decide +kernel) rfl rfl (Nat.le_of_ble_eq_true rfl) dX12_keep_7 (fun H locs hP hD hS => ?_)
  have hP : va_P D clsL [(h0, .inr (10, oX12 r (va_up (va_up v 5 1) 6 (nI j)))), ((r 2), .inl (k 1, 6, .inl (fun _ => 0))), ((r 3), .inl (k 0, 12, .inl (fun _ => 0))), ((r 4), .inl (k 0, 288, .inl (fun _ => 0))), ((r 8), .inl (k 0, 2, .inl (fun _ => 0))), ((r 9), .inl (k 0, 48, .inl (fun _ => 0)))] H := hP
  have hD : va_D A [(h0, .inr (10, oX12 r (va_up (va_up v 5 1) 6 (nI j)))), ((r 2), .inl (k 1, 6, .inl (fun _ => 0))), ((r 3), .inl (k 0, 12, .inl (fun _ => 0))), ((r 4), .inl (k 0, 288, .inl (fun _ => 0))), ((r 8), .inl (k 0, 2, .inl (fun _ => 0))), ((r 9), .inl (k 0, 48, .inl (fun _ => 0)))] := hD
  refine lv_aload_n hx hb dX12_keep_10 rfl (lv_at hl 0 rfl) ?_
  refine lv_aload_n hx hb dX12_keep_11 rfl (lv_at hl 0 rfl) ?_
  refine va_get (D := D) (ci := 10) (v := .ref (r 2)) (C := "TuneSchoolModel") (T := TX12) (N := 71) hx hb ht iX12 hown hK hP 0 rfl rfl 2 (by decide) (ht _ q4_234) (fun _ h9 => h9) rfl dX12_keep_12 ?_
  refine lv_iload_n hx hb dX12_keep_15 rfl (lv_at hl 1 rfl) ?_
  refine ldZ (v := 0) hx hb hK hP 1 rfl (vp_in_nI (by omega) (by decide)) rfl dX12_keep_16 ?_
  refine va_put (D := D) (ci := 10) (v := .int 0) (ty := .boolean) (C := "TuneSchoolModel") (T := TX12) (N := 71) hx hb ht iX12 tyX12 tyX12_ok nmX12 hown hK hP hD hS 0 rfl rfl 7 (by decide) (ht _ q4_239) (fun _ h9 => h9) rfl (by decide +kernel) rfl rfl (Nat.le_of_ble_eq_true rfl) dX12_keep_17 (fun H locs hP hD hS => ?_)
  have hP : va_P D clsL [(h0, .inr (10, oX12 r (va_up (va_up (va_up v 5 1) 6 (nI j)) 7 0))), ((r 2), .inl (k 1, 6, .inl (fun _ => 0))), ((r 3), .inl (k 0, 12, .inl (fun _ => 0))), ((r 4), .inl (k 0, 288, .inl (fun _ => 0))), ((r 8), .inl (k 0, 2, .inl (fun _ => 0))), ((r 9), .inl (k 0, 48, .inl (fun _ => 0)))] H := hP
  have hD : va_D A [(h0, .inr (10, oX12 r (va_up (va_up (va_up v 5 1) 6 (nI j)) 7 0))), ((r 2), .inl (k 1, 6, .inl (fun _ => 0))), ((r 3), .inl (k 0, 12, .inl (fun _ => 0))), ((r 4), .inl (k 0, 288, .inl (fun _ => 0))), ((r 8), .inl (k 0, 2, .inl (fun _ => 0))), ((r 9), .inl (k 0, 48, .inl (fun _ => 0)))] := hD
  refine lv_iconst (v := 0) hx hb dX12_keep_20 (by decide) ?_
  refine lv_istore_n (lv' := [(2, .int 0), (0, .ref h0), (1, .int (nI j))]) hx hb dX12_keep_21 rfl hl (by decide) rfl (fun ls hl => ?_)
  refine lv_iload_n hx hb dX12_keep_22 rfl (lv_at hl 0 rfl) ?_
  refine lv_iconst (v := 2) hx hb dX12_keep_23 (by decide) ?_
  refine lv_icmp_ge (tgt := 89) hx hb dX12_keep_24 (by decide) (fun c_ => absurd c_ (by decide)) (fun _ => ?_)
  refine lv_aload_n hx hb dX12_keep_27 rfl (lv_at hl 1 rfl) ?_
  refine va_get (D := D) (ci := 10) (v := .ref (r 8)) (C := "TuneSchoolModel") (T := TX12) (N := 71) hx hb ht iX12 hown hK hP 0 rfl rfl 8 (by decide) (ht _ q5_0) (fun _ h9 => h9) rfl dX12_keep_28 ?_
  refine lv_iload_n hx hb dX12_keep_31 rfl (lv_at hl 0 rfl) ?_
  refine lv_aload_n hx hb dX12_keep_32 rfl (lv_at hl 1 rfl) ?_
  refine va_get (D := D) (ci := 10) (v := .ref (r 3)) (C := "TuneSchoolModel") (T := TX12) (N := 71) hx hb ht iX12 hown hK hP 0 rfl rfl 3 (by decide) (ht _ q4_235) (fun _ h9 => h9) rfl dX12_keep_33 ?_
  refine lv_iconst (v := 2) hx hb dX12_keep_36 (by decide) ?_
  refine lv_iload_n hx hb dX12_keep_37 rfl (lv_at hl 2 rfl) ?_
  refine ev_imul (v := (nI (2 * j))) hx hb dX12_keep_38 (pk_mul 2 j) ?_
  refine lv_iload_n hx hb dX12_keep_39 rfl (lv_at hl 0 rfl) ?_
  refine ev_iadd (v := (nI ((2 * j) + 0))) hx hb dX12_keep_40 (nI_add (2 * j) 0) ?_
  refine ldI (v := 0) hx hb hK hP 2 rfl (vp_in_nI (by omega) (by decide)) rfl dX12_keep_41 ?_
  refine stI hx hb hK hP hD hS 4 rfl (vin (by decide) (by decide)) dX12_keep_42 (fun H locs hP hD hS => ?_)
  have hP : va_P D clsL [(h0, .inr (10, oX12 r (va_up (va_up (va_up v 5 1) 6 (nI j)) 7 0))), ((r 2), .inl (k 1, 6, .inl (fun _ => 0))), ((r 3), .inl (k 0, 12, .inl (fun _ => 0))), ((r 4), .inl (k 0, 288, .inl (fun _ => 0))), ((r 8), .inl (k 0, 2, .inl (upd (fun _ => 0) (0 : Int32).toNatClampNeg 0))), ((r 9), .inl (k 0, 48, .inl (fun _ => 0)))] H := hP
  have hD : va_D A [(h0, .inr (10, oX12 r (va_up (va_up (va_up v 5 1) 6 (nI j)) 7 0))), ((r 2), .inl (k 1, 6, .inl (fun _ => 0))), ((r 3), .inl (k 0, 12, .inl (fun _ => 0))), ((r 4), .inl (k 0, 288, .inl (fun _ => 0))), ((r 8), .inl (k 0, 2, .inl (upd (fun _ => 0) (0 : Int32).toNatClampNeg 0))), ((r 9), .inl (k 0, 48, .inl (fun _ => 0)))] := hD
  refine lv_iconst (v := 0) hx hb dX12_keep_43 (by decide) ?_
  refine lv_istore_n (lv' := [(3, .int 0), (2, .int 0), (0, .ref h0), (1, .int (nI j))]) hx hb dX12_keep_44 rfl hl (by decide) rfl (fun ls hl => ?_)
  refine keep_loop (ρ := 0) hj (by decide) hx hb hown ht hK (fun f_1 H locs ls hP hD hS hl => ?_) 25 0 _ _ _ _ (by decide) (by decide) hP hD hS (lv_sub hl [2, 3, 1, 0] rfl)
  have hl : lv_has ls 4 [(0, .ref h0), (1, .int (nI j)), (2, .int 0)] := hl
  have hP : va_P D clsL [(h0, .inr (10, oX12 r (va_up (va_up (va_up v 5 1) 6 (nI j)) 7 0))), ((r 2), .inl (k 1, 6, .inl (fun _ => 0))), ((r 3), .inl (k 0, 12, .inl (fun _ => 0))), ((r 4), .inl (k 0, 288, .inl (fun _ => 0))), ((r 8), .inl (k 0, 2, .inl (upd (fun _ => 0) (0 : Int32).toNatClampNeg 0))), ((r 9), .inl (k 0, 48, .inl f_1))] H := hP
  have hD : va_D A [(h0, .inr (10, oX12 r (va_up (va_up (va_up v 5 1) 6 (nI j)) 7 0))), ((r 2), .inl (k 1, 6, .inl (fun _ => 0))), ((r 3), .inl (k 0, 12, .inl (fun _ => 0))), ((r 4), .inl (k 0, 288, .inl (fun _ => 0))), ((r 8), .inl (k 0, 2, .inl (upd (fun _ => 0) (0 : Int32).toNatClampNeg 0))), ((r 9), .inl (k 0, 48, .inl f_1))] := hD
  refine lv_iinc (v := 1) (lv' := [(2, .int 1), (0, .ref h0), (1, .int (nI j))]) hx hb dX12_keep_83 hl (k := 2) rfl (by decide) (by decide) rfl (fun ls hl => ?_)
  refine lv_goto (tgt := 22) hx hb dX12_keep_86 (by decide) ?_
  refine lv_iload_n hx hb dX12_keep_22 rfl (lv_at hl 0 rfl) ?_
  refine lv_iconst (v := 2) hx hb dX12_keep_23 (by decide) ?_
  refine lv_icmp_ge (tgt := 89) hx hb dX12_keep_24 (by decide) (fun c_ => absurd c_ (by decide)) (fun _ => ?_)
  refine lv_aload_n hx hb dX12_keep_27 rfl (lv_at hl 1 rfl) ?_
  refine va_get (D := D) (ci := 10) (v := .ref (r 8)) (C := "TuneSchoolModel") (T := TX12) (N := 71) hx hb ht iX12 hown hK hP 0 rfl rfl 8 (by decide) (ht _ q5_0) (fun _ h9 => h9) rfl dX12_keep_28 ?_
  refine lv_iload_n hx hb dX12_keep_31 rfl (lv_at hl 0 rfl) ?_
  refine lv_aload_n hx hb dX12_keep_32 rfl (lv_at hl 1 rfl) ?_
  refine va_get (D := D) (ci := 10) (v := .ref (r 3)) (C := "TuneSchoolModel") (T := TX12) (N := 71) hx hb ht iX12 hown hK hP 0 rfl rfl 3 (by decide) (ht _ q4_235) (fun _ h9 => h9) rfl dX12_keep_33 ?_
  refine lv_iconst (v := 2) hx hb dX12_keep_36 (by decide) ?_
  refine lv_iload_n hx hb dX12_keep_37 rfl (lv_at hl 2 rfl) ?_
  refine ev_imul (v := (nI (2 * j))) hx hb dX12_keep_38 (pk_mul 2 j) ?_
  refine lv_iload_n hx hb dX12_keep_39 rfl (lv_at hl 0 rfl) ?_
  refine ev_iadd (v := (nI ((2 * j) + 1))) hx hb dX12_keep_40 (nI_add (2 * j) 1) ?_
  refine ldI (v := 0) hx hb hK hP 2 rfl (vp_in_nI (by omega) (by decide)) rfl dX12_keep_41 ?_
  refine stI hx hb hK hP hD hS 4 rfl (vin (by decide) (by decide)) dX12_keep_42 (fun H locs hP hD hS => ?_)
  have hP : va_P D clsL [(h0, .inr (10, oX12 r (va_up (va_up (va_up v 5 1) 6 (nI j)) 7 0))), ((r 2), .inl (k 1, 6, .inl (fun _ => 0))), ((r 3), .inl (k 0, 12, .inl (fun _ => 0))), ((r 4), .inl (k 0, 288, .inl (fun _ => 0))), ((r 8), .inl (k 0, 2, .inl (upd (upd (fun _ => 0) (0 : Int32).toNatClampNeg 0) (1 : Int32).toNatClampNeg 0))), ((r 9), .inl (k 0, 48, .inl f_1))] H := hP
  have hD : va_D A [(h0, .inr (10, oX12 r (va_up (va_up (va_up v 5 1) 6 (nI j)) 7 0))), ((r 2), .inl (k 1, 6, .inl (fun _ => 0))), ((r 3), .inl (k 0, 12, .inl (fun _ => 0))), ((r 4), .inl (k 0, 288, .inl (fun _ => 0))), ((r 8), .inl (k 0, 2, .inl (upd (upd (fun _ => 0) (0 : Int32).toNatClampNeg 0) (1 : Int32).toNatClampNeg 0))), ((r 9), .inl (k 0, 48, .inl f_1))] := hD
  refine lv_iconst (v := 0) hx hb dX12_keep_43 (by decide) ?_
  refine lv_istore_n (lv' := [(3, .int 0), (2, .int 1), (0, .ref h0), (1, .int (nI j))]) hx hb dX12_keep_44 rfl hl (by decide) rfl (fun ls hl => ?_)
  refine keep_loop (ρ := 1) hj (by decide) hx hb hown ht hK (fun f_2 H locs ls hP hD hS hl => ?_) 25 0 _ _ _ _ (by decide) (by decide) hP hD hS (lv_sub hl [2, 3, 1, 0] rfl)
  have hl : lv_has ls 4 [(0, .ref h0), (1, .int (nI j)), (2, .int 1)] := hl
  have hP : va_P D clsL [(h0, .inr (10, oX12 r (va_up (va_up (va_up v 5 1) 6 (nI j)) 7 0))), ((r 2), .inl (k 1, 6, .inl (fun _ => 0))), ((r 3), .inl (k 0, 12, .inl (fun _ => 0))), ((r 4), .inl (k 0, 288, .inl (fun _ => 0))), ((r 8), .inl (k 0, 2, .inl (upd (upd (fun _ => 0) (0 : Int32).toNatClampNeg 0) (1 : Int32).toNatClampNeg 0))), ((r 9), .inl (k 0, 48, .inl f_2))] H := hP
  have hD : va_D A [(h0, .inr (10, oX12 r (va_up (va_up (va_up v 5 1) 6 (nI j)) 7 0))), ((r 2), .inl (k 1, 6, .inl (fun _ => 0))), ((r 3), .inl (k 0, 12, .inl (fun _ => 0))), ((r 4), .inl (k 0, 288, .inl (fun _ => 0))), ((r 8), .inl (k 0, 2, .inl (upd (upd (fun _ => 0) (0 : Int32).toNatClampNeg 0) (1 : Int32).toNatClampNeg 0))), ((r 9), .inl (k 0, 48, .inl f_2))] := hD
  refine lv_iinc (v := 2) (lv' := [(2, .int 2), (0, .ref h0), (1, .int (nI j))]) hx hb dX12_keep_83 hl (k := 2) rfl (by decide) (by decide) rfl (fun ls hl => ?_)
  refine lv_goto (tgt := 22) hx hb dX12_keep_86 (by decide) ?_
  refine lv_iload_n hx hb dX12_keep_22 rfl (lv_at hl 0 rfl) ?_
  refine lv_iconst (v := 2) hx hb dX12_keep_23 (by decide) ?_
  refine lv_icmp_ge (tgt := 89) hx hb dX12_keep_24 (by decide) (fun _ => ?_) (fun c_ => absurd c_ (by decide))
  have hP9 := hP.sub (ws' := [(h0, .inr (10, oX12 r (va_up (va_up (va_up v 5 1) 6 (nI j)) 7 0))), ((r 2), .inl (k 1, 6, .inl (fun _ => 0))), ((r 3), .inl (k 0, 12, .inl (fun _ => 0))), ((r 4), .inl (k 0, 288, .inl (fun _ => 0)))]) [0, 1, 2, 3] rfl
  have hD9 := hD.sub (ws' := [(h0, .inr (10, oX12 r (va_up (va_up (va_up v 5 1) 6 (nI j)) 7 0))), ((r 2), .inl (k 1, 6, .inl (fun _ => 0))), ((r 3), .inl (k 0, 12, .inl (fun _ => 0))), ((r 4), .inl (k 0, 288, .inl (fun _ => 0)))]) [0, 1, 2, 3] (by decide) rfl
  exact W.vret hx hb hr (fun t ht hW => ⟨⟨(), rfl, trivial, by rw [ht]; exact hP9, hD9⟩, hS.F ht⟩) hS.2.2 dX12_keep_89
