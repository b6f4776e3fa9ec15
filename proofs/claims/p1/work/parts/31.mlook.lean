set_option maxHeartbeats 400000 in
set_option maxRecDepth 100000 in
theorem c_X12_note (l : Launch) (D : va_G) (k : Nat → ClassId) (h0 : Nat) (r : Nat → Nat) (p0 p1 p2 p3 : Int32)  : CI l yX12_note cX12_note 5 (some .int) 2 42 0 0 D k [(h0, .inr (10, oX12 r fm)), ((r 2), .inl (k 1, 6, .inl (fun _ => 0)))] [.ref h0, .int p0, .int p1, .int p2, .int p3] (S := Unit) (fun (r : Int32) (_ : Unit) => r = an_note p0 p1 p2 p3) (fun _ => ([] : va_W)) := by
  intro sz
  refine mtX (Qc := fun A => va_Qi (S := Unit) (fun (r : Int32) (_ : Unit) => r = an_note p0 p1 p2 p3) (fun u t => WX D A ((fun _ => ([] : va_W)) u) t) A) (free := fun A => A) (by decide) (Nat.le_of_ble_eq_true rfl) ?_
  intro p e s m below meth c ls A hB hl
  obtain ⟨hx, hb, hml, hr, hlocks, hnm, hown, ht, hK, hN, hA, hP, hD, hS⟩ := hB
  have hl : lv_has ls 5 [(0, .ref h0), (1, .int p0), (2, .int p1), (3, .int p2), (4, .int p3)] := hl
  refine lv_iload_n hx hb dX12_note_0 rfl (lv_at hl 1 rfl) ?_
  refine afterP (xS (fr := 1) (lo := 22) (mc := 0) (ms := 0) (As := [.int p0]) (rest := []) (wc := []) ⟨hx, hb, hml, hown, ht⟩ (c_X12_isVoice l D k p0 _) hK hN nilP (nilD (A := A)) q5_211 q5_212 q1_6 q5_213 md_X12_isVoice ⟨by decide, by decide⟩ rfl hl.1 rfl (Nat.le_of_ble_eq_true rfl) dX12_note_1 ⟨by decide, by decide⟩) (fun r_1 h_2 => ?_)
  rcases h_2 with ⟨rfl, h_2⟩ | ⟨rfl, h_2⟩
  · skip
    refine lv_if_eq (tgt := 28) hx hb dX12_note_4 (by decide) (fun c_ => absurd c_ (by decide)) (fun _ => ?_)
    refine lv_iload_n hx hb dX12_note_7 rfl (lv_at hl 3 rfl) ?_
    refine lv_iconst (v := 0) hx hb dX12_note_8 (by decide) ?_
    refine lv_bipush (v := 120) hx hb dX12_note_9 (by decide) ?_
    refine afterP (xS (fr := 0) (lo := 0) (mc := 0) (ms := 0) (As := [.int p2, .int 0, .int 120]) (rest := []) (wc := []) ⟨hx, hb, hml, hown, ht⟩ (c_X12_in l D k p2 0 120 0 120 (by decide) (by decide) _) hK hN nilP (nilD (A := A)) q5_214 q5_215 q1_6 q5_216 md_X12_in ⟨by decide, by decide⟩ rfl hl.1 rfl (Nat.le_of_ble_eq_true rfl) dX12_note_11 ⟨by decide, by decide⟩) (fun r_3 h_4 => ?_)
    rcases h_4 with ⟨rfl, h_4⟩ | ⟨rfl, h_4⟩
    · skip
      refine lv_if_eq (tgt := 28) hx hb dX12_note_14 (by decide) (fun c_ => absurd c_ (by decide)) (fun _ => ?_)
      refine lv_iload hx hb dX12_note_17 (lv_at hl 4 rfl) ?_
      refine lv_iconst (v := 0) hx hb dX12_note_19 (by decide) ?_
      refine lv_bipush (v := 8) hx hb dX12_note_20 (by decide) ?_
      refine afterP (xS (fr := 0) (lo := 0) (mc := 0) (ms := 0) (As := [.int p3, .int 0, .int 8]) (rest := []) (wc := []) ⟨hx, hb, hml, hown, ht⟩ (c_X12_in l D k p3 0 8 0 8 (by decide) (by decide) _) hK hN nilP (nilD (A := A)) q5_214 q5_215 q1_6 q5_216 md_X12_in ⟨by decide, by decide⟩ rfl hl.1 rfl (Nat.le_of_ble_eq_true rfl) dX12_note_22 ⟨by decide, by decide⟩) (fun r_5 h_6 => ?_)
      rcases h_6 with ⟨rfl, h_6⟩ | ⟨rfl, h_6⟩
      · skip
        refine lv_if_ne (tgt := 30) hx hb dX12_note_25 (by decide) (fun _ => ?_) (fun c_ => absurd c_ (by decide))
        refine lv_aload_n hx hb dX12_note_30 rfl (lv_at hl 0 rfl) ?_
        refine lv_iconst (v := 0) hx hb dX12_note_31 (by decide) ?_
        refine va_put (D := D) (ci := 10) (v := .int 0) (ty := .int) (C := "TuneSchoolModel") (T := TX12) (N := 71) hx hb ht iX12 tyX12 tyX12_ok nmX12 hown hK hP hD hS 0 rfl rfl 0 (by decide) (ht _ q4_232) (fun _ h9 => h9) rfl (by decide +kernel) rfl rfl (Nat.le_of_ble_eq_true rfl) dX12_note_32 (fun H locs hP hD hS => ?_)
        have hP : va_P D clsL [(h0, .inr (10, oX12 r (va_up fm 0 0))), ((r 2), .inl (k 1, 6, .inl (fun _ => 0)))] H := hP
        have hD : va_D A [(h0, .inr (10, oX12 r (va_up fm 0 0))), ((r 2), .inl (k 1, 6, .inl (fun _ => 0)))] := hD
        refine lv_aload_n hx hb dX12_note_35 rfl (lv_at hl 0 rfl) ?_
        refine va_get (D := D) (ci := 10) (v := .ref (r 2)) (C := "TuneSchoolModel") (T := TX12) (N := 71) hx hb ht iX12 hown hK hP 0 rfl rfl 2 (by decide) (ht _ q4_234) (fun _ h9 => h9) rfl dX12_note_36 ?_
        refine lv_iload_n hx hb dX12_note_39 rfl (lv_at hl 1 rfl) ?_
        refine ldZ (v := 0) hx hb hK hP 1 rfl (vin (by omega) (by omega)) rfl dX12_note_40 ?_
        refine lv_if_ne (tgt := 50) hx hb dX12_note_41 (by decide) (fun c_ => absurd c_ (by decide)) (fun _ => ?_)
        refine lv_aload_n hx hb dX12_note_44 rfl (lv_at hl 0 rfl) ?_
        refine lv_iconst (v := 1) hx hb dX12_note_45 (by decide) ?_
        refine afterI (wr := [((r 2), .inl (k 1, 6, .inl (fun _ => 0)))]) (xV (fr := 0) (lo := 0) (mc := 0) (ms := 0) (As := [.int 1]) (rest := []) (wc := [(h0, .inr (10, oX12 r (va_up fm 0 0)))]) ⟨hx, hb, hml, hown, ht⟩ (c_X12_finds l D k h0 r (va_up fm 0 0) 1 _) hK hN (hP.sub (ws' := [(h0, .inr (10, oX12 r (va_up fm 0 0)))]) [0] rfl) (hD.sub (ws' := [(h0, .inr (10, oX12 r (va_up fm 0 0)))]) [0] (by decide) rfl) 10 0 rfl rfl rfl q5_217 q5_219 qs_17 q1_6 q5_220 md_X12_finds ⟨by decide, by decide⟩ rfl hl.1 rfl (Nat.le_of_ble_eq_true rfl) dX12_note_46 ⟨by decide, by decide⟩) hP hD hS hA [0] [1] rfl rfl rfl (by decide) (fun r_7 u_8 H locs h_9 hP hD hS => ?_)
        obtain rfl : r_7 = (-11) := h_9.trans (by decide)
        have hP : va_P D clsL [((r 2), .inl (k 1, 6, .inl (fun _ => 0)))] H := hP
        have hD : va_D A [((r 2), .inl (k 1, 6, .inl (fun _ => 0)))] := hD
        exact W.iret (v := (-11)) hx hb hr (fun t ht hW => ⟨⟨(-11), (), rfl, (by first | (unfold an_note; (repeat' split) <;> first | rfl | (exfalso; omega)) | rfl | decide), nilP, nilD⟩, hS.F ht⟩) hS.2.2 dX12_note_49
      · skip
        refine lv_if_ne (tgt := 30) hx hb dX12_note_25 (by decide) (fun c_ => absurd c_ (by decide)) (fun _ => ?_)
        refine lv_iconst (v := (-1)) hx hb dX12_note_28 (by decide) ?_
        exact W.iret (v := (-1)) hx hb hr (fun t ht hW => ⟨⟨(-1), (), rfl, (by first | (unfold an_note; (repeat' split) <;> first | rfl | (exfalso; omega)) | rfl | decide), nilP, nilD⟩, hS.F ht⟩) hS.2.2 dX12_note_29
    · skip
      refine lv_if_eq (tgt := 28) hx hb dX12_note_14 (by decide) (fun _ => ?_) (fun c_ => absurd c_ (by decide))
      refine lv_iconst (v := (-1)) hx hb dX12_note_28 (by decide) ?_
      exact W.iret (v := (-1)) hx hb hr (fun t ht hW => ⟨⟨(-1), (), rfl, (by first | (unfold an_note; (repeat' split) <;> first | rfl | (exfalso; omega)) | rfl | decide), nilP, nilD⟩, hS.F ht⟩) hS.2.2 dX12_note_29
  · skip
    refine lv_if_eq (tgt := 28) hx hb dX12_note_4 (by decide) (fun _ => ?_) (fun c_ => absurd c_ (by decide))
    refine lv_iconst (v := (-1)) hx hb dX12_note_28 (by decide) ?_
    exact W.iret (v := (-1)) hx hb hr (fun t ht hW => ⟨⟨(-1), (), rfl, (by first | (unfold an_note; (repeat' split) <;> first | rfl | (exfalso; omega)) | rfl | decide), nilP, nilD⟩, hS.F ht⟩) hS.2.2 dX12_note_29
set_option maxHeartbeats 400000 in
set_option maxRecDepth 100000 in
theorem c_X12_cut (l : Launch) (D : va_G) (k : Nat → ClassId) (h0 : Nat) (r : Nat → Nat) (p0 p1 p2 : Int32)  : CI l yX12_cut cX12_cut 5 (some .int) 2 42 0 0 D k [(h0, .inr (10, oX12 r fm)), ((r 2), .inl (k 1, 6, .inl (fun _ => 0)))] [.ref h0, .int p0, .int p1, .int p2] (S := Unit) (fun (r : Int32) (_ : Unit) => r = an_cut p0 p1 p2) (fun _ => ([] : va_W)) := by
  intro sz
  refine mtX (Qc := fun A => va_Qi (S := Unit) (fun (r : Int32) (_ : Unit) => r = an_cut p0 p1 p2) (fun u t => WX D A ((fun _ => ([] : va_W)) u) t) A) (free := fun A => A) (by decide) (Nat.le_of_ble_eq_true rfl) ?_
  intro p e s m below meth c ls A hB hl
  obtain ⟨hx, hb, hml, hr, hlocks, hnm, hown, ht, hK, hN, hA, hP, hD, hS⟩ := hB
  have hl : lv_has ls 5 [(0, .ref h0), (1, .int p0), (2, .int p1), (3, .int p2)] := hl
  refine lv_iload_n hx hb dX12_cut_0 rfl (lv_at hl 1 rfl) ?_
  refine afterP (xS (fr := 1) (lo := 22) (mc := 0) (ms := 0) (As := [.int p0]) (rest := []) (wc := []) ⟨hx, hb, hml, hown, ht⟩ (c_X12_isVoice l D k p0 _) hK hN nilP (nilD (A := A)) q5_211 q5_212 q1_6 q5_213 md_X12_isVoice ⟨by decide, by decide⟩ rfl hl.1 rfl (Nat.le_of_ble_eq_true rfl) dX12_cut_1 ⟨by decide, by decide⟩) (fun r_1 h_2 => ?_)
  rcases h_2 with ⟨rfl, h_2⟩ | ⟨rfl, h_2⟩
  · skip
    refine lv_if_eq (tgt := 22) hx hb dX12_cut_4 (by decide) (fun c_ => absurd c_ (by decide)) (fun _ => ?_)
    refine lv_iload_n hx hb dX12_cut_7 rfl (lv_at hl 2 rfl) ?_
    refine lv_iconst (v := 0) hx hb dX12_cut_8 (by decide) ?_
    refine lv_iconst (v := 1) hx hb dX12_cut_9 (by decide) ?_
    refine afterP (xS (fr := 0) (lo := 0) (mc := 0) (ms := 0) (As := [.int p1, .int 0, .int 1]) (rest := []) (wc := []) ⟨hx, hb, hml, hown, ht⟩ (c_X12_in l D k p1 0 1 0 1 (by decide) (by decide) _) hK hN nilP (nilD (A := A)) q5_214 q5_215 q1_6 q5_216 md_X12_in ⟨by decide, by decide⟩ rfl hl.1 rfl (Nat.le_of_ble_eq_true rfl) dX12_cut_10 ⟨by decide, by decide⟩) (fun r_3 h_4 => ?_)
    rcases h_4 with ⟨rfl, h_4⟩ | ⟨rfl, h_4⟩
    · skip
      refine lv_if_eq (tgt := 22) hx hb dX12_cut_13 (by decide) (fun c_ => absurd c_ (by decide)) (fun _ => ?_)
      refine lv_iload_n hx hb dX12_cut_16 rfl (lv_at hl 3 rfl) ?_
      refine lv_bipush (v := 24) hx hb dX12_cut_17 (by decide) ?_
      refine lv_icmp_le (tgt := 24) hx hb dX12_cut_19 (by decide) (fun c_5 => ?_) (fun c_5 => ?_)
      · skip
        have c_5 := i_le (a := p2.toInt) (b := 24) rfl (by decide) c_5
        refine lv_aload_n hx hb dX12_cut_24 rfl (lv_at hl 0 rfl) ?_
        refine lv_iconst (v := 0) hx hb dX12_cut_25 (by decide) ?_
        refine va_put (D := D) (ci := 10) (v := .int 0) (ty := .int) (C := "TuneSchoolModel") (T := TX12) (N := 71) hx hb ht iX12 tyX12 tyX12_ok nmX12 hown hK hP hD hS 0 rfl rfl 0 (by decide) (ht _ q4_232) (fun _ h9 => h9) rfl (by decide +kernel) rfl rfl (Nat.le_of_ble_eq_true rfl) dX12_cut_26 (fun H locs hP hD hS => ?_)
        have hP : va_P D clsL [(h0, .inr (10, oX12 r (va_up fm 0 0))), ((r 2), .inl (k 1, 6, .inl (fun _ => 0)))] H := hP
        have hD : va_D A [(h0, .inr (10, oX12 r (va_up fm 0 0))), ((r 2), .inl (k 1, 6, .inl (fun _ => 0)))] := hD
        refine lv_aload_n hx hb dX12_cut_29 rfl (lv_at hl 0 rfl) ?_
        refine va_get (D := D) (ci := 10) (v := .ref (r 2)) (C := "TuneSchoolModel") (T := TX12) (N := 71) hx hb ht iX12 hown hK hP 0 rfl rfl 2 (by decide) (ht _ q4_234) (fun _ h9 => h9) rfl dX12_cut_30 ?_
        refine lv_iload_n hx hb dX12_cut_33 rfl (lv_at hl 1 rfl) ?_
        refine ldZ (v := 0) hx hb hK hP 1 rfl (vin (by omega) (by omega)) rfl dX12_cut_34 ?_
        refine lv_if_ne (tgt := 44) hx hb dX12_cut_35 (by decide) (fun c_ => absurd c_ (by decide)) (fun _ => ?_)
        refine lv_aload_n hx hb dX12_cut_38 rfl (lv_at hl 0 rfl) ?_
        refine lv_iconst (v := 1) hx hb dX12_cut_39 (by decide) ?_
        refine afterI (wr := [((r 2), .inl (k 1, 6, .inl (fun _ => 0)))]) (xV (fr := 0) (lo := 0) (mc := 0) (ms := 0) (As := [.int 1]) (rest := []) (wc := [(h0, .inr (10, oX12 r (va_up fm 0 0)))]) ⟨hx, hb, hml, hown, ht⟩ (c_X12_finds l D k h0 r (va_up fm 0 0) 1 _) hK hN (hP.sub (ws' := [(h0, .inr (10, oX12 r (va_up fm 0 0)))]) [0] rfl) (hD.sub (ws' := [(h0, .inr (10, oX12 r (va_up fm 0 0)))]) [0] (by decide) rfl) 10 0 rfl rfl rfl q5_217 q5_219 qs_17 q1_6 q5_220 md_X12_finds ⟨by decide, by decide⟩ rfl hl.1 rfl (Nat.le_of_ble_eq_true rfl) dX12_cut_40 ⟨by decide, by decide⟩) hP hD hS hA [0] [1] rfl rfl rfl (by decide) (fun r_6 u_7 H locs h_8 hP hD hS => ?_)
        obtain rfl : r_6 = (-11) := h_8.trans (by decide)
        have hP : va_P D clsL [((r 2), .inl (k 1, 6, .inl (fun _ => 0)))] H := hP
        have hD : va_D A [((r 2), .inl (k 1, 6, .inl (fun _ => 0)))] := hD
        exact W.iret (v := (-11)) hx hb hr (fun t ht hW => ⟨⟨(-11), (), rfl, (by first | (unfold an_cut; (repeat' split) <;> first | rfl | (exfalso; omega)) | rfl | decide), nilP, nilD⟩, hS.F ht⟩) hS.2.2 dX12_cut_43
      · skip
        have c_5 := i_nle (a := p2.toInt) (b := 24) rfl (by decide) c_5
        refine lv_iconst (v := (-1)) hx hb dX12_cut_22 (by decide) ?_
        exact W.iret (v := (-1)) hx hb hr (fun t ht hW => ⟨⟨(-1), (), rfl, (by first | (unfold an_cut; (repeat' split) <;> first | rfl | (exfalso; omega)) | rfl | decide), nilP, nilD⟩, hS.F ht⟩) hS.2.2 dX12_cut_23
    · skip
      refine lv_if_eq (tgt := 22) hx hb dX12_cut_13 (by decide) (fun _ => ?_) (fun c_ => absurd c_ (by decide))
      refine lv_iconst (v := (-1)) hx hb dX12_cut_22 (by decide) ?_
      exact W.iret (v := (-1)) hx hb hr (fun t ht hW => ⟨⟨(-1), (), rfl, (by first | (unfold an_cut; (repeat' split) <;> first | rfl | (exfalso; omega)) | rfl | decide), nilP, nilD⟩, hS.F ht⟩) hS.2.2 dX12_cut_23
  · skip
    refine lv_if_eq (tgt := 22) hx hb dX12_cut_4 (by decide) (fun _ => ?_) (fun c_ => absurd c_ (by decide))
    refine lv_iconst (v := (-1)) hx hb dX12_cut_22 (by decide) ?_
    exact W.iret (v := (-1)) hx hb hr (fun t ht hW => ⟨⟨(-1), (), rfl, (by first | (unfold an_cut; (repeat' split) <;> first | rfl | (exfalso; omega)) | rfl | decide), nilP, nilD⟩, hS.F ht⟩) hS.2.2 dX12_cut_23
set_option maxHeartbeats 400000 in
set_option maxRecDepth 100000 in
theorem c_X12_size (l : Launch) (D : va_G) (k : Nat → ClassId) (h0 : Nat) (r : Nat → Nat) (p0 p1 : Int32)  : CI l yX12_size cX12_size 3 (some .int) 2 42 0 0 D k [(h0, .inr (10, oX12 r fm)), ((r 2), .inl (k 1, 6, .inl (fun _ => 0)))] [.ref h0, .int p0, .int p1] (S := Unit) (fun (r : Int32) (_ : Unit) => r = an_size p0 p1) (fun _ => ([] : va_W)) := by
  intro sz
  refine mtX (Qc := fun A => va_Qi (S := Unit) (fun (r : Int32) (_ : Unit) => r = an_size p0 p1) (fun u t => WX D A ((fun _ => ([] : va_W)) u) t) A) (free := fun A => A) (by decide) (Nat.le_of_ble_eq_true rfl) ?_
  intro p e s m below meth c ls A hB hl
  obtain ⟨hx, hb, hml, hr, hlocks, hnm, hown, ht, hK, hN, hA, hP, hD, hS⟩ := hB
  have hl : lv_has ls 3 [(0, .ref h0), (1, .int p0), (2, .int p1)] := hl
  refine lv_iload_n hx hb dX12_size_0 rfl (lv_at hl 1 rfl) ?_
  refine afterP (xS (fr := 1) (lo := 22) (mc := 0) (ms := 0) (As := [.int p0]) (rest := []) (wc := []) ⟨hx, hb, hml, hown, ht⟩ (c_X12_isVoice l D k p0 _) hK hN nilP (nilD (A := A)) q5_211 q5_212 q1_6 q5_213 md_X12_isVoice ⟨by decide, by decide⟩ rfl hl.1 rfl (Nat.le_of_ble_eq_true rfl) dX12_size_1 ⟨by decide, by decide⟩) (fun r_1 h_2 => ?_)
  rcases h_2 with ⟨rfl, h_2⟩ | ⟨rfl, h_2⟩
  · skip
    refine lv_if_eq (tgt := 16) hx hb dX12_size_4 (by decide) (fun c_ => absurd c_ (by decide)) (fun _ => ?_)
    refine lv_iload_n hx hb dX12_size_7 rfl (lv_at hl 2 rfl) ?_
    refine lv_iconst (v := 0) hx hb dX12_size_8 (by decide) ?_
    refine lv_iconst (v := 1) hx hb dX12_size_9 (by decide) ?_
    refine afterP (xS (fr := 0) (lo := 0) (mc := 0) (ms := 0) (As := [.int p1, .int 0, .int 1]) (rest := []) (wc := []) ⟨hx, hb, hml, hown, ht⟩ (c_X12_in l D k p1 0 1 0 1 (by decide) (by decide) _) hK hN nilP (nilD (A := A)) q5_214 q5_215 q1_6 q5_216 md_X12_in ⟨by decide, by decide⟩ rfl hl.1 rfl (Nat.le_of_ble_eq_true rfl) dX12_size_10 ⟨by decide, by decide⟩) (fun r_3 h_4 => ?_)
    rcases h_4 with ⟨rfl, h_4⟩ | ⟨rfl, h_4⟩
    · skip
      refine lv_if_ne (tgt := 18) hx hb dX12_size_13 (by decide) (fun _ => ?_) (fun c_ => absurd c_ (by decide))
      refine lv_aload_n hx hb dX12_size_18 rfl (lv_at hl 0 rfl) ?_
      refine lv_iconst (v := 0) hx hb dX12_size_19 (by decide) ?_
      refine va_put (D := D) (ci := 10) (v := .int 0) (ty := .int) (C := "TuneSchoolModel") (T := TX12) (N := 71) hx hb ht iX12 tyX12 tyX12_ok nmX12 hown hK hP hD hS 0 rfl rfl 0 (by decide) (ht _ q4_232) (fun _ h9 => h9) rfl (by decide +kernel) rfl rfl (Nat.le_of_ble_eq_true rfl) dX12_size_20 (fun H locs hP hD hS => ?_)
      have hP : va_P D clsL [(h0, .inr (10, oX12 r (va_up fm 0 0))), ((r 2), .inl (k 1, 6, .inl (fun _ => 0)))] H := hP
      have hD : va_D A [(h0, .inr (10, oX12 r (va_up fm 0 0))), ((r 2), .inl (k 1, 6, .inl (fun _ => 0)))] := hD
      refine lv_aload_n hx hb dX12_size_23 rfl (lv_at hl 0 rfl) ?_
      refine va_get (D := D) (ci := 10) (v := .ref (r 2)) (C := "TuneSchoolModel") (T := TX12) (N := 71) hx hb ht iX12 hown hK hP 0 rfl rfl 2 (by decide) (ht _ q4_234) (fun _ h9 => h9) rfl dX12_size_24 ?_
      refine lv_iload_n hx hb dX12_size_27 rfl (lv_at hl 1 rfl) ?_
      refine ldZ (v := 0) hx hb hK hP 1 rfl (vin (by omega) (by omega)) rfl dX12_size_28 ?_
      refine lv_if_eq (tgt := 45) hx hb dX12_size_29 (by decide) (fun _ => ?_) (fun c_ => absurd c_ (by decide))
      refine lv_aload_n hx hb dX12_size_45 rfl (lv_at hl 0 rfl) ?_
      refine lv_iconst (v := 1) hx hb dX12_size_46 (by decide) ?_
      refine afterI (wr := [((r 2), .inl (k 1, 6, .inl (fun _ => 0)))]) (xV (fr := 0) (lo := 0) (mc := 0) (ms := 0) (As := [.int 1]) (rest := []) (wc := [(h0, .inr (10, oX12 r (va_up fm 0 0)))]) ⟨hx, hb, hml, hown, ht⟩ (c_X12_finds l D k h0 r (va_up fm 0 0) 1 _) hK hN (hP.sub (ws' := [(h0, .inr (10, oX12 r (va_up fm 0 0)))]) [0] rfl) (hD.sub (ws' := [(h0, .inr (10, oX12 r (va_up fm 0 0)))]) [0] (by decide) rfl) 10 0 rfl rfl rfl q5_217 q5_219 qs_17 q1_6 q5_220 md_X12_finds ⟨by decide, by decide⟩ rfl hl.1 rfl (Nat.le_of_ble_eq_true rfl) dX12_size_47 ⟨by decide, by decide⟩) hP hD hS hA [0] [1] rfl rfl rfl (by decide) (fun r_5 u_6 H locs h_7 hP hD hS => ?_)
      obtain rfl : r_5 = (-11) := h_7.trans (by decide)
      have hP : va_P D clsL [((r 2), .inl (k 1, 6, .inl (fun _ => 0)))] H := hP
      have hD : va_D A [((r 2), .inl (k 1, 6, .inl (fun _ => 0)))] := hD
      exact W.iret (v := (-11)) hx hb hr (fun t ht hW => ⟨⟨(-11), (), rfl, (by first | (unfold an_size; (repeat' split) <;> first | rfl | (exfalso; omega)) | rfl | decide), nilP, nilD⟩, hS.F ht⟩) hS.2.2 dX12_size_50
    · skip
      refine lv_if_ne (tgt := 18) hx hb dX12_size_13 (by decide) (fun c_ => absurd c_ (by decide)) (fun _ => ?_)
      refine lv_iconst (v := (-1)) hx hb dX12_size_16 (by decide) ?_
      exact W.iret (v := (-1)) hx hb hr (fun t ht hW => ⟨⟨(-1), (), rfl, (by first | (unfold an_size; (repeat' split) <;> first | rfl | (exfalso; omega)) | rfl | decide), nilP, nilD⟩, hS.F ht⟩) hS.2.2 dX12_size_17
  · skip
    refine lv_if_eq (tgt := 16) hx hb dX12_size_4 (by decide) (fun _ => ?_) (fun c_ => absurd c_ (by decide))
    refine lv_iconst (v := (-1)) hx hb dX12_size_16 (by decide) ?_
    exact W.iret (v := (-1)) hx hb hr (fun t ht hW => ⟨⟨(-1), (), rfl, (by first | (unfold an_size; (repeat' split) <;> first | rfl | (exfalso; omega)) | rfl | decide), nilP, nilD⟩, hS.F ht⟩) hS.2.2 dX12_size_17
set_option maxHeartbeats 400000 in
set_option maxRecDepth 100000 in
theorem c_X12_number (l : Launch) (D : va_G) (k : Nat → ClassId) (h0 : Nat) (r : Nat → Nat) (p0 p1 p2 : Int32)  : CI l yX12_number cX12_number 4 (some .int) 2 42 0 0 D k [(h0, .inr (10, oX12 r fm)), ((r 2), .inl (k 1, 6, .inl (fun _ => 0)))] [.ref h0, .int p0, .int p1, .int p2] (S := Unit) (fun (r : Int32) (_ : Unit) => r = an_number p0 p1 p2) (fun _ => ([] : va_W)) := by
  intro sz
  refine mtX (Qc := fun A => va_Qi (S := Unit) (fun (r : Int32) (_ : Unit) => r = an_number p0 p1 p2) (fun u t => WX D A ((fun _ => ([] : va_W)) u) t) A) (free := fun A => A) (by decide) (Nat.le_of_ble_eq_true rfl) ?_
  intro p e s m below meth c ls A hB hl
  obtain ⟨hx, hb, hml, hr, hlocks, hnm, hown, ht, hK, hN, hA, hP, hD, hS⟩ := hB
  have hl : lv_has ls 4 [(0, .ref h0), (1, .int p0), (2, .int p1), (3, .int p2)] := hl
  refine lv_iload_n hx hb dX12_number_0 rfl (lv_at hl 1 rfl) ?_
  refine afterP (xS (fr := 1) (lo := 22) (mc := 0) (ms := 0) (As := [.int p0]) (rest := []) (wc := []) ⟨hx, hb, hml, hown, ht⟩ (c_X12_isVoice l D k p0 _) hK hN nilP (nilD (A := A)) q5_211 q5_212 q1_6 q5_213 md_X12_isVoice ⟨by decide, by decide⟩ rfl hl.1 rfl (Nat.le_of_ble_eq_true rfl) dX12_number_1 ⟨by decide, by decide⟩) (fun r_1 h_2 => ?_)
  rcases h_2 with ⟨rfl, h_2⟩ | ⟨rfl, h_2⟩
  · skip
    refine lv_if_eq (tgt := 16) hx hb dX12_number_4 (by decide) (fun c_ => absurd c_ (by decide)) (fun _ => ?_)
    refine lv_iload_n hx hb dX12_number_7 rfl (lv_at hl 2 rfl) ?_
    refine lv_iconst (v := 0) hx hb dX12_number_8 (by decide) ?_
    refine lv_iconst (v := 1) hx hb dX12_number_9 (by decide) ?_
    refine afterP (xS (fr := 0) (lo := 0) (mc := 0) (ms := 0) (As := [.int p1, .int 0, .int 1]) (rest := []) (wc := []) ⟨hx, hb, hml, hown, ht⟩ (c_X12_in l D k p1 0 1 0 1 (by decide) (by decide) _) hK hN nilP (nilD (A := A)) q5_214 q5_215 q1_6 q5_216 md_X12_in ⟨by decide, by decide⟩ rfl hl.1 rfl (Nat.le_of_ble_eq_true rfl) dX12_number_10 ⟨by decide, by decide⟩) (fun r_3 h_4 => ?_)
    rcases h_4 with ⟨rfl, h_4⟩ | ⟨rfl, h_4⟩
    · skip
      refine lv_if_ne (tgt := 18) hx hb dX12_number_13 (by decide) (fun _ => ?_) (fun c_ => absurd c_ (by decide))
      refine lv_aload_n hx hb dX12_number_18 rfl (lv_at hl 0 rfl) ?_
      refine lv_iconst (v := 0) hx hb dX12_number_19 (by decide) ?_
      refine va_put (D := D) (ci := 10) (v := .int 0) (ty := .int) (C := "TuneSchoolModel") (T := TX12) (N := 71) hx hb ht iX12 tyX12 tyX12_ok nmX12 hown hK hP hD hS 0 rfl rfl 0 (by decide) (ht _ q4_232) (fun _ h9 => h9) rfl (by decide +kernel) rfl rfl (Nat.le_of_ble_eq_true rfl) dX12_number_20 (fun H locs hP hD hS => ?_)
      have hP : va_P D clsL [(h0, .inr (10, oX12 r (va_up fm 0 0))), ((r 2), .inl (k 1, 6, .inl (fun _ => 0)))] H := hP
      have hD : va_D A [(h0, .inr (10, oX12 r (va_up fm 0 0))), ((r 2), .inl (k 1, 6, .inl (fun _ => 0)))] := hD
      refine lv_aload_n hx hb dX12_number_23 rfl (lv_at hl 0 rfl) ?_
      refine va_get (D := D) (ci := 10) (v := .ref (r 2)) (C := "TuneSchoolModel") (T := TX12) (N := 71) hx hb ht iX12 hown hK hP 0 rfl rfl 2 (by decide) (ht _ q4_234) (fun _ h9 => h9) rfl dX12_number_24 ?_
      refine lv_iload_n hx hb dX12_number_27 rfl (lv_at hl 1 rfl) ?_
      refine ldZ (v := 0) hx hb hK hP 1 rfl (vin (by omega) (by omega)) rfl dX12_number_28 ?_
      refine lv_if_ne (tgt := 38) hx hb dX12_number_29 (by decide) (fun c_ => absurd c_ (by decide)) (fun _ => ?_)
      refine lv_aload_n hx hb dX12_number_32 rfl (lv_at hl 0 rfl) ?_
      refine lv_iconst (v := 1) hx hb dX12_number_33 (by decide) ?_
      refine afterI (wr := [((r 2), .inl (k 1, 6, .inl (fun _ => 0)))]) (xV (fr := 0) (lo := 0) (mc := 0) (ms := 0) (As := [.int 1]) (rest := []) (wc := [(h0, .inr (10, oX12 r (va_up fm 0 0)))]) ⟨hx, hb, hml, hown, ht⟩ (c_X12_finds l D k h0 r (va_up fm 0 0) 1 _) hK hN (hP.sub (ws' := [(h0, .inr (10, oX12 r (va_up fm 0 0)))]) [0] rfl) (hD.sub (ws' := [(h0, .inr (10, oX12 r (va_up fm 0 0)))]) [0] (by decide) rfl) 10 0 rfl rfl rfl q5_217 q5_219 qs_17 q1_6 q5_220 md_X12_finds ⟨by decide, by decide⟩ rfl hl.1 rfl (Nat.le_of_ble_eq_true rfl) dX12_number_34 ⟨by decide, by decide⟩) hP hD hS hA [0] [1] rfl rfl rfl (by decide) (fun r_5 u_6 H locs h_7 hP hD hS => ?_)
      obtain rfl : r_5 = (-11) := h_7.trans (by decide)
      have hP : va_P D clsL [((r 2), .inl (k 1, 6, .inl (fun _ => 0)))] H := hP
      have hD : va_D A [((r 2), .inl (k 1, 6, .inl (fun _ => 0)))] := hD
      exact W.iret (v := (-11)) hx hb hr (fun t ht hW => ⟨⟨(-11), (), rfl, (by first | (unfold an_number; (repeat' split) <;> first | rfl | (exfalso; omega)) | rfl | decide), nilP, nilD⟩, hS.F ht⟩) hS.2.2 dX12_number_37
    · skip
      refine lv_if_ne (tgt := 18) hx hb dX12_number_13 (by decide) (fun c_ => absurd c_ (by decide)) (fun _ => ?_)
      refine lv_iconst (v := (-1)) hx hb dX12_number_16 (by decide) ?_
      exact W.iret (v := (-1)) hx hb hr (fun t ht hW => ⟨⟨(-1), (), rfl, (by first | (unfold an_number; (repeat' split) <;> first | rfl | (exfalso; omega)) | rfl | decide), nilP, nilD⟩, hS.F ht⟩) hS.2.2 dX12_number_17
  · skip
    refine lv_if_eq (tgt := 16) hx hb dX12_number_4 (by decide) (fun _ => ?_) (fun c_ => absurd c_ (by decide))
    refine lv_iconst (v := (-1)) hx hb dX12_number_16 (by decide) ?_
    exact W.iret (v := (-1)) hx hb hr (fun t ht hW => ⟨⟨(-1), (), rfl, (by first | (unfold an_number; (repeat' split) <;> first | rfl | (exfalso; omega)) | rfl | decide), nilP, nilD⟩, hS.F ht⟩) hS.2.2 dX12_number_17
set_option maxHeartbeats 400000 in
set_option maxRecDepth 100000 in
theorem c_X12_end (l : Launch) (D : va_G) (k : Nat → ClassId) (h0 : Nat) (r : Nat → Nat) (p0 : Int32)  : CI l yX12_end cX12_end 3 (some .int) 2 42 0 0 D k [(h0, .inr (10, oX12 r fm)), ((r 2), .inl (k 1, 6, .inl (fun _ => 0)))] [.ref h0, .int p0] (S := Unit) (fun (r : Int32) (_ : Unit) => r = an_end p0) (fun _ => ([] : va_W)) := by
  intro sz
  refine mtX (Qc := fun A => va_Qi (S := Unit) (fun (r : Int32) (_ : Unit) => r = an_end p0) (fun u t => WX D A ((fun _ => ([] : va_W)) u) t) A) (free := fun A => A) (by decide) (Nat.le_of_ble_eq_true rfl) ?_
  intro p e s m below meth c ls A hB hl
  obtain ⟨hx, hb, hml, hr, hlocks, hnm, hown, ht, hK, hN, hA, hP, hD, hS⟩ := hB
  have hl : lv_has ls 3 [(0, .ref h0), (1, .int p0)] := hl
  refine lv_iload_n hx hb dX12_end_0 rfl (lv_at hl 1 rfl) ?_
  refine afterP (xS (fr := 1) (lo := 22) (mc := 0) (ms := 0) (As := [.int p0]) (rest := []) (wc := []) ⟨hx, hb, hml, hown, ht⟩ (c_X12_isVoice l D k p0 _) hK hN nilP (nilD (A := A)) q5_211 q5_212 q1_6 q5_213 md_X12_isVoice ⟨by decide, by decide⟩ rfl hl.1 rfl (Nat.le_of_ble_eq_true rfl) dX12_end_1 ⟨by decide, by decide⟩) (fun r_1 h_2 => ?_)
  rcases h_2 with ⟨rfl, h_2⟩ | ⟨rfl, h_2⟩
  · skip
    refine lv_if_ne (tgt := 9) hx hb dX12_end_4 (by decide) (fun _ => ?_) (fun c_ => absurd c_ (by decide))
    refine lv_aload_n hx hb dX12_end_9 rfl (lv_at hl 0 rfl) ?_
    refine lv_iconst (v := 0) hx hb dX12_end_10 (by decide) ?_
    refine va_put (D := D) (ci := 10) (v := .int 0) (ty := .int) (C := "TuneSchoolModel") (T := TX12) (N := 71) hx hb ht iX12 tyX12 tyX12_ok nmX12 hown hK hP hD hS 0 rfl rfl 0 (by decide) (ht _ q4_232) (fun _ h9 => h9) rfl (by decide +kernel) rfl rfl (Nat.le_of_ble_eq_true rfl) dX12_end_11 (fun H locs hP hD hS => ?_)
    have hP : va_P D clsL [(h0, .inr (10, oX12 r (va_up fm 0 0))), ((r 2), .inl (k 1, 6, .inl (fun _ => 0)))] H := hP
    have hD : va_D A [(h0, .inr (10, oX12 r (va_up fm 0 0))), ((r 2), .inl (k 1, 6, .inl (fun _ => 0)))] := hD
    refine lv_aload_n hx hb dX12_end_14 rfl (lv_at hl 0 rfl) ?_
    refine lv_iload_n hx hb dX12_end_15 rfl (lv_at hl 1 rfl) ?_
    refine afterP (xV (fr := 0) (lo := 0) (mc := 0) (ms := 0) (As := [.int p0]) (rest := []) (wc := [(h0, .inr (10, oX12 r (va_up fm 0 0))), ((r 2), .inl (k 1, 6, .inl (fun _ => 0)))]) ⟨hx, hb, hml, hown, ht⟩ (c_X12_against l D k h0 r (va_up fm 0 0) p0 (by omega) (by omega) _) hK hN (hP.sub (ws' := [(h0, .inr (10, oX12 r (va_up fm 0 0))), ((r 2), .inl (k 1, 6, .inl (fun _ => 0)))]) [0, 1] rfl) (hD.sub (ws' := [(h0, .inr (10, oX12 r (va_up fm 0 0))), ((r 2), .inl (k 1, 6, .inl (fun _ => 0)))]) [0, 1] (by decide) rfl) 10 0 rfl rfl rfl q6_9 q6_11 qs_19 q1_6 q6_12 md_X12_against ⟨by decide, by decide⟩ rfl hl.1 rfl (Nat.le_of_ble_eq_true rfl) dX12_end_16 ⟨by decide, by decide⟩) (fun r_3 h_4 => ?_)
    obtain rfl := h_4
    refine lv_istore_n (lv' := [(2, .int 1), (0, .ref h0), (1, .int p0)]) hx hb dX12_end_19 rfl hl (by decide) rfl (fun ls hl => ?_)
    refine lv_iload_n hx hb dX12_end_20 rfl (lv_at hl 0 rfl) ?_
    refine lv_if_le (tgt := 30) hx hb dX12_end_21 (by decide) (fun c_ => absurd c_ (by decide)) (fun _ => ?_)
    refine lv_aload_n hx hb dX12_end_24 rfl (lv_at hl 1 rfl) ?_
    refine lv_iload_n hx hb dX12_end_25 rfl (lv_at hl 0 rfl) ?_
    refine afterI (wr := [((r 2), .inl (k 1, 6, .inl (fun _ => 0)))]) (xV (fr := 0) (lo := 0) (mc := 0) (ms := 0) (As := [.int 1]) (rest := []) (wc := [(h0, .inr (10, oX12 r (va_up fm 0 0)))]) ⟨hx, hb, hml, hown, ht⟩ (c_X12_finds l D k h0 r (va_up fm 0 0) 1 _) hK hN (hP.sub (ws' := [(h0, .inr (10, oX12 r (va_up fm 0 0)))]) [0] rfl) (hD.sub (ws' := [(h0, .inr (10, oX12 r (va_up fm 0 0)))]) [0] (by decide) rfl) 10 0 rfl rfl rfl q5_217 q5_219 qs_17 q1_6 q5_220 md_X12_finds ⟨by decide, by decide⟩ rfl hl.1 rfl (Nat.le_of_ble_eq_true rfl) dX12_end_26 ⟨by decide, by decide⟩) hP hD hS hA [0] [1] rfl rfl rfl (by decide) (fun r_5 u_6 H locs h_7 hP hD hS => ?_)
    obtain rfl : r_5 = (-11) := h_7.trans (by decide)
    have hP : va_P D clsL [((r 2), .inl (k 1, 6, .inl (fun _ => 0)))] H := hP
    have hD : va_D A [((r 2), .inl (k 1, 6, .inl (fun _ => 0)))] := hD
    exact W.iret (v := (-11)) hx hb hr (fun t ht hW => ⟨⟨(-11), (), rfl, (by first | (unfold an_end; (repeat' split) <;> first | rfl | (exfalso; omega)) | rfl | decide), nilP, nilD⟩, hS.F ht⟩) hS.2.2 dX12_end_29
  · skip
    refine lv_if_ne (tgt := 9) hx hb dX12_end_4 (by decide) (fun c_ => absurd c_ (by decide)) (fun _ => ?_)
    refine lv_iconst (v := (-1)) hx hb dX12_end_7 (by decide) ?_
    exact W.iret (v := (-1)) hx hb hr (fun t ht hW => ⟨⟨(-1), (), rfl, (by first | (unfold an_end; (repeat' split) <;> first | rfl | (exfalso; omega)) | rfl | decide), nilP, nilD⟩, hS.F ht⟩) hS.2.2 dX12_end_8
set_option maxHeartbeats 400000 in
set_option maxRecDepth 100000 in
theorem c_X12_sounds (l : Launch) (D : va_G) (k : Nat → ClassId) (h0 : Nat) (r : Nat → Nat) (p0 p1 : Int32)  : CI l yX12_sounds cX12_sounds 4 (some .int) 2 42 0 0 D k [(h0, .inr (10, oX12 r fm)), ((r 2), .inl (k 1, 6, .inl (fun _ => 0)))] [.ref h0, .int p0, .int p1] (S := Unit) (fun (r : Int32) (_ : Unit) => r = an_sounds p0 p1) (fun _ => ([] : va_W)) := by
  intro sz
  refine mtX (Qc := fun A => va_Qi (S := Unit) (fun (r : Int32) (_ : Unit) => r = an_sounds p0 p1) (fun u t => WX D A ((fun _ => ([] : va_W)) u) t) A) (free := fun A => A) (by decide) (Nat.le_of_ble_eq_true rfl) ?_
  intro p e s m below meth c ls A hB hl
  obtain ⟨hx, hb, hml, hr, hlocks, hnm, hown, ht, hK, hN, hA, hP, hD, hS⟩ := hB
  have hl : lv_has ls 4 [(0, .ref h0), (1, .int p0), (2, .int p1)] := hl
  refine lv_iload_n hx hb dX12_sounds_0 rfl (lv_at hl 1 rfl) ?_
  refine afterP (xS (fr := 1) (lo := 22) (mc := 0) (ms := 0) (As := [.int p0]) (rest := []) (wc := []) ⟨hx, hb, hml, hown, ht⟩ (c_X12_isVoice l D k p0 _) hK hN nilP (nilD (A := A)) q5_211 q5_212 q1_6 q5_213 md_X12_isVoice ⟨by decide, by decide⟩ rfl hl.1 rfl (Nat.le_of_ble_eq_true rfl) dX12_sounds_1 ⟨by decide, by decide⟩) (fun r_1 h_2 => ?_)
  rcases h_2 with ⟨rfl, h_2⟩ | ⟨rfl, h_2⟩
  · skip
    refine lv_if_eq (tgt := 11) hx hb dX12_sounds_4 (by decide) (fun c_ => absurd c_ (by decide)) (fun _ => ?_)
    refine lv_iload_n hx hb dX12_sounds_7 rfl (lv_at hl 2 rfl) ?_
    refine lv_if_ge (tgt := 13) hx hb dX12_sounds_8 (by decide) (fun c_3 => ?_) (fun c_3 => ?_)
    · skip
      have c_3 := i_le (a := 0) (b := p1.toInt) (by decide) rfl c_3
      refine lv_aload_n hx hb dX12_sounds_13 rfl (lv_at hl 0 rfl) ?_
      refine lv_iconst (v := 0) hx hb dX12_sounds_14 (by decide) ?_
      refine va_put (D := D) (ci := 10) (v := .int 0) (ty := .int) (C := "TuneSchoolModel") (T := TX12) (N := 71) hx hb ht iX12 tyX12 tyX12_ok nmX12 hown hK hP hD hS 0 rfl rfl 0 (by decide) (ht _ q4_232) (fun _ h9 => h9) rfl (by decide +kernel) rfl rfl (Nat.le_of_ble_eq_true rfl) dX12_sounds_15 (fun H locs hP hD hS => ?_)
      have hP : va_P D clsL [(h0, .inr (10, oX12 r (va_up fm 0 0))), ((r 2), .inl (k 1, 6, .inl (fun _ => 0)))] H := hP
      have hD : va_D A [(h0, .inr (10, oX12 r (va_up fm 0 0))), ((r 2), .inl (k 1, 6, .inl (fun _ => 0)))] := hD
      refine lv_aload_n hx hb dX12_sounds_18 rfl (lv_at hl 0 rfl) ?_
      refine lv_iload_n hx hb dX12_sounds_19 rfl (lv_at hl 1 rfl) ?_
      refine afterP (xV (fr := 0) (lo := 0) (mc := 0) (ms := 0) (As := [.int p0]) (rest := []) (wc := [(h0, .inr (10, oX12 r (va_up fm 0 0))), ((r 2), .inl (k 1, 6, .inl (fun _ => 0)))]) ⟨hx, hb, hml, hown, ht⟩ (c_X12_against l D k h0 r (va_up fm 0 0) p0 (by omega) (by omega) _) hK hN (hP.sub (ws' := [(h0, .inr (10, oX12 r (va_up fm 0 0))), ((r 2), .inl (k 1, 6, .inl (fun _ => 0)))]) [0, 1] rfl) (hD.sub (ws' := [(h0, .inr (10, oX12 r (va_up fm 0 0))), ((r 2), .inl (k 1, 6, .inl (fun _ => 0)))]) [0, 1] (by decide) rfl) 10 0 rfl rfl rfl q6_9 q6_11 qs_19 q1_6 q6_12 md_X12_against ⟨by decide, by decide⟩ rfl hl.1 rfl (Nat.le_of_ble_eq_true rfl) dX12_sounds_20 ⟨by decide, by decide⟩) (fun r_4 h_5 => ?_)
      obtain rfl := h_5
      refine lv_istore_n (lv' := [(3, .int 1), (0, .ref h0), (1, .int p0), (2, .int p1)]) hx hb dX12_sounds_23 rfl hl (by decide) rfl (fun ls hl => ?_)
      refine lv_iload_n hx hb dX12_sounds_24 rfl (lv_at hl 0 rfl) ?_
      refine lv_if_le (tgt := 34) hx hb dX12_sounds_25 (by decide) (fun c_ => absurd c_ (by decide)) (fun _ => ?_)
      refine lv_aload_n hx hb dX12_sounds_28 rfl (lv_at hl 1 rfl) ?_
      refine lv_iload_n hx hb dX12_sounds_29 rfl (lv_at hl 0 rfl) ?_
      refine afterI (wr := [((r 2), .inl (k 1, 6, .inl (fun _ => 0)))]) (xV (fr := 0) (lo := 0) (mc := 0) (ms := 0) (As := [.int 1]) (rest := []) (wc := [(h0, .inr (10, oX12 r (va_up fm 0 0)))]) ⟨hx, hb, hml, hown, ht⟩ (c_X12_finds l D k h0 r (va_up fm 0 0) 1 _) hK hN (hP.sub (ws' := [(h0, .inr (10, oX12 r (va_up fm 0 0)))]) [0] rfl) (hD.sub (ws' := [(h0, .inr (10, oX12 r (va_up fm 0 0)))]) [0] (by decide) rfl) 10 0 rfl rfl rfl q5_217 q5_219 qs_17 q1_6 q5_220 md_X12_finds ⟨by decide, by decide⟩ rfl hl.1 rfl (Nat.le_of_ble_eq_true rfl) dX12_sounds_30 ⟨by decide, by decide⟩) hP hD hS hA [0] [1] rfl rfl rfl (by decide) (fun r_6 u_7 H locs h_8 hP hD hS => ?_)
      obtain rfl : r_6 = (-11) := h_8.trans (by decide)
      have hP : va_P D clsL [((r 2), .inl (k 1, 6, .inl (fun _ => 0)))] H := hP
      have hD : va_D A [((r 2), .inl (k 1, 6, .inl (fun _ => 0)))] := hD
      exact W.iret (v := (-11)) hx hb hr (fun t ht hW => ⟨⟨(-11), (), rfl, (by first | (unfold an_sounds; (repeat' split) <;> first | rfl | (exfalso; omega)) | rfl | decide), nilP, nilD⟩, hS.F ht⟩) hS.2.2 dX12_sounds_33
    · skip
      have c_3 := i_nle (a := 0) (b := p1.toInt) (by decide) rfl c_3
      refine lv_iconst (v := (-1)) hx hb dX12_sounds_11 (by decide) ?_
      exact W.iret (v := (-1)) hx hb hr (fun t ht hW => ⟨⟨(-1), (), rfl, (by first | (unfold an_sounds; (repeat' split) <;> first | rfl | (exfalso; omega)) | rfl | decide), nilP, nilD⟩, hS.F ht⟩) hS.2.2 dX12_sounds_12
  · skip
    refine lv_if_eq (tgt := 11) hx hb dX12_sounds_4 (by decide) (fun _ => ?_) (fun c_ => absurd c_ (by decide))
    refine lv_iconst (v := (-1)) hx hb dX12_sounds_11 (by decide) ?_
    exact W.iret (v := (-1)) hx hb hr (fun t ht hW => ⟨⟨(-1), (), rfl, (by first | (unfold an_sounds; (repeat' split) <;> first | rfl | (exfalso; omega)) | rfl | decide), nilP, nilD⟩, hS.F ht⟩) hS.2.2 dX12_sounds_12
set_option maxHeartbeats 400000 in
set_option maxRecDepth 100000 in
theorem c_X12_transpose (l : Launch) (D : va_G) (k : Nat → ClassId) (h0 : Nat) (r : Nat → Nat) (p0 p1 : Int32)  : CI l yX12_transpose cX12_transpose 7 (some .int) 2 42 0 0 D k [(h0, .inr (10, oX12 r fm)), ((r 2), .inl (k 1, 6, .inl (fun _ => 0)))] [.ref h0, .int p0, .int p1] (S := Unit) (fun (r : Int32) (_ : Unit) => r = an_transpose p0 p1) (fun _ => ([] : va_W)) := by
  intro sz
  refine mtX (Qc := fun A => va_Qi (S := Unit) (fun (r : Int32) (_ : Unit) => r = an_transpose p0 p1) (fun u t => WX D A ((fun _ => ([] : va_W)) u) t) A) (free := fun A => A) (by decide) (Nat.le_of_ble_eq_true rfl) ?_
  intro p e s m below meth c ls A hB hl
  obtain ⟨hx, hb, hml, hr, hlocks, hnm, hown, ht, hK, hN, hA, hP, hD, hS⟩ := hB
  have hl : lv_has ls 7 [(0, .ref h0), (1, .int p0), (2, .int p1)] := hl
  refine lv_iload_n hx hb dX12_transpose_0 rfl (lv_at hl 1 rfl) ?_
  refine afterP (xS (fr := 1) (lo := 22) (mc := 0) (ms := 0) (As := [.int p0]) (rest := []) (wc := []) ⟨hx, hb, hml, hown, ht⟩ (c_X12_isVoice l D k p0 _) hK hN nilP (nilD (A := A)) q5_211 q5_212 q1_6 q5_213 md_X12_isVoice ⟨by decide, by decide⟩ rfl hl.1 rfl (Nat.le_of_ble_eq_true rfl) dX12_transpose_1 ⟨by decide, by decide⟩) (fun r_1 h_2 => ?_)
  rcases h_2 with ⟨rfl, h_2⟩ | ⟨rfl, h_2⟩
  · skip
    refine lv_if_eq (tgt := 18) hx hb dX12_transpose_4 (by decide) (fun c_ => absurd c_ (by decide)) (fun _ => ?_)
    refine lv_iload_n hx hb dX12_transpose_7 rfl (lv_at hl 2 rfl) ?_
    refine lv_bipush (v := (-60)) hx hb dX12_transpose_8 (by decide) ?_
    refine lv_bipush (v := 60) hx hb dX12_transpose_10 (by decide) ?_
    refine afterP (xS (fr := 0) (lo := 0) (mc := 0) (ms := 0) (As := [.int p1, .int (-60), .int 60]) (rest := []) (wc := []) ⟨hx, hb, hml, hown, ht⟩ (c_X12_in l D k p1 (-60) 60 (-60) 60 (by decide) (by decide) _) hK hN nilP (nilD (A := A)) q5_214 q5_215 q1_6 q5_216 md_X12_in ⟨by decide, by decide⟩ rfl hl.1 rfl (Nat.le_of_ble_eq_true rfl) dX12_transpose_12 ⟨by decide, by decide⟩) (fun r_3 h_4 => ?_)
    rcases h_4 with ⟨rfl, h_4⟩ | ⟨rfl, h_4⟩
    · skip
      refine lv_if_ne (tgt := 20) hx hb dX12_transpose_15 (by decide) (fun _ => ?_) (fun c_ => absurd c_ (by decide))
      refine lv_aload_n hx hb dX12_transpose_20 rfl (lv_at hl 0 rfl) ?_
      refine lv_iconst (v := 0) hx hb dX12_transpose_21 (by decide) ?_
      refine va_put (D := D) (ci := 10) (v := .int 0) (ty := .int) (C := "TuneSchoolModel") (T := TX12) (N := 71) hx hb ht iX12 tyX12 tyX12_ok nmX12 hown hK hP hD hS 0 rfl rfl 0 (by decide) (ht _ q4_232) (fun _ h9 => h9) rfl (by decide +kernel) rfl rfl (Nat.le_of_ble_eq_true rfl) dX12_transpose_22 (fun H locs hP hD hS => ?_)
      have hP : va_P D clsL [(h0, .inr (10, oX12 r (va_up fm 0 0))), ((r 2), .inl (k 1, 6, .inl (fun _ => 0)))] H := hP
      have hD : va_D A [(h0, .inr (10, oX12 r (va_up fm 0 0))), ((r 2), .inl (k 1, 6, .inl (fun _ => 0)))] := hD
      refine lv_aload_n hx hb dX12_transpose_25 rfl (lv_at hl 0 rfl) ?_
      refine va_get (D := D) (ci := 10) (v := .ref (r 2)) (C := "TuneSchoolModel") (T := TX12) (N := 71) hx hb ht iX12 hown hK hP 0 rfl rfl 2 (by decide) (ht _ q4_234) (fun _ h9 => h9) rfl dX12_transpose_26 ?_
      refine lv_iload_n hx hb dX12_transpose_29 rfl (lv_at hl 1 rfl) ?_
      refine ldZ (v := 0) hx hb hK hP 1 rfl (vin (by omega) (by omega)) rfl dX12_transpose_30 ?_
      refine lv_if_ne (tgt := 40) hx hb dX12_transpose_31 (by decide) (fun c_ => absurd c_ (by decide)) (fun _ => ?_)
      refine lv_aload_n hx hb dX12_transpose_34 rfl (lv_at hl 0 rfl) ?_
      refine lv_iconst (v := 1) hx hb dX12_transpose_35 (by decide) ?_
      refine afterI (wr := [((r 2), .inl (k 1, 6, .inl (fun _ => 0)))]) (xV (fr := 0) (lo := 0) (mc := 0) (ms := 0) (As := [.int 1]) (rest := []) (wc := [(h0, .inr (10, oX12 r (va_up fm 0 0)))]) ⟨hx, hb, hml, hown, ht⟩ (c_X12_finds l D k h0 r (va_up fm 0 0) 1 _) hK hN (hP.sub (ws' := [(h0, .inr (10, oX12 r (va_up fm 0 0)))]) [0] rfl) (hD.sub (ws' := [(h0, .inr (10, oX12 r (va_up fm 0 0)))]) [0] (by decide) rfl) 10 0 rfl rfl rfl q5_217 q5_219 qs_17 q1_6 q5_220 md_X12_finds ⟨by decide, by decide⟩ rfl hl.1 rfl (Nat.le_of_ble_eq_true rfl) dX12_transpose_36 ⟨by decide, by decide⟩) hP hD hS hA [0] [1] rfl rfl rfl (by decide) (fun r_5 u_6 H locs h_7 hP hD hS => ?_)
      obtain rfl : r_5 = (-11) := h_7.trans (by decide)
      have hP : va_P D clsL [((r 2), .inl (k 1, 6, .inl (fun _ => 0)))] H := hP
      have hD : va_D A [((r 2), .inl (k 1, 6, .inl (fun _ => 0)))] := hD
      exact W.iret (v := (-11)) hx hb hr (fun t ht hW => ⟨⟨(-11), (), rfl, (by first | (unfold an_transpose; (repeat' split) <;> first | rfl | (exfalso; omega)) | rfl | decide), nilP, nilD⟩, hS.F ht⟩) hS.2.2 dX12_transpose_39
    · skip
      refine lv_if_ne (tgt := 20) hx hb dX12_transpose_15 (by decide) (fun c_ => absurd c_ (by decide)) (fun _ => ?_)
      refine lv_iconst (v := (-1)) hx hb dX12_transpose_18 (by decide) ?_
      exact W.iret (v := (-1)) hx hb hr (fun t ht hW => ⟨⟨(-1), (), rfl, (by first | (unfold an_transpose; (repeat' split) <;> first | rfl | (exfalso; omega)) | rfl | decide), nilP, nilD⟩, hS.F ht⟩) hS.2.2 dX12_transpose_19
  · skip
    refine lv_if_eq (tgt := 18) hx hb dX12_transpose_4 (by decide) (fun _ => ?_) (fun c_ => absurd c_ (by decide))
    refine lv_iconst (v := (-1)) hx hb dX12_transpose_18 (by decide) ?_
    exact W.iret (v := (-1)) hx hb hr (fun t ht hW => ⟨⟨(-1), (), rfl, (by first | (unfold an_transpose; (repeat' split) <;> first | rfl | (exfalso; omega)) | rfl | decide), nilP, nilD⟩, hS.F ht⟩) hS.2.2 dX12_transpose_19
set_option maxHeartbeats 400000 in
set_option maxRecDepth 100000 in
theorem c_X12_copy (l : Launch) (D : va_G) (k : Nat → ClassId) (h0 : Nat) (r : Nat → Nat) (p0 p1 p2 p3 p4 : Int32)  : CI l yX12_copy cX12_copy 6 (some .int) 2 42 0 0 D k [(h0, .inr (10, oX12 r fm)), ((r 2), .inl (k 1, 6, .inl (fun _ => 0)))] [.ref h0, .int p0, .int p1, .int p2, .int p3, .int p4] (S := Unit) (fun (r : Int32) (_ : Unit) => r = an_copy p0 p1 p2 p3 p4) (fun _ => ([] : va_W)) := by
  intro sz
  refine mtX (Qc := fun A => va_Qi (S := Unit) (fun (r : Int32) (_ : Unit) => r = an_copy p0 p1 p2 p3 p4) (fun u t => WX D A ((fun _ => ([] : va_W)) u) t) A) (free := fun A => A) (by decide) (Nat.le_of_ble_eq_true rfl) ?_
  intro p e s m below meth c ls A hB hl
  obtain ⟨hx, hb, hml, hr, hlocks, hnm, hown, ht, hK, hN, hA, hP, hD, hS⟩ := hB
  have hl : lv_has ls 6 [(0, .ref h0), (1, .int p0), (2, .int p1), (3, .int p2), (4, .int p3), (5, .int p4)] := hl
  refine lv_iload_n hx hb dX12_copy_0 rfl (lv_at hl 1 rfl) ?_
  refine afterP (xS (fr := 1) (lo := 22) (mc := 0) (ms := 0) (As := [.int p0]) (rest := []) (wc := []) ⟨hx, hb, hml, hown, ht⟩ (c_X12_isVoice l D k p0 _) hK hN nilP (nilD (A := A)) q5_211 q5_212 q1_6 q5_213 md_X12_isVoice ⟨by decide, by decide⟩ rfl hl.1 rfl (Nat.le_of_ble_eq_true rfl) dX12_copy_1 ⟨by decide, by decide⟩) (fun r_1 h_2 => ?_)
  rcases h_2 with ⟨rfl, h_2⟩ | ⟨rfl, h_2⟩
  · skip
    refine lv_if_eq (tgt := 14) hx hb dX12_copy_4 (by decide) (fun c_ => absurd c_ (by decide)) (fun _ => ?_)
    refine lv_iload_n hx hb dX12_copy_7 rfl (lv_at hl 3 rfl) ?_
    refine afterP (xS (fr := 1) (lo := 22) (mc := 0) (ms := 0) (As := [.int p2]) (rest := []) (wc := []) ⟨hx, hb, hml, hown, ht⟩ (c_X12_isVoice l D k p2 _) hK hN nilP (nilD (A := A)) q5_211 q5_212 q1_6 q5_213 md_X12_isVoice ⟨by decide, by decide⟩ rfl hl.1 rfl (Nat.le_of_ble_eq_true rfl) dX12_copy_8 ⟨by decide, by decide⟩) (fun r_3 h_4 => ?_)
    rcases h_4 with ⟨rfl, h_4⟩ | ⟨rfl, h_4⟩
    · skip
      refine lv_if_ne (tgt := 16) hx hb dX12_copy_11 (by decide) (fun _ => ?_) (fun c_ => absurd c_ (by decide))
      refine lv_aload_n hx hb dX12_copy_16 rfl (lv_at hl 0 rfl) ?_
      refine lv_iconst (v := 0) hx hb dX12_copy_17 (by decide) ?_
      refine va_put (D := D) (ci := 10) (v := .int 0) (ty := .int) (C := "TuneSchoolModel") (T := TX12) (N := 71) hx hb ht iX12 tyX12 tyX12_ok nmX12 hown hK hP hD hS 0 rfl rfl 0 (by decide) (ht _ q4_232) (fun _ h9 => h9) rfl (by decide +kernel) rfl rfl (Nat.le_of_ble_eq_true rfl) dX12_copy_18 (fun H locs hP hD hS => ?_)
      have hP : va_P D clsL [(h0, .inr (10, oX12 r (va_up fm 0 0))), ((r 2), .inl (k 1, 6, .inl (fun _ => 0)))] H := hP
      have hD : va_D A [(h0, .inr (10, oX12 r (va_up fm 0 0))), ((r 2), .inl (k 1, 6, .inl (fun _ => 0)))] := hD
      refine lv_aload_n hx hb dX12_copy_21 rfl (lv_at hl 0 rfl) ?_
      refine lv_iconst (v := 0) hx hb dX12_copy_22 (by decide) ?_
      refine va_put (D := D) (ci := 10) (v := .int 0) (ty := .int) (C := "TuneSchoolModel") (T := TX12) (N := 71) hx hb ht iX12 tyX12 tyX12_ok nmX12 hown hK hP hD hS 0 rfl rfl 10 (by decide) (ht _ q5_2) (fun _ h9 => h9) rfl (by decide +kernel) rfl rfl (Nat.le_of_ble_eq_true rfl) dX12_copy_23 (fun H locs hP hD hS => ?_)
      have hP : va_P D clsL [(h0, .inr (10, oX12 r (va_up (va_up fm 0 0) 10 0))), ((r 2), .inl (k 1, 6, .inl (fun _ => 0)))] H := hP
      have hD : va_D A [(h0, .inr (10, oX12 r (va_up (va_up fm 0 0) 10 0))), ((r 2), .inl (k 1, 6, .inl (fun _ => 0)))] := hD
      refine lv_aload_n hx hb dX12_copy_26 rfl (lv_at hl 0 rfl) ?_
      refine va_get (D := D) (ci := 10) (v := .ref (r 2)) (C := "TuneSchoolModel") (T := TX12) (N := 71) hx hb ht iX12 hown hK hP 0 rfl rfl 2 (by decide) (ht _ q4_234) (fun _ h9 => h9) rfl dX12_copy_27 ?_
      refine lv_iload_n hx hb dX12_copy_30 rfl (lv_at hl 1 rfl) ?_
      refine ldZ (v := 0) hx hb hK hP 1 rfl (vin (by omega) (by omega)) rfl dX12_copy_31 ?_
      refine lv_if_eq (tgt := 44) hx hb dX12_copy_32 (by decide) (fun _ => ?_) (fun c_ => absurd c_ (by decide))
      refine lv_aload_n hx hb dX12_copy_44 rfl (lv_at hl 0 rfl) ?_
      refine lv_iconst (v := 1) hx hb dX12_copy_45 (by decide) ?_
      refine afterI (wr := [((r 2), .inl (k 1, 6, .inl (fun _ => 0)))]) (xV (fr := 0) (lo := 0) (mc := 0) (ms := 0) (As := [.int 1]) (rest := []) (wc := [(h0, .inr (10, oX12 r (va_up (va_up fm 0 0) 10 0)))]) ⟨hx, hb, hml, hown, ht⟩ (c_X12_finds l D k h0 r (va_up (va_up fm 0 0) 10 0) 1 _) hK hN (hP.sub (ws' := [(h0, .inr (10, oX12 r (va_up (va_up fm 0 0) 10 0)))]) [0] rfl) (hD.sub (ws' := [(h0, .inr (10, oX12 r (va_up (va_up fm 0 0) 10 0)))]) [0] (by decide) rfl) 10 0 rfl rfl rfl q5_217 q5_219 qs_17 q1_6 q5_220 md_X12_finds ⟨by decide, by decide⟩ rfl hl.1 rfl (Nat.le_of_ble_eq_true rfl) dX12_copy_46 ⟨by decide, by decide⟩) hP hD hS hA [0] [1] rfl rfl rfl (by decide) (fun r_5 u_6 H locs h_7 hP hD hS => ?_)
      obtain rfl : r_5 = (-11) := h_7.trans (by decide)
      have hP : va_P D clsL [((r 2), .inl (k 1, 6, .inl (fun _ => 0)))] H := hP
      have hD : va_D A [((r 2), .inl (k 1, 6, .inl (fun _ => 0)))] := hD
      exact W.iret (v := (-11)) hx hb hr (fun t ht hW => ⟨⟨(-11), (), rfl, (by first | (unfold an_copy; (repeat' split) <;> first | rfl | (exfalso; omega)) | rfl | decide), nilP, nilD⟩, hS.F ht⟩) hS.2.2 dX12_copy_49
    · skip
      refine lv_if_ne (tgt := 16) hx hb dX12_copy_11 (by decide) (fun c_ => absurd c_ (by decide)) (fun _ => ?_)
      refine lv_iconst (v := (-1)) hx hb dX12_copy_14 (by decide) ?_
      exact W.iret (v := (-1)) hx hb hr (fun t ht hW => ⟨⟨(-1), (), rfl, (by first | (unfold an_copy; (repeat' split) <;> first | rfl | (exfalso; omega)) | rfl | decide), nilP, nilD⟩, hS.F ht⟩) hS.2.2 dX12_copy_15
  · skip
    refine lv_if_eq (tgt := 14) hx hb dX12_copy_4 (by decide) (fun _ => ?_) (fun c_ => absurd c_ (by decide))
    refine lv_iconst (v := (-1)) hx hb dX12_copy_14 (by decide) ?_
    exact W.iret (v := (-1)) hx hb hr (fun t ht hW => ⟨⟨(-1), (), rfl, (by first | (unfold an_copy; (repeat' split) <;> first | rfl | (exfalso; omega)) | rfl | decide), nilP, nilD⟩, hS.F ht⟩) hS.2.2 dX12_copy_15
set_option maxHeartbeats 400000 in
set_option maxRecDepth 100000 in
theorem c_X12_print (l : Launch) (D : va_G) (k : Nat → ClassId) (h0 : Nat) (r : Nat → Nat) (p0 : Int32)  : CI l yX12_print cX12_print 5 (some .int) 2 42 0 0 D k [(h0, .inr (10, oX12 r fm)), ((r 2), .inl (k 1, 6, .inl (fun _ => 0)))] [.ref h0, .int p0] (S := Unit) (fun (r : Int32) (_ : Unit) => r = an_print p0) (fun _ => ([] : va_W)) := by
  intro sz
  refine mtX (Qc := fun A => va_Qi (S := Unit) (fun (r : Int32) (_ : Unit) => r = an_print p0) (fun u t => WX D A ((fun _ => ([] : va_W)) u) t) A) (free := fun A => A) (by decide) (Nat.le_of_ble_eq_true rfl) ?_
  intro p e s m below meth c ls A hB hl
  obtain ⟨hx, hb, hml, hr, hlocks, hnm, hown, ht, hK, hN, hA, hP, hD, hS⟩ := hB
  have hl : lv_has ls 5 [(0, .ref h0), (1, .int p0)] := hl
  refine lv_iload_n hx hb dX12_print_0 rfl (lv_at hl 1 rfl) ?_
  refine afterP (xS (fr := 1) (lo := 22) (mc := 0) (ms := 0) (As := [.int p0]) (rest := []) (wc := []) ⟨hx, hb, hml, hown, ht⟩ (c_X12_isVoice l D k p0 _) hK hN nilP (nilD (A := A)) q5_211 q5_212 q1_6 q5_213 md_X12_isVoice ⟨by decide, by decide⟩ rfl hl.1 rfl (Nat.le_of_ble_eq_true rfl) dX12_print_1 ⟨by decide, by decide⟩) (fun r_1 h_2 => ?_)
  rcases h_2 with ⟨rfl, h_2⟩ | ⟨rfl, h_2⟩
  · skip
    refine lv_if_ne (tgt := 9) hx hb dX12_print_4 (by decide) (fun _ => ?_) (fun c_ => absurd c_ (by decide))
    refine lv_aload_n hx hb dX12_print_9 rfl (lv_at hl 0 rfl) ?_
    refine lv_iconst (v := 0) hx hb dX12_print_10 (by decide) ?_
    refine va_put (D := D) (ci := 10) (v := .int 0) (ty := .int) (C := "TuneSchoolModel") (T := TX12) (N := 71) hx hb ht iX12 tyX12 tyX12_ok nmX12 hown hK hP hD hS 0 rfl rfl 0 (by decide) (ht _ q4_232) (fun _ h9 => h9) rfl (by decide +kernel) rfl rfl (Nat.le_of_ble_eq_true rfl) dX12_print_11 (fun H locs hP hD hS => ?_)
    have hP : va_P D clsL [(h0, .inr (10, oX12 r (va_up fm 0 0))), ((r 2), .inl (k 1, 6, .inl (fun _ => 0)))] H := hP
    have hD : va_D A [(h0, .inr (10, oX12 r (va_up fm 0 0))), ((r 2), .inl (k 1, 6, .inl (fun _ => 0)))] := hD
    refine lv_aload_n hx hb dX12_print_14 rfl (lv_at hl 0 rfl) ?_
    refine lv_iload_n hx hb dX12_print_15 rfl (lv_at hl 1 rfl) ?_
    refine afterP (xV (fr := 0) (lo := 0) (mc := 0) (ms := 0) (As := [.int p0]) (rest := []) (wc := [(h0, .inr (10, oX12 r (va_up fm 0 0))), ((r 2), .inl (k 1, 6, .inl (fun _ => 0)))]) ⟨hx, hb, hml, hown, ht⟩ (c_X12_against l D k h0 r (va_up fm 0 0) p0 (by omega) (by omega) _) hK hN (hP.sub (ws' := [(h0, .inr (10, oX12 r (va_up fm 0 0))), ((r 2), .inl (k 1, 6, .inl (fun _ => 0)))]) [0, 1] rfl) (hD.sub (ws' := [(h0, .inr (10, oX12 r (va_up fm 0 0))), ((r 2), .inl (k 1, 6, .inl (fun _ => 0)))]) [0, 1] (by decide) rfl) 10 0 rfl rfl rfl q6_9 q6_11 qs_19 q1_6 q6_12 md_X12_against ⟨by decide, by decide⟩ rfl hl.1 rfl (Nat.le_of_ble_eq_true rfl) dX12_print_16 ⟨by decide, by decide⟩) (fun r_3 h_4 => ?_)
    obtain rfl := h_4
    refine lv_istore_n (lv' := [(2, .int 1), (0, .ref h0), (1, .int p0)]) hx hb dX12_print_19 rfl hl (by decide) rfl (fun ls hl => ?_)
    refine lv_iload_n hx hb dX12_print_20 rfl (lv_at hl 0 rfl) ?_
    refine lv_if_le (tgt := 30) hx hb dX12_print_21 (by decide) (fun c_ => absurd c_ (by decide)) (fun _ => ?_)
    refine lv_aload_n hx hb dX12_print_24 rfl (lv_at hl 1 rfl) ?_
    refine lv_iload_n hx hb dX12_print_25 rfl (lv_at hl 0 rfl) ?_
    refine afterI (wr := [((r 2), .inl (k 1, 6, .inl (fun _ => 0)))]) (xV (fr := 0) (lo := 0) (mc := 0) (ms := 0) (As := [.int 1]) (rest := []) (wc := [(h0, .inr (10, oX12 r (va_up fm 0 0)))]) ⟨hx, hb, hml, hown, ht⟩ (c_X12_finds l D k h0 r (va_up fm 0 0) 1 _) hK hN (hP.sub (ws' := [(h0, .inr (10, oX12 r (va_up fm 0 0)))]) [0] rfl) (hD.sub (ws' := [(h0, .inr (10, oX12 r (va_up fm 0 0)))]) [0] (by decide) rfl) 10 0 rfl rfl rfl q5_217 q5_219 qs_17 q1_6 q5_220 md_X12_finds ⟨by decide, by decide⟩ rfl hl.1 rfl (Nat.le_of_ble_eq_true rfl) dX12_print_26 ⟨by decide, by decide⟩) hP hD hS hA [0] [1] rfl rfl rfl (by decide) (fun r_5 u_6 H locs h_7 hP hD hS => ?_)
    obtain rfl : r_5 = (-11) := h_7.trans (by decide)
    have hP : va_P D clsL [((r 2), .inl (k 1, 6, .inl (fun _ => 0)))] H := hP
    have hD : va_D A [((r 2), .inl (k 1, 6, .inl (fun _ => 0)))] := hD
    exact W.iret (v := (-11)) hx hb hr (fun t ht hW => ⟨⟨(-11), (), rfl, (by first | (unfold an_print; (repeat' split) <;> first | rfl | (exfalso; omega)) | rfl | decide), nilP, nilD⟩, hS.F ht⟩) hS.2.2 dX12_print_29
  · skip
    refine lv_if_ne (tgt := 9) hx hb dX12_print_4 (by decide) (fun c_ => absurd c_ (by decide)) (fun _ => ?_)
    refine lv_iconst (v := (-1)) hx hb dX12_print_7 (by decide) ?_
    exact W.iret (v := (-1)) hx hb hr (fun t ht hW => ⟨⟨(-1), (), rfl, (by first | (unfold an_print; (repeat' split) <;> first | rfl | (exfalso; omega)) | rfl | decide), nilP, nilD⟩, hS.F ht⟩) hS.2.2 dX12_print_8
set_option maxHeartbeats 400000 in
set_option maxRecDepth 100000 in
theorem c_X12_follows (l : Launch) (D : va_G) (k : Nat → ClassId) (h0 : Nat) (r : Nat → Nat) (p0 p1 p2 p3 p4 : Int32)  : CI l yX12_follows cX12_follows 7 (some .int) 2 42 0 0 D k [(h0, .inr (10, oX12 r fm)), ((r 2), .inl (k 1, 6, .inl (fun _ => 0)))] [.ref h0, .int p0, .int p1, .int p2, .int p3, .int p4] (S := Unit) (fun (r : Int32) (_ : Unit) => r = an_follows p0 p1 p2 p3 p4) (fun _ => ([] : va_W)) := by
  intro sz
  refine mtX (Qc := fun A => va_Qi (S := Unit) (fun (r : Int32) (_ : Unit) => r = an_follows p0 p1 p2 p3 p4) (fun u t => WX D A ((fun _ => ([] : va_W)) u) t) A) (free := fun A => A) (by decide) (Nat.le_of_ble_eq_true rfl) ?_
  intro p e s m below meth c ls A hB hl
  obtain ⟨hx, hb, hml, hr, hlocks, hnm, hown, ht, hK, hN, hA, hP, hD, hS⟩ := hB
  have hl : lv_has ls 7 [(0, .ref h0), (1, .int p0), (2, .int p1), (3, .int p2), (4, .int p3), (5, .int p4)] := hl
  refine lv_iload_n hx hb dX12_follows_0 rfl (lv_at hl 1 rfl) ?_
  refine afterP (xS (fr := 1) (lo := 22) (mc := 0) (ms := 0) (As := [.int p0]) (rest := []) (wc := []) ⟨hx, hb, hml, hown, ht⟩ (c_X12_isVoice l D k p0 _) hK hN nilP (nilD (A := A)) q5_211 q5_212 q1_6 q5_213 md_X12_isVoice ⟨by decide, by decide⟩ rfl hl.1 rfl (Nat.le_of_ble_eq_true rfl) dX12_follows_1 ⟨by decide, by decide⟩) (fun r_1 h_2 => ?_)
  rcases h_2 with ⟨rfl, h_2⟩ | ⟨rfl, h_2⟩
  · skip
    refine lv_if_eq (tgt := 50) hx hb dX12_follows_4 (by decide) (fun c_ => absurd c_ (by decide)) (fun _ => ?_)
    refine lv_iload_n hx hb dX12_follows_7 rfl (lv_at hl 2 rfl) ?_
    refine lv_iconst (v := 0) hx hb dX12_follows_8 (by decide) ?_
    refine lv_sipush (v := 1000) hx hb dX12_follows_9 (by decide) ?_
    refine afterP (xS (fr := 0) (lo := 0) (mc := 0) (ms := 0) (As := [.int p1, .int 0, .int 1000]) (rest := []) (wc := []) ⟨hx, hb, hml, hown, ht⟩ (c_X12_in l D k p1 0 1000 0 1000 (by decide) (by decide) _) hK hN nilP (nilD (A := A)) q5_214 q5_215 q1_6 q5_216 md_X12_in ⟨by decide, by decide⟩ rfl hl.1 rfl (Nat.le_of_ble_eq_true rfl) dX12_follows_12 ⟨by decide, by decide⟩) (fun r_3 h_4 => ?_)
    rcases h_4 with ⟨rfl, h_4⟩ | ⟨rfl, h_4⟩
    · skip
      refine lv_if_eq (tgt := 50) hx hb dX12_follows_15 (by decide) (fun c_ => absurd c_ (by decide)) (fun _ => ?_)
      refine lv_iload_n hx hb dX12_follows_18 rfl (lv_at hl 3 rfl) ?_
      refine lv_iconst (v := 0) hx hb dX12_follows_19 (by decide) ?_
      refine lv_bipush (v := 60) hx hb dX12_follows_20 (by decide) ?_
      refine afterP (xS (fr := 0) (lo := 0) (mc := 0) (ms := 0) (As := [.int p2, .int 0, .int 60]) (rest := []) (wc := []) ⟨hx, hb, hml, hown, ht⟩ (c_X12_in l D k p2 0 60 0 60 (by decide) (by decide) _) hK hN nilP (nilD (A := A)) q5_214 q5_215 q1_6 q5_216 md_X12_in ⟨by decide, by decide⟩ rfl hl.1 rfl (Nat.le_of_ble_eq_true rfl) dX12_follows_22 ⟨by decide, by decide⟩) (fun r_5 h_6 => ?_)
      rcases h_6 with ⟨rfl, h_6⟩ | ⟨rfl, h_6⟩
      · skip
        refine lv_if_eq (tgt := 50) hx hb dX12_follows_25 (by decide) (fun c_ => absurd c_ (by decide)) (fun _ => ?_)
        refine lv_iload hx hb dX12_follows_28 (lv_at hl 4 rfl) ?_
        refine lv_bipush (v := (-60)) hx hb dX12_follows_30 (by decide) ?_
        refine lv_bipush (v := 60) hx hb dX12_follows_32 (by decide) ?_
        refine afterP (xS (fr := 0) (lo := 0) (mc := 0) (ms := 0) (As := [.int p3, .int (-60), .int 60]) (rest := []) (wc := []) ⟨hx, hb, hml, hown, ht⟩ (c_X12_in l D k p3 (-60) 60 (-60) 60 (by decide) (by decide) _) hK hN nilP (nilD (A := A)) q5_214 q5_215 q1_6 q5_216 md_X12_in ⟨by decide, by decide⟩ rfl hl.1 rfl (Nat.le_of_ble_eq_true rfl) dX12_follows_34 ⟨by decide, by decide⟩) (fun r_7 h_8 => ?_)
        rcases h_8 with ⟨rfl, h_8⟩ | ⟨rfl, h_8⟩
        · skip
          refine lv_if_eq (tgt := 50) hx hb dX12_follows_37 (by decide) (fun c_ => absurd c_ (by decide)) (fun _ => ?_)
          refine lv_iload hx hb dX12_follows_40 (lv_at hl 5 rfl) ?_
          refine lv_iconst (v := 0) hx hb dX12_follows_42 (by decide) ?_
          refine lv_iconst (v := 2) hx hb dX12_follows_43 (by decide) ?_
          refine afterP (xS (fr := 0) (lo := 0) (mc := 0) (ms := 0) (As := [.int p4, .int 0, .int 2]) (rest := []) (wc := []) ⟨hx, hb, hml, hown, ht⟩ (c_X12_in l D k p4 0 2 0 2 (by decide) (by decide) _) hK hN nilP (nilD (A := A)) q5_214 q5_215 q1_6 q5_216 md_X12_in ⟨by decide, by decide⟩ rfl hl.1 rfl (Nat.le_of_ble_eq_true rfl) dX12_follows_44 ⟨by decide, by decide⟩) (fun r_9 h_10 => ?_)
          rcases h_10 with ⟨rfl, h_10⟩ | ⟨rfl, h_10⟩
          · skip
            refine lv_if_ne (tgt := 52) hx hb dX12_follows_47 (by decide) (fun _ => ?_) (fun c_ => absurd c_ (by decide))
            refine lv_aload_n hx hb dX12_follows_52 rfl (lv_at hl 0 rfl) ?_
            refine lv_iconst (v := 0) hx hb dX12_follows_53 (by decide) ?_
            refine va_put (D := D) (ci := 10) (v := .int 0) (ty := .int) (C := "TuneSchoolModel") (T := TX12) (N := 71) hx hb ht iX12 tyX12 tyX12_ok nmX12 hown hK hP hD hS 0 rfl rfl 0 (by decide) (ht _ q4_232) (fun _ h9 => h9) rfl (by decide +kernel) rfl rfl (Nat.le_of_ble_eq_true rfl) dX12_follows_54 (fun H locs hP hD hS => ?_)
            have hP : va_P D clsL [(h0, .inr (10, oX12 r (va_up fm 0 0))), ((r 2), .inl (k 1, 6, .inl (fun _ => 0)))] H := hP
            have hD : va_D A [(h0, .inr (10, oX12 r (va_up fm 0 0))), ((r 2), .inl (k 1, 6, .inl (fun _ => 0)))] := hD
            refine lv_aload_n hx hb dX12_follows_57 rfl (lv_at hl 0 rfl) ?_
            refine lv_iload_n hx hb dX12_follows_58 rfl (lv_at hl 1 rfl) ?_
            refine afterP (xV (fr := 0) (lo := 0) (mc := 0) (ms := 0) (As := [.int p0]) (rest := []) (wc := [(h0, .inr (10, oX12 r (va_up fm 0 0))), ((r 2), .inl (k 1, 6, .inl (fun _ => 0)))]) ⟨hx, hb, hml, hown, ht⟩ (c_X12_against l D k h0 r (va_up fm 0 0) p0 (by omega) (by omega) _) hK hN (hP.sub (ws' := [(h0, .inr (10, oX12 r (va_up fm 0 0))), ((r 2), .inl (k 1, 6, .inl (fun _ => 0)))]) [0, 1] rfl) (hD.sub (ws' := [(h0, .inr (10, oX12 r (va_up fm 0 0))), ((r 2), .inl (k 1, 6, .inl (fun _ => 0)))]) [0, 1] (by decide) rfl) 10 0 rfl rfl rfl q6_9 q6_11 qs_19 q1_6 q6_12 md_X12_against ⟨by decide, by decide⟩ rfl hl.1 rfl (Nat.le_of_ble_eq_true rfl) dX12_follows_59 ⟨by decide, by decide⟩) (fun r_11 h_12 => ?_)
            obtain rfl := h_12
            refine lv_istore (lv' := [(6, .int 1), (0, .ref h0), (1, .int p0), (2, .int p1), (3, .int p2), (4, .int p3), (5, .int p4)]) hx hb dX12_follows_62 hl (by decide) rfl (fun ls hl => ?_)
            refine lv_iload hx hb dX12_follows_64 (lv_at hl 0 rfl) ?_
            refine lv_if_le (tgt := 76) hx hb dX12_follows_66 (by decide) (fun c_ => absurd c_ (by decide)) (fun _ => ?_)
            refine lv_aload_n hx hb dX12_follows_69 rfl (lv_at hl 1 rfl) ?_
            refine lv_iload hx hb dX12_follows_70 (lv_at hl 0 rfl) ?_
            refine afterI (wr := [((r 2), .inl (k 1, 6, .inl (fun _ => 0)))]) (xV (fr := 0) (lo := 0) (mc := 0) (ms := 0) (As := [.int 1]) (rest := []) (wc := [(h0, .inr (10, oX12 r (va_up fm 0 0)))]) ⟨hx, hb, hml, hown, ht⟩ (c_X12_finds l D k h0 r (va_up fm 0 0) 1 _) hK hN (hP.sub (ws' := [(h0, .inr (10, oX12 r (va_up fm 0 0)))]) [0] rfl) (hD.sub (ws' := [(h0, .inr (10, oX12 r (va_up fm 0 0)))]) [0] (by decide) rfl) 10 0 rfl rfl rfl q5_217 q5_219 qs_17 q1_6 q5_220 md_X12_finds ⟨by decide, by decide⟩ rfl hl.1 rfl (Nat.le_of_ble_eq_true rfl) dX12_follows_72 ⟨by decide, by decide⟩) hP hD hS hA [0] [1] rfl rfl rfl (by decide) (fun r_13 u_14 H locs h_15 hP hD hS => ?_)
            obtain rfl : r_13 = (-11) := h_15.trans (by decide)
            have hP : va_P D clsL [((r 2), .inl (k 1, 6, .inl (fun _ => 0)))] H := hP
            have hD : va_D A [((r 2), .inl (k 1, 6, .inl (fun _ => 0)))] := hD
            exact W.iret (v := (-11)) hx hb hr (fun t ht hW => ⟨⟨(-11), (), rfl, (by first | (unfold an_follows; (repeat' split) <;> first | rfl | (exfalso; omega)) | rfl | decide), nilP, nilD⟩, hS.F ht⟩) hS.2.2 dX12_follows_75
          · skip
            refine lv_if_ne (tgt := 52) hx hb dX12_follows_47 (by decide) (fun c_ => absurd c_ (by decide)) (fun _ => ?_)
            refine lv_iconst (v := (-1)) hx hb dX12_follows_50 (by decide) ?_
            exact W.iret (v := (-1)) hx hb hr (fun t ht hW => ⟨⟨(-1), (), rfl, (by first | (unfold an_follows; (repeat' split) <;> first | rfl | (exfalso; omega)) | rfl | decide), nilP, nilD⟩, hS.F ht⟩) hS.2.2 dX12_follows_51
        · skip
          refine lv_if_eq (tgt := 50) hx hb dX12_follows_37 (by decide) (fun _ => ?_) (fun c_ => absurd c_ (by decide))
          refine lv_iconst (v := (-1)) hx hb dX12_follows_50 (by decide) ?_
          exact W.iret (v := (-1)) hx hb hr (fun t ht hW => ⟨⟨(-1), (), rfl, (by first | (unfold an_follows; (repeat' split) <;> first | rfl | (exfalso; omega)) | rfl | decide), nilP, nilD⟩, hS.F ht⟩) hS.2.2 dX12_follows_51
      · skip
        refine lv_if_eq (tgt := 50) hx hb dX12_follows_25 (by decide) (fun _ => ?_) (fun c_ => absurd c_ (by decide))
        refine lv_iconst (v := (-1)) hx hb dX12_follows_50 (by decide) ?_
        exact W.iret (v := (-1)) hx hb hr (fun t ht hW => ⟨⟨(-1), (), rfl, (by first | (unfold an_follows; (repeat' split) <;> first | rfl | (exfalso; omega)) | rfl | decide), nilP, nilD⟩, hS.F ht⟩) hS.2.2 dX12_follows_51
    · skip
      refine lv_if_eq (tgt := 50) hx hb dX12_follows_15 (by decide) (fun _ => ?_) (fun c_ => absurd c_ (by decide))
      refine lv_iconst (v := (-1)) hx hb dX12_follows_50 (by decide) ?_
      exact W.iret (v := (-1)) hx hb hr (fun t ht hW => ⟨⟨(-1), (), rfl, (by first | (unfold an_follows; (repeat' split) <;> first | rfl | (exfalso; omega)) | rfl | decide), nilP, nilD⟩, hS.F ht⟩) hS.2.2 dX12_follows_51
  · skip
    refine lv_if_eq (tgt := 50) hx hb dX12_follows_4 (by decide) (fun _ => ?_) (fun c_ => absurd c_ (by decide))
    refine lv_iconst (v := (-1)) hx hb dX12_follows_50 (by decide) ?_
    exact W.iret (v := (-1)) hx hb hr (fun t ht hW => ⟨⟨(-1), (), rfl, (by first | (unfold an_follows; (repeat' split) <;> first | rfl | (exfalso; omega)) | rfl | decide), nilP, nilD⟩, hS.F ht⟩) hS.2.2 dX12_follows_51
set_option maxHeartbeats 400000 in
set_option maxRecDepth 100000 in
theorem c_X12_undo (l : Launch) (D : va_G) (k : Nat → ClassId) (h0 : Nat) (r : Nat → Nat)   : CI l yX12_undo cX12_undo 4 (some .int) 1 21 0 0 D k [(h0, .inr (10, oX12 r fm))] [.ref h0] (S := Unit) (fun (r : Int32) (_ : Unit) => r = an_undo ) (fun _ => ([] : va_W)) := by
  intro sz
  refine mtX (Qc := fun A => va_Qi (S := Unit) (fun (r : Int32) (_ : Unit) => r = an_undo ) (fun u t => WX D A ((fun _ => ([] : va_W)) u) t) A) (free := fun A => A) (by decide) (Nat.le_of_ble_eq_true rfl) ?_
  intro p e s m below meth c ls A hB hl
  obtain ⟨hx, hb, hml, hr, hlocks, hnm, hown, ht, hK, hN, hA, hP, hD, hS⟩ := hB
  have hl : lv_has ls 4 [(0, .ref h0)] := hl
  refine lv_aload_n hx hb dX12_undo_0 rfl (lv_at hl 0 rfl) ?_
  refine lv_iconst (v := 0) hx hb dX12_undo_1 (by decide) ?_
  refine va_put (D := D) (ci := 10) (v := .int 0) (ty := .int) (C := "TuneSchoolModel") (T := TX12) (N := 71) hx hb ht iX12 tyX12 tyX12_ok nmX12 hown hK hP hD hS 0 rfl rfl 0 (by decide) (ht _ q4_232) (fun _ h9 => h9) rfl (by decide +kernel) rfl rfl (Nat.le_of_ble_eq_true rfl) dX12_undo_2 (fun H locs hP hD hS => ?_)
  have hP : va_P D clsL [(h0, .inr (10, oX12 r (va_up fm 0 0)))] H := hP
  have hD : va_D A [(h0, .inr (10, oX12 r (va_up fm 0 0)))] := hD
  refine lv_aload_n hx hb dX12_undo_5 rfl (lv_at hl 0 rfl) ?_
  refine va_get (D := D) (ci := 10) (v := .int 0) (C := "TuneSchoolModel") (T := TX12) (N := 71) hx hb ht iX12 hown hK hP 0 rfl rfl 5 (by decide) (ht _ q4_237) (fun _ h9 => h9) rfl dX12_undo_6 ?_
  refine lv_if_ne (tgt := 19) hx hb dX12_undo_9 (by decide) (fun c_ => absurd c_ (by decide)) (fun _ => ?_)
  refine lv_aload_n hx hb dX12_undo_12 rfl (lv_at hl 0 rfl) ?_
  refine lv_bipush (v := 7) hx hb dX12_undo_13 (by decide) ?_
  refine afterI (wr := []) (xV (fr := 0) (lo := 0) (mc := 0) (ms := 0) (As := [.int 7]) (rest := []) (wc := [(h0, .inr (10, oX12 r (va_up fm 0 0)))]) ⟨hx, hb, hml, hown, ht⟩ (c_X12_finds l D k h0 r (va_up fm 0 0) 7 _) hK hN (hP.sub (ws' := [(h0, .inr (10, oX12 r (va_up fm 0 0)))]) [0] rfl) (hD.sub (ws' := [(h0, .inr (10, oX12 r (va_up fm 0 0)))]) [0] (by decide) rfl) 10 0 rfl rfl rfl q5_217 q5_219 qs_17 q1_6 q5_220 md_X12_finds ⟨by decide, by decide⟩ rfl hl.1 rfl (Nat.le_of_ble_eq_true rfl) dX12_undo_15 ⟨by decide, by decide⟩) hP hD hS hA [0] [] rfl rfl rfl (by decide) (fun r_1 u_2 H locs h_3 hP hD hS => ?_)
  obtain rfl : r_1 = (-17) := h_3.trans (by decide)
  have hP : va_P D clsL [] H := hP
  have hD : va_D A [] := hD
  exact W.iret (v := (-17)) hx hb hr (fun t ht hW => ⟨⟨(-17), (), rfl, (by first | (unfold an_undo; (repeat' split) <;> first | rfl | (exfalso; omega)) | rfl | decide), nilP, nilD⟩, hS.F ht⟩) hS.2.2 dX12_undo_18
set_option maxHeartbeats 400000 in
set_option maxRecDepth 100000 in
theorem c_X12_clear (l : Launch) (D : va_G) (k : Nat → ClassId) (h0 : Nat) (r : Nat → Nat) (p0 : Int32)  : CI l yX12_clear cX12_clear 3 (some .int) 2 42 0 0 D k [(h0, .inr (10, oX12 r fm)), ((r 22), .inl (k 0, 16, .inl (fun _ => 0)))] [.ref h0, .int p0] (S := Unit) (fun (r : Int32) (_ : Unit) => r = an_clear p0) (fun _ => ([] : va_W)) := by
  intro sz
  refine mtX (Qc := fun A => va_Qi (S := Unit) (fun (r : Int32) (_ : Unit) => r = an_clear p0) (fun u t => WX D A ((fun _ => ([] : va_W)) u) t) A) (free := fun A => A) (by decide) (Nat.le_of_ble_eq_true rfl) ?_
  intro p e s m below meth c ls A hB hl
  obtain ⟨hx, hb, hml, hr, hlocks, hnm, hown, ht, hK, hN, hA, hP, hD, hS⟩ := hB
  have hl : lv_has ls 3 [(0, .ref h0), (1, .int p0)] := hl
  refine lv_iload_n hx hb dX12_clear_0 rfl (lv_at hl 1 rfl) ?_
  refine afterP (xS (fr := 1) (lo := 22) (mc := 0) (ms := 0) (As := [.int p0]) (rest := []) (wc := []) ⟨hx, hb, hml, hown, ht⟩ (c_X12_isPlace l D k p0 _) hK hN nilP (nilD (A := A)) q6_53 q6_54 q1_6 q6_55 md_X12_isPlace ⟨by decide, by decide⟩ rfl hl.1 rfl (Nat.le_of_ble_eq_true rfl) dX12_clear_1 ⟨by decide, by decide⟩) (fun r_1 h_2 => ?_)
  rcases h_2 with ⟨rfl, h_2⟩ | ⟨rfl, h_2⟩
  · skip
    refine lv_if_ne (tgt := 9) hx hb dX12_clear_4 (by decide) (fun _ => ?_) (fun c_ => absurd c_ (by decide))
    refine lv_aload_n hx hb dX12_clear_9 rfl (lv_at hl 0 rfl) ?_
    refine lv_iconst (v := 0) hx hb dX12_clear_10 (by decide) ?_
    refine va_put (D := D) (ci := 10) (v := .int 0) (ty := .int) (C := "TuneSchoolModel") (T := TX12) (N := 71) hx hb ht iX12 tyX12 tyX12_ok nmX12 hown hK hP hD hS 0 rfl rfl 0 (by decide) (ht _ q4_232) (fun _ h9 => h9) rfl (by decide +kernel) rfl rfl (Nat.le_of_ble_eq_true rfl) dX12_clear_11 (fun H locs hP hD hS => ?_)
    have hP : va_P D clsL [(h0, .inr (10, oX12 r (va_up fm 0 0))), ((r 22), .inl (k 0, 16, .inl (fun _ => 0)))] H := hP
    have hD : va_D A [(h0, .inr (10, oX12 r (va_up fm 0 0))), ((r 22), .inl (k 0, 16, .inl (fun _ => 0)))] := hD
    refine lv_aload_n hx hb dX12_clear_14 rfl (lv_at hl 0 rfl) ?_
    refine va_get (D := D) (ci := 10) (v := .ref (r 22)) (C := "TuneSchoolModel") (T := TX12) (N := 71) hx hb ht iX12 hown hK hP 0 rfl rfl 22 (by decide) (ht _ q5_14) (fun _ h9 => h9) rfl dX12_clear_15 ?_
    refine lv_iload_n hx hb dX12_clear_18 rfl (lv_at hl 1 rfl) ?_
    refine ldI (v := 0) hx hb hK hP 1 rfl (vin (by omega) (by omega)) rfl dX12_clear_19 ?_
    refine lv_if_le (tgt := 27) hx hb dX12_clear_20 (by decide) (fun _ => ?_) (fun c_ => absurd c_ (by decide))
    refine lv_iconst (v := 0) hx hb dX12_clear_27 (by decide) ?_
    refine lv_istore_n (lv' := [(2, .int 0), (0, .ref h0), (1, .int p0)]) hx hb dX12_clear_28 rfl hl (by decide) rfl (fun ls hl => ?_)
    refine lv_aload_n hx hb dX12_clear_29 rfl (lv_at hl 1 rfl) ?_
    refine va_get (D := D) (ci := 10) (v := .ref (r 22)) (C := "TuneSchoolModel") (T := TX12) (N := 71) hx hb ht iX12 hown hK hP 0 rfl rfl 22 (by decide) (ht _ q5_14) (fun _ h9 => h9) rfl dX12_clear_30 ?_
    refine lv_iload_n hx hb dX12_clear_33 rfl (lv_at hl 2 rfl) ?_
    refine lv_iconst (v := 0) hx hb dX12_clear_34 (by decide) ?_
    refine stI hx hb hK hP hD hS 1 rfl (vin (by omega) (by omega)) dX12_clear_35 (fun H locs hP hD hS => ?_)
    have hP : va_P D clsL [(h0, .inr (10, oX12 r (va_up fm 0 0))), ((r 22), .inl (k 0, 16, .inl (upd (fun _ => 0) p0.toNatClampNeg 0)))] H := hP
    have hD : va_D A [(h0, .inr (10, oX12 r (va_up fm 0 0))), ((r 22), .inl (k 0, 16, .inl (upd (fun _ => 0) p0.toNatClampNeg 0)))] := hD
    refine lv_iload_n hx hb dX12_clear_36 rfl (lv_at hl 0 rfl) ?_
    exact W.iret (v := 0) hx hb hr (fun t ht hW => ⟨⟨0, (), rfl, (by first | (unfold an_clear; (repeat' split) <;> first | rfl | (exfalso; omega)) | rfl | decide), nilP, nilD⟩, hS.F ht⟩) hS.2.2 dX12_clear_37
  · skip
    refine lv_if_ne (tgt := 9) hx hb dX12_clear_4 (by decide) (fun c_ => absurd c_ (by decide)) (fun _ => ?_)
    refine lv_iconst (v := (-1)) hx hb dX12_clear_7 (by decide) ?_
    exact W.iret (v := (-1)) hx hb hr (fun t ht hW => ⟨⟨(-1), (), rfl, (by first | (unfold an_clear; (repeat' split) <;> first | rfl | (exfalso; omega)) | rfl | decide), nilP, nilD⟩, hS.F ht⟩) hS.2.2 dX12_clear_8
set_option maxHeartbeats 400000 in
set_option maxRecDepth 100000 in
theorem c_X12_truth (l : Launch) (D : va_G) (k : Nat → ClassId) (h0 : Nat) (r : Nat → Nat) (p0 p1 p2 p3 : Int32)  : CI l yX12_truth cX12_truth 6 (some .int) 2 42 0 0 D k [(h0, .inr (10, oX12 r fm)), ((r 22), .inl (k 0, 16, .inl (fun _ => 0)))] [.ref h0, .int p0, .int p1, .int p2, .int p3] (S := Unit) (fun (r : Int32) (_ : Unit) => r = an_truth p0 p1 p2 p3) (fun _ => ([] : va_W)) := by
  intro sz
  refine mtX (Qc := fun A => va_Qi (S := Unit) (fun (r : Int32) (_ : Unit) => r = an_truth p0 p1 p2 p3) (fun u t => WX D A ((fun _ => ([] : va_W)) u) t) A) (free := fun A => A) (by decide) (Nat.le_of_ble_eq_true rfl) ?_
  intro p e s m below meth c ls A hB hl
  obtain ⟨hx, hb, hml, hr, hlocks, hnm, hown, ht, hK, hN, hA, hP, hD, hS⟩ := hB
  have hl : lv_has ls 6 [(0, .ref h0), (1, .int p0), (2, .int p1), (3, .int p2), (4, .int p3)] := hl
  refine lv_iload_n hx hb dX12_truth_0 rfl (lv_at hl 1 rfl) ?_
  refine afterP (xS (fr := 1) (lo := 22) (mc := 0) (ms := 0) (As := [.int p0]) (rest := []) (wc := []) ⟨hx, hb, hml, hown, ht⟩ (c_X12_isPlace l D k p0 _) hK hN nilP (nilD (A := A)) q6_53 q6_54 q1_6 q6_55 md_X12_isPlace ⟨by decide, by decide⟩ rfl hl.1 rfl (Nat.le_of_ble_eq_true rfl) dX12_truth_1 ⟨by decide, by decide⟩) (fun r_1 h_2 => ?_)
  rcases h_2 with ⟨rfl, h_2⟩ | ⟨rfl, h_2⟩
  · skip
    refine lv_if_eq (tgt := 16) hx hb dX12_truth_4 (by decide) (fun c_ => absurd c_ (by decide)) (fun _ => ?_)
    refine lv_iload_n hx hb dX12_truth_7 rfl (lv_at hl 2 rfl) ?_
    refine lv_iconst (v := 0) hx hb dX12_truth_8 (by decide) ?_
    refine lv_iconst (v := 2) hx hb dX12_truth_9 (by decide) ?_
    refine afterP (xS (fr := 0) (lo := 0) (mc := 0) (ms := 0) (As := [.int p1, .int 0, .int 2]) (rest := []) (wc := []) ⟨hx, hb, hml, hown, ht⟩ (c_X12_in l D k p1 0 2 0 2 (by decide) (by decide) _) hK hN nilP (nilD (A := A)) q5_214 q5_215 q1_6 q5_216 md_X12_in ⟨by decide, by decide⟩ rfl hl.1 rfl (Nat.le_of_ble_eq_true rfl) dX12_truth_10 ⟨by decide, by decide⟩) (fun r_3 h_4 => ?_)
    rcases h_4 with ⟨rfl, h_4⟩ | ⟨rfl, h_4⟩
    · skip
      refine lv_if_ne (tgt := 18) hx hb dX12_truth_13 (by decide) (fun _ => ?_) (fun c_ => absurd c_ (by decide))
      refine lv_aload_n hx hb dX12_truth_18 rfl (lv_at hl 0 rfl) ?_
      refine lv_iconst (v := 0) hx hb dX12_truth_19 (by decide) ?_
      refine va_put (D := D) (ci := 10) (v := .int 0) (ty := .int) (C := "TuneSchoolModel") (T := TX12) (N := 71) hx hb ht iX12 tyX12 tyX12_ok nmX12 hown hK hP hD hS 0 rfl rfl 0 (by decide) (ht _ q4_232) (fun _ h9 => h9) rfl (by decide +kernel) rfl rfl (Nat.le_of_ble_eq_true rfl) dX12_truth_20 (fun H locs hP hD hS => ?_)
      have hP : va_P D clsL [(h0, .inr (10, oX12 r (va_up fm 0 0))), ((r 22), .inl (k 0, 16, .inl (fun _ => 0)))] H := hP
      have hD : va_D A [(h0, .inr (10, oX12 r (va_up fm 0 0))), ((r 22), .inl (k 0, 16, .inl (fun _ => 0)))] := hD
      refine lv_aload_n hx hb dX12_truth_23 rfl (lv_at hl 0 rfl) ?_
      refine va_get (D := D) (ci := 10) (v := .ref (r 22)) (C := "TuneSchoolModel") (T := TX12) (N := 71) hx hb ht iX12 hown hK hP 0 rfl rfl 22 (by decide) (ht _ q5_14) (fun _ h9 => h9) rfl dX12_truth_24 ?_
      refine lv_iload_n hx hb dX12_truth_27 rfl (lv_at hl 1 rfl) ?_
      refine ldI (v := 0) hx hb hK hP 1 rfl (vin (by omega) (by omega)) rfl dX12_truth_28 ?_
      refine lv_iconst (v := 2) hx hb dX12_truth_29 (by decide) ?_
      refine lv_icmp_eq (tgt := 57) hx hb dX12_truth_30 (by decide) (fun c_ => absurd c_ (by decide)) (fun _ => ?_)
      refine lv_aload_n hx hb dX12_truth_33 rfl (lv_at hl 0 rfl) ?_
      refine va_get (D := D) (ci := 10) (v := .ref (r 22)) (C := "TuneSchoolModel") (T := TX12) (N := 71) hx hb ht iX12 hown hK hP 0 rfl rfl 22 (by decide) (ht _ q5_14) (fun _ h9 => h9) rfl dX12_truth_34 ?_
      refine lv_iload_n hx hb dX12_truth_37 rfl (lv_at hl 1 rfl) ?_
      refine ldI (v := 0) hx hb hK hP 1 rfl (vin (by omega) (by omega)) rfl dX12_truth_38 ?_
      refine lv_iconst (v := 1) hx hb dX12_truth_39 (by decide) ?_
      refine lv_icmp_ne (tgt := 63) hx hb dX12_truth_40 (by decide) (fun _ => ?_) (fun c_ => absurd c_ (by decide))
      refine lv_aload_n hx hb dX12_truth_63 rfl (lv_at hl 0 rfl) ?_
      refine va_get (D := D) (ci := 10) (v := .ref (r 22)) (C := "TuneSchoolModel") (T := TX12) (N := 71) hx hb ht iX12 hown hK hP 0 rfl rfl 22 (by decide) (ht _ q5_14) (fun _ h9 => h9) rfl dX12_truth_64 ?_
      refine lv_iload_n hx hb dX12_truth_67 rfl (lv_at hl 1 rfl) ?_
      refine ldI (v := 0) hx hb hK hP 1 rfl (vin (by omega) (by omega)) rfl dX12_truth_68 ?_
      refine lv_if_ne (tgt := 78) hx hb dX12_truth_69 (by decide) (fun c_ => absurd c_ (by decide)) (fun _ => ?_)
      refine lv_aload_n hx hb dX12_truth_72 rfl (lv_at hl 0 rfl) ?_
      refine lv_iconst (v := 1) hx hb dX12_truth_73 (by decide) ?_
      refine afterI (wr := [((r 22), .inl (k 0, 16, .inl (fun _ => 0)))]) (xV (fr := 0) (lo := 0) (mc := 0) (ms := 0) (As := [.int 1]) (rest := []) (wc := [(h0, .inr (10, oX12 r (va_up fm 0 0)))]) ⟨hx, hb, hml, hown, ht⟩ (c_X12_finds l D k h0 r (va_up fm 0 0) 1 _) hK hN (hP.sub (ws' := [(h0, .inr (10, oX12 r (va_up fm 0 0)))]) [0] rfl) (hD.sub (ws' := [(h0, .inr (10, oX12 r (va_up fm 0 0)))]) [0] (by decide) rfl) 10 0 rfl rfl rfl q5_217 q5_219 qs_17 q1_6 q5_220 md_X12_finds ⟨by decide, by decide⟩ rfl hl.1 rfl (Nat.le_of_ble_eq_true rfl) dX12_truth_74 ⟨by decide, by decide⟩) hP hD hS hA [0] [1] rfl rfl rfl (by decide) (fun r_5 u_6 H locs h_7 hP hD hS => ?_)
      obtain rfl : r_5 = (-11) := h_7.trans (by decide)
      have hP : va_P D clsL [((r 22), .inl (k 0, 16, .inl (fun _ => 0)))] H := hP
      have hD : va_D A [((r 22), .inl (k 0, 16, .inl (fun _ => 0)))] := hD
      exact W.iret (v := (-11)) hx hb hr (fun t ht hW => ⟨⟨(-11), (), rfl, (by first | (unfold an_truth; (repeat' split) <;> first | rfl | (exfalso; omega)) | rfl | decide), nilP, nilD⟩, hS.F ht⟩) hS.2.2 dX12_truth_77
    · skip
      refine lv_if_ne (tgt := 18) hx hb dX12_truth_13 (by decide) (fun c_ => absurd c_ (by decide)) (fun _ => ?_)
      refine lv_iconst (v := (-1)) hx hb dX12_truth_16 (by decide) ?_
      exact W.iret (v := (-1)) hx hb hr (fun t ht hW => ⟨⟨(-1), (), rfl, (by first | (unfold an_truth; (repeat' split) <;> first | rfl | (exfalso; omega)) | rfl | decide), nilP, nilD⟩, hS.F ht⟩) hS.2.2 dX12_truth_17
  · skip
    refine lv_if_eq (tgt := 16) hx hb dX12_truth_4 (by decide) (fun _ => ?_) (fun c_ => absurd c_ (by decide))
    refine lv_iconst (v := (-1)) hx hb dX12_truth_16 (by decide) ?_
    exact W.iret (v := (-1)) hx hb hr (fun t ht hW => ⟨⟨(-1), (), rfl, (by first | (unfold an_truth; (repeat' split) <;> first | rfl | (exfalso; omega)) | rfl | decide), nilP, nilD⟩, hS.F ht⟩) hS.2.2 dX12_truth_17
set_option maxHeartbeats 400000 in
set_option maxRecDepth 100000 in
theorem c_X12_is (l : Launch) (D : va_G) (k : Nat → ClassId) (h0 : Nat) (r : Nat → Nat) (p0 p1 : Int32)  : CI l yX12_is cX12_is 4 (some .int) 2 42 0 0 D k [(h0, .inr (10, oX12 r fm)), ((r 22), .inl (k 0, 16, .inl (fun _ => 0)))] [.ref h0, .int p0, .int p1] (S := Unit) (fun (r : Int32) (_ : Unit) => r = an_is p0 p1) (fun _ => ([] : va_W)) := by
  intro sz
  refine mtX (Qc := fun A => va_Qi (S := Unit) (fun (r : Int32) (_ : Unit) => r = an_is p0 p1) (fun u t => WX D A ((fun _ => ([] : va_W)) u) t) A) (free := fun A => A) (by decide) (Nat.le_of_ble_eq_true rfl) ?_
  intro p e s m below meth c ls A hB hl
  obtain ⟨hx, hb, hml, hr, hlocks, hnm, hown, ht, hK, hN, hA, hP, hD, hS⟩ := hB
  have hl : lv_has ls 4 [(0, .ref h0), (1, .int p0), (2, .int p1)] := hl
  refine lv_iload_n hx hb dX12_is_0 rfl (lv_at hl 1 rfl) ?_
  refine afterP (xS (fr := 1) (lo := 22) (mc := 0) (ms := 0) (As := [.int p0]) (rest := []) (wc := []) ⟨hx, hb, hml, hown, ht⟩ (c_X12_isPlace l D k p0 _) hK hN nilP (nilD (A := A)) q6_53 q6_54 q1_6 q6_55 md_X12_isPlace ⟨by decide, by decide⟩ rfl hl.1 rfl (Nat.le_of_ble_eq_true rfl) dX12_is_1 ⟨by decide, by decide⟩) (fun r_1 h_2 => ?_)
  rcases h_2 with ⟨rfl, h_2⟩ | ⟨rfl, h_2⟩
  · skip
    refine lv_if_eq (tgt := 16) hx hb dX12_is_4 (by decide) (fun c_ => absurd c_ (by decide)) (fun _ => ?_)
    refine lv_iload_n hx hb dX12_is_7 rfl (lv_at hl 2 rfl) ?_
    refine lv_iconst (v := 0) hx hb dX12_is_8 (by decide) ?_
    refine lv_iconst (v := 4) hx hb dX12_is_9 (by decide) ?_
    refine afterP (xS (fr := 0) (lo := 0) (mc := 0) (ms := 0) (As := [.int p1, .int 0, .int 4]) (rest := []) (wc := []) ⟨hx, hb, hml, hown, ht⟩ (c_X12_in l D k p1 0 4 0 4 (by decide) (by decide) _) hK hN nilP (nilD (A := A)) q5_214 q5_215 q1_6 q5_216 md_X12_in ⟨by decide, by decide⟩ rfl hl.1 rfl (Nat.le_of_ble_eq_true rfl) dX12_is_10 ⟨by decide, by decide⟩) (fun r_3 h_4 => ?_)
    rcases h_4 with ⟨rfl, h_4⟩ | ⟨rfl, h_4⟩
    · skip
      refine lv_if_ne (tgt := 18) hx hb dX12_is_13 (by decide) (fun _ => ?_) (fun c_ => absurd c_ (by decide))
      refine lv_aload_n hx hb dX12_is_18 rfl (lv_at hl 0 rfl) ?_
      refine lv_iconst (v := 0) hx hb dX12_is_19 (by decide) ?_
      refine va_put (D := D) (ci := 10) (v := .int 0) (ty := .int) (C := "TuneSchoolModel") (T := TX12) (N := 71) hx hb ht iX12 tyX12 tyX12_ok nmX12 hown hK hP hD hS 0 rfl rfl 0 (by decide) (ht _ q4_232) (fun _ h9 => h9) rfl (by decide +kernel) rfl rfl (Nat.le_of_ble_eq_true rfl) dX12_is_20 (fun H locs hP hD hS => ?_)
      have hP : va_P D clsL [(h0, .inr (10, oX12 r (va_up fm 0 0))), ((r 22), .inl (k 0, 16, .inl (fun _ => 0)))] H := hP
      have hD : va_D A [(h0, .inr (10, oX12 r (va_up fm 0 0))), ((r 22), .inl (k 0, 16, .inl (fun _ => 0)))] := hD
      refine lv_iload_n hx hb dX12_is_23 rfl (lv_at hl 2 rfl) ?_
      refine lv_iconst (v := 4) hx hb dX12_is_24 (by decide) ?_
      refine lv_icmp_ne (tgt := 46) hx hb dX12_is_25 (by decide) (fun c_5 => ?_) (fun c_5 => ?_)
      · skip
        have c_5 := i_neq (a := p1.toInt) (b := 4) rfl (by decide) c_5
        refine lv_aload_n hx hb dX12_is_46 rfl (lv_at hl 0 rfl) ?_
        refine va_get (D := D) (ci := 10) (v := .ref (r 22)) (C := "TuneSchoolModel") (T := TX12) (N := 71) hx hb ht iX12 hown hK hP 0 rfl rfl 22 (by decide) (ht _ q5_14) (fun _ h9 => h9) rfl dX12_is_47 ?_
        refine lv_iload_n hx hb dX12_is_50 rfl (lv_at hl 1 rfl) ?_
        refine ldI (v := 0) hx hb hK hP 1 rfl (vin (by omega) (by omega)) rfl dX12_is_51 ?_
        refine lv_iconst (v := 1) hx hb dX12_is_52 (by decide) ?_
        refine lv_icmp_ne (tgt := 74) hx hb dX12_is_53 (by decide) (fun _ => ?_) (fun c_ => absurd c_ (by decide))
        refine lv_iconst (v := 0) hx hb dX12_is_74 (by decide) ?_
        refine lv_istore_n (lv' := [(3, .int 0), (0, .ref h0), (1, .int p0), (2, .int p1)]) hx hb dX12_is_75 rfl hl (by decide) rfl (fun ls hl => ?_)
        refine lv_iload_n hx hb dX12_is_76 rfl (lv_at hl 0 rfl) ?_
        refine lv_if_eq (tgt := 84) hx hb dX12_is_77 (by decide) (fun _ => ?_) (fun c_ => absurd c_ (by decide))
        refine lv_iconst (v := 0) hx hb dX12_is_84 (by decide) ?_
        exact W.iret (v := 0) hx hb hr (fun t ht hW => ⟨⟨0, (), rfl, (by first | (unfold an_is; (repeat' split) <;> first | rfl | (exfalso; omega)) | rfl | decide), nilP, nilD⟩, hS.F ht⟩) hS.2.2 dX12_is_85
      · skip
        have c_5 := i_eq (a := p1.toInt) (b := 4) rfl (by decide) c_5
        refine lv_aload_n hx hb dX12_is_28 rfl (lv_at hl 0 rfl) ?_
        refine va_get (D := D) (ci := 10) (v := .ref (r 22)) (C := "TuneSchoolModel") (T := TX12) (N := 71) hx hb ht iX12 hown hK hP 0 rfl rfl 22 (by decide) (ht _ q5_14) (fun _ h9 => h9) rfl dX12_is_29 ?_
        refine lv_iload_n hx hb dX12_is_32 rfl (lv_at hl 1 rfl) ?_
        refine ldI (v := 0) hx hb hK hP 1 rfl (vin (by omega) (by omega)) rfl dX12_is_33 ?_
        refine lv_iconst (v := 2) hx hb dX12_is_34 (by decide) ?_
        refine lv_icmp_ne (tgt := 42) hx hb dX12_is_35 (by decide) (fun _ => ?_) (fun c_ => absurd c_ (by decide))
        refine lv_iconst (v := 0) hx hb dX12_is_42 (by decide) ?_
        refine lv_goto (tgt := 75) hx hb dX12_is_43 (by decide) ?_
        refine lv_istore_n (lv' := [(3, .int 0), (0, .ref h0), (1, .int p0), (2, .int p1)]) hx hb dX12_is_75 rfl hl (by decide) rfl (fun ls hl => ?_)
        refine lv_iload_n hx hb dX12_is_76 rfl (lv_at hl 0 rfl) ?_
        refine lv_if_eq (tgt := 84) hx hb dX12_is_77 (by decide) (fun _ => ?_) (fun c_ => absurd c_ (by decide))
        refine lv_iconst (v := 0) hx hb dX12_is_84 (by decide) ?_
        exact W.iret (v := 0) hx hb hr (fun t ht hW => ⟨⟨0, (), rfl, (by first | (unfold an_is; (repeat' split) <;> first | rfl | (exfalso; omega)) | rfl | decide), nilP, nilD⟩, hS.F ht⟩) hS.2.2 dX12_is_85
    · skip
      refine lv_if_ne (tgt := 18) hx hb dX12_is_13 (by decide) (fun c_ => absurd c_ (by decide)) (fun _ => ?_)
      refine lv_iconst (v := (-1)) hx hb dX12_is_16 (by decide) ?_
      exact W.iret (v := (-1)) hx hb hr (fun t ht hW => ⟨⟨(-1), (), rfl, (by first | (unfold an_is; (repeat' split) <;> first | rfl | (exfalso; omega)) | rfl | decide), nilP, nilD⟩, hS.F ht⟩) hS.2.2 dX12_is_17
  · skip
    refine lv_if_eq (tgt := 16) hx hb dX12_is_4 (by decide) (fun _ => ?_) (fun c_ => absurd c_ (by decide))
    refine lv_iconst (v := (-1)) hx hb dX12_is_16 (by decide) ?_
    exact W.iret (v := (-1)) hx hb hr (fun t ht hW => ⟨⟨(-1), (), rfl, (by first | (unfold an_is; (repeat' split) <;> first | rfl | (exfalso; omega)) | rfl | decide), nilP, nilD⟩, hS.F ht⟩) hS.2.2 dX12_is_17
set_option maxHeartbeats 400000 in
set_option maxRecDepth 100000 in
theorem c_X12_seat (l : Launch) (D : va_G) (k : Nat → ClassId) (h0 : Nat) (r : Nat → Nat) (p0 p1 p2 : Int32)  : CI l yX12_seat cX12_seat 6 (some .int) 2 42 0 0 D k [(h0, .inr (10, oX12 r fm)), ((r 22), .inl (k 0, 16, .inl (fun _ => 0)))] [.ref h0, .int p0, .int p1, .int p2] (S := Unit) (fun (r : Int32) (_ : Unit) => r = an_seat p0 p1 p2) (fun _ => ([] : va_W)) := by
  intro sz
  refine mtX (Qc := fun A => va_Qi (S := Unit) (fun (r : Int32) (_ : Unit) => r = an_seat p0 p1 p2) (fun u t => WX D A ((fun _ => ([] : va_W)) u) t) A) (free := fun A => A) (by decide) (Nat.le_of_ble_eq_true rfl) ?_
  intro p e s m below meth c ls A hB hl
  obtain ⟨hx, hb, hml, hr, hlocks, hnm, hown, ht, hK, hN, hA, hP, hD, hS⟩ := hB
  have hl : lv_has ls 6 [(0, .ref h0), (1, .int p0), (2, .int p1), (3, .int p2)] := hl
  refine lv_iload_n hx hb dX12_seat_0 rfl (lv_at hl 1 rfl) ?_
  refine afterP (xS (fr := 1) (lo := 22) (mc := 0) (ms := 0) (As := [.int p0]) (rest := []) (wc := []) ⟨hx, hb, hml, hown, ht⟩ (c_X12_isPlace l D k p0 _) hK hN nilP (nilD (A := A)) q6_53 q6_54 q1_6 q6_55 md_X12_isPlace ⟨by decide, by decide⟩ rfl hl.1 rfl (Nat.le_of_ble_eq_true rfl) dX12_seat_1 ⟨by decide, by decide⟩) (fun r_1 h_2 => ?_)
  rcases h_2 with ⟨rfl, h_2⟩ | ⟨rfl, h_2⟩
  · skip
    refine lv_if_eq (tgt := 14) hx hb dX12_seat_4 (by decide) (fun c_ => absurd c_ (by decide)) (fun _ => ?_)
    refine lv_iload_n hx hb dX12_seat_7 rfl (lv_at hl 3 rfl) ?_
    refine afterP (xS (fr := 1) (lo := 22) (mc := 0) (ms := 0) (As := [.int p2]) (rest := []) (wc := []) ⟨hx, hb, hml, hown, ht⟩ (c_X12_isPlace l D k p2 _) hK hN nilP (nilD (A := A)) q6_53 q6_54 q1_6 q6_55 md_X12_isPlace ⟨by decide, by decide⟩ rfl hl.1 rfl (Nat.le_of_ble_eq_true rfl) dX12_seat_8 ⟨by decide, by decide⟩) (fun r_3 h_4 => ?_)
    rcases h_4 with ⟨rfl, h_4⟩ | ⟨rfl, h_4⟩
    · skip
      refine lv_if_ne (tgt := 16) hx hb dX12_seat_11 (by decide) (fun _ => ?_) (fun c_ => absurd c_ (by decide))
      refine lv_aload_n hx hb dX12_seat_16 rfl (lv_at hl 0 rfl) ?_
      refine lv_iconst (v := 0) hx hb dX12_seat_17 (by decide) ?_
      refine va_put (D := D) (ci := 10) (v := .int 0) (ty := .int) (C := "TuneSchoolModel") (T := TX12) (N := 71) hx hb ht iX12 tyX12 tyX12_ok nmX12 hown hK hP hD hS 0 rfl rfl 0 (by decide) (ht _ q4_232) (fun _ h9 => h9) rfl (by decide +kernel) rfl rfl (Nat.le_of_ble_eq_true rfl) dX12_seat_18 (fun H locs hP hD hS => ?_)
      have hP : va_P D clsL [(h0, .inr (10, oX12 r (va_up fm 0 0))), ((r 22), .inl (k 0, 16, .inl (fun _ => 0)))] H := hP
      have hD : va_D A [(h0, .inr (10, oX12 r (va_up fm 0 0))), ((r 22), .inl (k 0, 16, .inl (fun _ => 0)))] := hD
      refine lv_aload_n hx hb dX12_seat_21 rfl (lv_at hl 0 rfl) ?_
      refine va_get (D := D) (ci := 10) (v := .ref (r 22)) (C := "TuneSchoolModel") (T := TX12) (N := 71) hx hb ht iX12 hown hK hP 0 rfl rfl 22 (by decide) (ht _ q5_14) (fun _ h9 => h9) rfl dX12_seat_22 ?_
      refine lv_iload_n hx hb dX12_seat_25 rfl (lv_at hl 1 rfl) ?_
      refine ldI (v := 0) hx hb hK hP 1 rfl (vin (by omega) (by omega)) rfl dX12_seat_26 ?_
      refine lv_iconst (v := 1) hx hb dX12_seat_27 (by decide) ?_
      refine lv_icmp_eq (tgt := 41) hx hb dX12_seat_28 (by decide) (fun c_ => absurd c_ (by decide)) (fun _ => ?_)
      refine lv_aload_n hx hb dX12_seat_31 rfl (lv_at hl 0 rfl) ?_
      refine va_get (D := D) (ci := 10) (v := .ref (r 22)) (C := "TuneSchoolModel") (T := TX12) (N := 71) hx hb ht iX12 hown hK hP 0 rfl rfl 22 (by decide) (ht _ q5_14) (fun _ h9 => h9) rfl dX12_seat_32 ?_
      refine lv_iload_n hx hb dX12_seat_35 rfl (lv_at hl 3 rfl) ?_
      refine ldI (v := 0) hx hb hK hP 1 rfl (vin (by omega) (by omega)) rfl dX12_seat_36 ?_
      refine lv_iconst (v := 2) hx hb dX12_seat_37 (by decide) ?_
      refine lv_icmp_ne (tgt := 47) hx hb dX12_seat_38 (by decide) (fun _ => ?_) (fun c_ => absurd c_ (by decide))
      refine lv_aload_n hx hb dX12_seat_47 rfl (lv_at hl 0 rfl) ?_
      refine va_get (D := D) (ci := 10) (v := .ref (r 22)) (C := "TuneSchoolModel") (T := TX12) (N := 71) hx hb ht iX12 hown hK hP 0 rfl rfl 22 (by decide) (ht _ q5_14) (fun _ h9 => h9) rfl dX12_seat_48 ?_
      refine lv_iload_n hx hb dX12_seat_51 rfl (lv_at hl 1 rfl) ?_
      refine ldI (v := 0) hx hb hK hP 1 rfl (vin (by omega) (by omega)) rfl dX12_seat_52 ?_
      refine lv_if_ne (tgt := 62) hx hb dX12_seat_53 (by decide) (fun c_ => absurd c_ (by decide)) (fun _ => ?_)
      refine lv_aload_n hx hb dX12_seat_56 rfl (lv_at hl 0 rfl) ?_
      refine lv_iconst (v := 1) hx hb dX12_seat_57 (by decide) ?_
      refine afterI (wr := [((r 22), .inl (k 0, 16, .inl (fun _ => 0)))]) (xV (fr := 0) (lo := 0) (mc := 0) (ms := 0) (As := [.int 1]) (rest := []) (wc := [(h0, .inr (10, oX12 r (va_up fm 0 0)))]) ⟨hx, hb, hml, hown, ht⟩ (c_X12_finds l D k h0 r (va_up fm 0 0) 1 _) hK hN (hP.sub (ws' := [(h0, .inr (10, oX12 r (va_up fm 0 0)))]) [0] rfl) (hD.sub (ws' := [(h0, .inr (10, oX12 r (va_up fm 0 0)))]) [0] (by decide) rfl) 10 0 rfl rfl rfl q5_217 q5_219 qs_17 q1_6 q5_220 md_X12_finds ⟨by decide, by decide⟩ rfl hl.1 rfl (Nat.le_of_ble_eq_true rfl) dX12_seat_58 ⟨by decide, by decide⟩) hP hD hS hA [0] [1] rfl rfl rfl (by decide) (fun r_5 u_6 H locs h_7 hP hD hS => ?_)
      obtain rfl : r_5 = (-11) := h_7.trans (by decide)
      have hP : va_P D clsL [((r 22), .inl (k 0, 16, .inl (fun _ => 0)))] H := hP
      have hD : va_D A [((r 22), .inl (k 0, 16, .inl (fun _ => 0)))] := hD
      exact W.iret (v := (-11)) hx hb hr (fun t ht hW => ⟨⟨(-11), (), rfl, (by first | (unfold an_seat; (repeat' split) <;> first | rfl | (exfalso; omega)) | rfl | decide), nilP, nilD⟩, hS.F ht⟩) hS.2.2 dX12_seat_61
    · skip
      refine lv_if_ne (tgt := 16) hx hb dX12_seat_11 (by decide) (fun c_ => absurd c_ (by decide)) (fun _ => ?_)
      refine lv_iconst (v := (-1)) hx hb dX12_seat_14 (by decide) ?_
      exact W.iret (v := (-1)) hx hb hr (fun t ht hW => ⟨⟨(-1), (), rfl, (by first | (unfold an_seat; (repeat' split) <;> first | rfl | (exfalso; omega)) | rfl | decide), nilP, nilD⟩, hS.F ht⟩) hS.2.2 dX12_seat_15
  · skip
    refine lv_if_eq (tgt := 14) hx hb dX12_seat_4 (by decide) (fun _ => ?_) (fun c_ => absurd c_ (by decide))
    refine lv_iconst (v := (-1)) hx hb dX12_seat_14 (by decide) ?_
    exact W.iret (v := (-1)) hx hb hr (fun t ht hW => ⟨⟨(-1), (), rfl, (by first | (unfold an_seat; (repeat' split) <;> first | rfl | (exfalso; omega)) | rfl | decide), nilP, nilD⟩, hS.F ht⟩) hS.2.2 dX12_seat_15
set_option maxHeartbeats 400000 in
set_option maxRecDepth 100000 in
theorem c_X12_seated (l : Launch) (D : va_G) (k : Nat → ClassId) (h0 : Nat) (r : Nat → Nat) (p0 p1 : Int32)  : CI l yX12_seated cX12_seated 4 (some .int) 2 42 0 0 D k [(h0, .inr (10, oX12 r fm)), ((r 22), .inl (k 0, 16, .inl (fun _ => 0)))] [.ref h0, .int p0, .int p1] (S := Unit) (fun (r : Int32) (_ : Unit) => r = an_seated p0 p1) (fun _ => ([] : va_W)) := by
  intro sz
  refine mtX (Qc := fun A => va_Qi (S := Unit) (fun (r : Int32) (_ : Unit) => r = an_seated p0 p1) (fun u t => WX D A ((fun _ => ([] : va_W)) u) t) A) (free := fun A => A) (by decide) (Nat.le_of_ble_eq_true rfl) ?_
  intro p e s m below meth c ls A hB hl
  obtain ⟨hx, hb, hml, hr, hlocks, hnm, hown, ht, hK, hN, hA, hP, hD, hS⟩ := hB
  have hl : lv_has ls 4 [(0, .ref h0), (1, .int p0), (2, .int p1)] := hl
  refine lv_iload_n hx hb dX12_seated_0 rfl (lv_at hl 1 rfl) ?_
  refine afterP (xS (fr := 1) (lo := 22) (mc := 0) (ms := 0) (As := [.int p0]) (rest := []) (wc := []) ⟨hx, hb, hml, hown, ht⟩ (c_X12_isPlace l D k p0 _) hK hN nilP (nilD (A := A)) q6_53 q6_54 q1_6 q6_55 md_X12_isPlace ⟨by decide, by decide⟩ rfl hl.1 rfl (Nat.le_of_ble_eq_true rfl) dX12_seated_1 ⟨by decide, by decide⟩) (fun r_1 h_2 => ?_)
  rcases h_2 with ⟨rfl, h_2⟩ | ⟨rfl, h_2⟩
  · skip
    refine lv_if_ne (tgt := 9) hx hb dX12_seated_4 (by decide) (fun _ => ?_) (fun c_ => absurd c_ (by decide))
    refine lv_aload_n hx hb dX12_seated_9 rfl (lv_at hl 0 rfl) ?_
    refine lv_iconst (v := 0) hx hb dX12_seated_10 (by decide) ?_
    refine va_put (D := D) (ci := 10) (v := .int 0) (ty := .int) (C := "TuneSchoolModel") (T := TX12) (N := 71) hx hb ht iX12 tyX12 tyX12_ok nmX12 hown hK hP hD hS 0 rfl rfl 0 (by decide) (ht _ q4_232) (fun _ h9 => h9) rfl (by decide +kernel) rfl rfl (Nat.le_of_ble_eq_true rfl) dX12_seated_11 (fun H locs hP hD hS => ?_)
    have hP : va_P D clsL [(h0, .inr (10, oX12 r (va_up fm 0 0))), ((r 22), .inl (k 0, 16, .inl (fun _ => 0)))] H := hP
    have hD : va_D A [(h0, .inr (10, oX12 r (va_up fm 0 0))), ((r 22), .inl (k 0, 16, .inl (fun _ => 0)))] := hD
    refine lv_aload_n hx hb dX12_seated_14 rfl (lv_at hl 0 rfl) ?_
    refine va_get (D := D) (ci := 10) (v := .ref (r 22)) (C := "TuneSchoolModel") (T := TX12) (N := 71) hx hb ht iX12 hown hK hP 0 rfl rfl 22 (by decide) (ht _ q5_14) (fun _ h9 => h9) rfl dX12_seated_15 ?_
    refine lv_iload_n hx hb dX12_seated_18 rfl (lv_at hl 1 rfl) ?_
    refine ldI (v := 0) hx hb hK hP 1 rfl (vin (by omega) (by omega)) rfl dX12_seated_19 ?_
    refine lv_iconst (v := 1) hx hb dX12_seated_20 (by decide) ?_
    refine lv_icmp_ne (tgt := 30) hx hb dX12_seated_21 (by decide) (fun _ => ?_) (fun c_ => absurd c_ (by decide))
    refine lv_aload_n hx hb dX12_seated_30 rfl (lv_at hl 0 rfl) ?_
    refine va_get (D := D) (ci := 10) (v := .ref (r 22)) (C := "TuneSchoolModel") (T := TX12) (N := 71) hx hb ht iX12 hown hK hP 0 rfl rfl 22 (by decide) (ht _ q5_14) (fun _ h9 => h9) rfl dX12_seated_31 ?_
    refine lv_iload_n hx hb dX12_seated_34 rfl (lv_at hl 1 rfl) ?_
    refine ldI (v := 0) hx hb hK hP 1 rfl (vin (by omega) (by omega)) rfl dX12_seated_35 ?_
    refine lv_if_ne (tgt := 45) hx hb dX12_seated_36 (by decide) (fun c_ => absurd c_ (by decide)) (fun _ => ?_)
    refine lv_aload_n hx hb dX12_seated_39 rfl (lv_at hl 0 rfl) ?_
    refine lv_iconst (v := 1) hx hb dX12_seated_40 (by decide) ?_
    refine afterI (wr := [((r 22), .inl (k 0, 16, .inl (fun _ => 0)))]) (xV (fr := 0) (lo := 0) (mc := 0) (ms := 0) (As := [.int 1]) (rest := []) (wc := [(h0, .inr (10, oX12 r (va_up fm 0 0)))]) ⟨hx, hb, hml, hown, ht⟩ (c_X12_finds l D k h0 r (va_up fm 0 0) 1 _) hK hN (hP.sub (ws' := [(h0, .inr (10, oX12 r (va_up fm 0 0)))]) [0] rfl) (hD.sub (ws' := [(h0, .inr (10, oX12 r (va_up fm 0 0)))]) [0] (by decide) rfl) 10 0 rfl rfl rfl q5_217 q5_219 qs_17 q1_6 q5_220 md_X12_finds ⟨by decide, by decide⟩ rfl hl.1 rfl (Nat.le_of_ble_eq_true rfl) dX12_seated_41 ⟨by decide, by decide⟩) hP hD hS hA [0] [1] rfl rfl rfl (by decide) (fun r_3 u_4 H locs h_5 hP hD hS => ?_)
    obtain rfl : r_3 = (-11) := h_5.trans (by decide)
    have hP : va_P D clsL [((r 22), .inl (k 0, 16, .inl (fun _ => 0)))] H := hP
    have hD : va_D A [((r 22), .inl (k 0, 16, .inl (fun _ => 0)))] := hD
    exact W.iret (v := (-11)) hx hb hr (fun t ht hW => ⟨⟨(-11), (), rfl, (by first | (unfold an_seated; (repeat' split) <;> first | rfl | (exfalso; omega)) | rfl | decide), nilP, nilD⟩, hS.F ht⟩) hS.2.2 dX12_seated_44
  · skip
    refine lv_if_ne (tgt := 9) hx hb dX12_seated_4 (by decide) (fun c_ => absurd c_ (by decide)) (fun _ => ?_)
    refine lv_iconst (v := (-1)) hx hb dX12_seated_7 (by decide) ?_
    exact W.iret (v := (-1)) hx hb hr (fun t ht hW => ⟨⟨(-1), (), rfl, (by first | (unfold an_seated; (repeat' split) <;> first | rfl | (exfalso; omega)) | rfl | decide), nilP, nilD⟩, hS.F ht⟩) hS.2.2 dX12_seated_8
set_option maxHeartbeats 400000 in
set_option maxRecDepth 100000 in
theorem c_X12_strong (l : Launch) (D : va_G) (k : Nat → ClassId) (h0 : Nat) (r : Nat → Nat) (p0 : Int32)  : CI l yX12_strong cX12_strong 3 (some .int) 1 22 0 0 D k [(h0, .inr (10, oX12 r fm))] [.ref h0, .int p0] (S := Unit) (fun (r : Int32) (_ : Unit) => r = an_strong p0) (fun _ => ([] : va_W)) := by
  intro sz
  refine mtX (Qc := fun A => va_Qi (S := Unit) (fun (r : Int32) (_ : Unit) => r = an_strong p0) (fun u t => WX D A ((fun _ => ([] : va_W)) u) t) A) (free := fun A => A) (by decide) (Nat.le_of_ble_eq_true rfl) ?_
  intro p e s m below meth c ls A hB hl
  obtain ⟨hx, hb, hml, hr, hlocks, hnm, hown, ht, hK, hN, hA, hP, hD, hS⟩ := hB
  have hl : lv_has ls 3 [(0, .ref h0), (1, .int p0)] := hl
  refine lv_iload_n hx hb dX12_strong_0 rfl (lv_at hl 1 rfl) ?_
  refine lv_iconst (v := 1) hx hb dX12_strong_1 (by decide) ?_
  refine lv_bipush (v := 16) hx hb dX12_strong_2 (by decide) ?_
  refine afterP (xS (fr := 0) (lo := 0) (mc := 0) (ms := 0) (As := [.int p0, .int 1, .int 16]) (rest := []) (wc := []) ⟨hx, hb, hml, hown, ht⟩ (c_X12_in l D k p0 1 16 1 16 (by decide) (by decide) _) hK hN nilP (nilD (A := A)) q5_214 q5_215 q1_6 q5_216 md_X12_in ⟨by decide, by decide⟩ rfl hl.1 rfl (Nat.le_of_ble_eq_true rfl) dX12_strong_4 ⟨by decide, by decide⟩) (fun r_1 h_2 => ?_)
  rcases h_2 with ⟨rfl, h_2⟩ | ⟨rfl, h_2⟩
  · skip
    refine lv_if_ne (tgt := 12) hx hb dX12_strong_7 (by decide) (fun _ => ?_) (fun c_ => absurd c_ (by decide))
    refine lv_aload_n hx hb dX12_strong_12 rfl (lv_at hl 0 rfl) ?_
    refine lv_iconst (v := 0) hx hb dX12_strong_13 (by decide) ?_
    refine va_put (D := D) (ci := 10) (v := .int 0) (ty := .int) (C := "TuneSchoolModel") (T := TX12) (N := 71) hx hb ht iX12 tyX12 tyX12_ok nmX12 hown hK hP hD hS 0 rfl rfl 0 (by decide) (ht _ q4_232) (fun _ h9 => h9) rfl (by decide +kernel) rfl rfl (Nat.le_of_ble_eq_true rfl) dX12_strong_14 (fun H locs hP hD hS => ?_)
    have hP : va_P D clsL [(h0, .inr (10, oX12 r (va_up fm 0 0)))] H := hP
    have hD : va_D A [(h0, .inr (10, oX12 r (va_up fm 0 0)))] := hD
    refine lv_aload_n hx hb dX12_strong_17 rfl (lv_at hl 0 rfl) ?_
    refine va_get (D := D) (ci := 10) (v := .int 4) (C := "TuneSchoolModel") (T := TX12) (N := 71) hx hb ht iX12 hown hK hP 0 rfl rfl 24 (by decide) (ht _ q5_16) (fun _ h9 => h9) rfl dX12_strong_18 ?_
    refine lv_istore_n (lv' := [(2, .int 4), (0, .ref h0), (1, .int p0)]) hx hb dX12_strong_21 rfl hl (by decide) rfl (fun ls hl => ?_)
    refine lv_aload_n hx hb dX12_strong_22 rfl (lv_at hl 1 rfl) ?_
    refine lv_iload_n hx hb dX12_strong_23 rfl (lv_at hl 2 rfl) ?_
    refine va_put (D := D) (ci := 10) (v := .int p0) (ty := .int) (C := "TuneSchoolModel") (T := TX12) (N := 71) hx hb ht iX12 tyX12 tyX12_ok nmX12 hown hK hP hD hS 0 rfl rfl 24 (by decide) (ht _ q5_16) (fun _ h9 => h9) rfl (by decide +kernel) rfl rfl (Nat.le_of_ble_eq_true rfl) dX12_strong_24 (fun H locs hP hD hS => ?_)
    have hP : va_P D clsL [(h0, .inr (10, oX12 r (va_up (va_up fm 0 0) 24 p0)))] H := hP
    have hD : va_D A [(h0, .inr (10, oX12 r (va_up (va_up fm 0 0) 24 p0)))] := hD
    refine lv_iload_n hx hb dX12_strong_27 rfl (lv_at hl 0 rfl) ?_
    exact W.iret (v := 4) hx hb hr (fun t ht hW => ⟨⟨4, (), rfl, (by first | (unfold an_strong; (repeat' split) <;> first | rfl | (exfalso; omega)) | rfl | decide), nilP, nilD⟩, hS.F ht⟩) hS.2.2 dX12_strong_28
  · skip
    refine lv_if_ne (tgt := 12) hx hb dX12_strong_7 (by decide) (fun c_ => absurd c_ (by decide)) (fun _ => ?_)
    refine lv_iconst (v := (-1)) hx hb dX12_strong_10 (by decide) ?_
    exact W.iret (v := (-1)) hx hb hr (fun t ht hW => ⟨⟨(-1), (), rfl, (by first | (unfold an_strong; (repeat' split) <;> first | rfl | (exfalso; omega)) | rfl | decide), nilP, nilD⟩, hS.F ht⟩) hS.2.2 dX12_strong_11
set_option maxHeartbeats 400000 in
set_option maxRecDepth 100000 in
theorem c_X12_key (l : Launch) (D : va_G) (k : Nat → ClassId) (h0 : Nat) (r : Nat → Nat) (p0 : Int32)  : CI l yX12_key cX12_key 3 (some .int) 1 22 0 0 D k [(h0, .inr (10, oX12 r fm))] [.ref h0, .int p0] (S := Unit) (fun (r : Int32) (_ : Unit) => r = an_key p0) (fun _ => ([] : va_W)) := by
  intro sz
  refine mtX (Qc := fun A => va_Qi (S := Unit) (fun (r : Int32) (_ : Unit) => r = an_key p0) (fun u t => WX D A ((fun _ => ([] : va_W)) u) t) A) (free := fun A => A) (by decide) (Nat.le_of_ble_eq_true rfl) ?_
  intro p e s m below meth c ls A hB hl
  obtain ⟨hx, hb, hml, hr, hlocks, hnm, hown, ht, hK, hN, hA, hP, hD, hS⟩ := hB
  have hl : lv_has ls 3 [(0, .ref h0), (1, .int p0)] := hl
  refine lv_iload_n hx hb dX12_key_0 rfl (lv_at hl 1 rfl) ?_
  refine lv_iconst (v := 0) hx hb dX12_key_1 (by decide) ?_
  refine lv_sipush (v := 4095) hx hb dX12_key_2 (by decide) ?_
  refine afterP (xS (fr := 0) (lo := 0) (mc := 0) (ms := 0) (As := [.int p0, .int 0, .int 4095]) (rest := []) (wc := []) ⟨hx, hb, hml, hown, ht⟩ (c_X12_in l D k p0 0 4095 0 4095 (by decide) (by decide) _) hK hN nilP (nilD (A := A)) q5_214 q5_215 q1_6 q5_216 md_X12_in ⟨by decide, by decide⟩ rfl hl.1 rfl (Nat.le_of_ble_eq_true rfl) dX12_key_5 ⟨by decide, by decide⟩) (fun r_1 h_2 => ?_)
  rcases h_2 with ⟨rfl, h_2⟩ | ⟨rfl, h_2⟩
  · skip
    refine lv_if_ne (tgt := 13) hx hb dX12_key_8 (by decide) (fun _ => ?_) (fun c_ => absurd c_ (by decide))
    refine lv_aload_n hx hb dX12_key_13 rfl (lv_at hl 0 rfl) ?_
    refine lv_iconst (v := 0) hx hb dX12_key_14 (by decide) ?_
    refine va_put (D := D) (ci := 10) (v := .int 0) (ty := .int) (C := "TuneSchoolModel") (T := TX12) (N := 71) hx hb ht iX12 tyX12 tyX12_ok nmX12 hown hK hP hD hS 0 rfl rfl 0 (by decide) (ht _ q4_232) (fun _ h9 => h9) rfl (by decide +kernel) rfl rfl (Nat.le_of_ble_eq_true rfl) dX12_key_15 (fun H locs hP hD hS => ?_)
    have hP : va_P D clsL [(h0, .inr (10, oX12 r (va_up fm 0 0)))] H := hP
    have hD : va_D A [(h0, .inr (10, oX12 r (va_up fm 0 0)))] := hD
    refine lv_aload_n hx hb dX12_key_18 rfl (lv_at hl 0 rfl) ?_
    refine va_get (D := D) (ci := 10) (v := .int 4095) (C := "TuneSchoolModel") (T := TX12) (N := 71) hx hb ht iX12 hown hK hP 0 rfl rfl 25 (by decide) (ht _ q5_17) (fun _ h9 => h9) rfl dX12_key_19 ?_
    refine lv_istore_n (lv' := [(2, .int 4095), (0, .ref h0), (1, .int p0)]) hx hb dX12_key_22 rfl hl (by decide) rfl (fun ls hl => ?_)
    refine lv_aload_n hx hb dX12_key_23 rfl (lv_at hl 1 rfl) ?_
    refine lv_iload_n hx hb dX12_key_24 rfl (lv_at hl 2 rfl) ?_
    refine va_put (D := D) (ci := 10) (v := .int p0) (ty := .int) (C := "TuneSchoolModel") (T := TX12) (N := 71) hx hb ht iX12 tyX12 tyX12_ok nmX12 hown hK hP hD hS 0 rfl rfl 25 (by decide) (ht _ q5_17) (fun _ h9 => h9) rfl (by decide +kernel) rfl rfl (Nat.le_of_ble_eq_true rfl) dX12_key_25 (fun H locs hP hD hS => ?_)
    have hP : va_P D clsL [(h0, .inr (10, oX12 r (va_up (va_up fm 0 0) 25 p0)))] H := hP
    have hD : va_D A [(h0, .inr (10, oX12 r (va_up (va_up fm 0 0) 25 p0)))] := hD
    refine lv_iload_n hx hb dX12_key_28 rfl (lv_at hl 0 rfl) ?_
    exact W.iret (v := 4095) hx hb hr (fun t ht hW => ⟨⟨4095, (), rfl, (by first | (unfold an_key; (repeat' split) <;> first | rfl | (exfalso; omega)) | rfl | decide), nilP, nilD⟩, hS.F ht⟩) hS.2.2 dX12_key_29
  · skip
    refine lv_if_ne (tgt := 13) hx hb dX12_key_8 (by decide) (fun c_ => absurd c_ (by decide)) (fun _ => ?_)
    refine lv_iconst (v := (-1)) hx hb dX12_key_11 (by decide) ?_
    exact W.iret (v := (-1)) hx hb hr (fun t ht hW => ⟨⟨(-1), (), rfl, (by first | (unfold an_key; (repeat' split) <;> first | rfl | (exfalso; omega)) | rfl | decide), nilP, nilD⟩, hS.F ht⟩) hS.2.2 dX12_key_12
set_option maxHeartbeats 400000 in
set_option maxRecDepth 100000 in
theorem c_X12_fault (l : Launch) (D : va_G) (k : Nat → ClassId) (h0 : Nat) (r : Nat → Nat) (p0 p1 : Int32)  : CI l yX12_fault cX12_fault 3 (some .int) 1 22 0 0 D k [(h0, .inr (10, oX12 r fm))] [.ref h0, .int p0, .int p1] (S := Unit) (fun (r : Int32) (_ : Unit) => r = an_fault p0 p1) (fun _ => ([] : va_W)) := by
  intro sz
  refine mtX (Qc := fun A => va_Qi (S := Unit) (fun (r : Int32) (_ : Unit) => r = an_fault p0 p1) (fun u t => WX D A ((fun _ => ([] : va_W)) u) t) A) (free := fun A => A) (by decide) (Nat.le_of_ble_eq_true rfl) ?_
  intro p e s m below meth c ls A hB hl
  obtain ⟨hx, hb, hml, hr, hlocks, hnm, hown, ht, hK, hN, hA, hP, hD, hS⟩ := hB
  have hl : lv_has ls 3 [(0, .ref h0), (1, .int p0), (2, .int p1)] := hl
  refine lv_iload_n hx hb dX12_fault_0 rfl (lv_at hl 2 rfl) ?_
  refine lv_iconst (v := 0) hx hb dX12_fault_1 (by decide) ?_
  refine lv_iconst (v := 3) hx hb dX12_fault_2 (by decide) ?_
  refine afterP (xS (fr := 0) (lo := 0) (mc := 0) (ms := 0) (As := [.int p1, .int 0, .int 3]) (rest := []) (wc := []) ⟨hx, hb, hml, hown, ht⟩ (c_X12_in l D k p1 0 3 0 3 (by decide) (by decide) _) hK hN nilP (nilD (A := A)) q5_214 q5_215 q1_6 q5_216 md_X12_in ⟨by decide, by decide⟩ rfl hl.1 rfl (Nat.le_of_ble_eq_true rfl) dX12_fault_3 ⟨by decide, by decide⟩) (fun r_1 h_2 => ?_)
  rcases h_2 with ⟨rfl, h_2⟩ | ⟨rfl, h_2⟩
  · skip
    refine lv_if_ne (tgt := 11) hx hb dX12_fault_6 (by decide) (fun _ => ?_) (fun c_ => absurd c_ (by decide))
    refine lv_iload_n hx hb dX12_fault_11 rfl (lv_at hl 1 rfl) ?_
    refine lv_iconst (v := 0) hx hb dX12_fault_12 (by decide) ?_
    refine lv_aload_n hx hb dX12_fault_13 rfl (lv_at hl 0 rfl) ?_
    refine va_get (D := D) (ci := 10) (v := .int 0) (C := "TuneSchoolModel") (T := TX12) (N := 71) hx hb ht iX12 hown hK hP 0 rfl rfl 31 (by decide) (ht _ q5_23) (fun _ h9 => h9) rfl dX12_fault_14 ?_
    refine lv_iconst (v := 1) hx hb dX12_fault_17 (by decide) ?_
    refine ev_isub (v := (-1)) hx hb dX12_fault_18 (by decide) ?_
    refine afterP (xS (fr := 0) (lo := 0) (mc := 0) (ms := 0) (As := [.int p0, .int 0, .int (-1)]) (rest := []) (wc := []) ⟨hx, hb, hml, hown, ht⟩ (c_X12_in l D k p0 0 (-1) 0 (-1) (by decide) (by decide) _) hK hN nilP (nilD (A := A)) q5_214 q5_215 q1_6 q5_216 md_X12_in ⟨by decide, by decide⟩ rfl hl.1 rfl (Nat.le_of_ble_eq_true rfl) dX12_fault_19 ⟨by decide, by decide⟩) (fun r_3 h_4 => ?_)
    rcases h_4 with ⟨rfl, h_4⟩ | ⟨rfl, h_4⟩
    · exact absurd h_4 (by first | decide | omega)
    · skip
      refine lv_if_ne (tgt := 28) hx hb dX12_fault_22 (by decide) (fun c_ => absurd c_ (by decide)) (fun _ => ?_)
      refine lv_bipush (v := (-2)) hx hb dX12_fault_25 (by decide) ?_
      exact W.iret (v := (-2)) hx hb hr (fun t ht hW => ⟨⟨(-2), (), rfl, (by first | (unfold an_fault; (repeat' split) <;> first | rfl | (exfalso; omega)) | rfl | decide), nilP, nilD⟩, hS.F ht⟩) hS.2.2 dX12_fault_27
  · skip
    refine lv_if_ne (tgt := 11) hx hb dX12_fault_6 (by decide) (fun c_ => absurd c_ (by decide)) (fun _ => ?_)
    refine lv_iconst (v := (-1)) hx hb dX12_fault_9 (by decide) ?_
    exact W.iret (v := (-1)) hx hb hr (fun t ht hW => ⟨⟨(-1), (), rfl, (by first | (unfold an_fault; (repeat' split) <;> first | rfl | (exfalso; omega)) | rfl | decide), nilP, nilD⟩, hS.F ht⟩) hS.2.2 dX12_fault_10
set_option maxHeartbeats 400000 in
set_option maxRecDepth 100000 in
theorem c_X12_mend (l : Launch) (D : va_G) (k : Nat → ClassId) (h0 : Nat) (r : Nat → Nat) (p0 : Int32)  : CI l yX12_mend cX12_mend 8 (some .int) 1 22 0 0 D k [(h0, .inr (10, oX12 r fm))] [.ref h0, .int p0] (S := Unit) (fun (r : Int32) (_ : Unit) => r = an_mend p0) (fun _ => ([] : va_W)) := by
  intro sz
  refine mtX (Qc := fun A => va_Qi (S := Unit) (fun (r : Int32) (_ : Unit) => r = an_mend p0) (fun u t => WX D A ((fun _ => ([] : va_W)) u) t) A) (free := fun A => A) (by decide) (Nat.le_of_ble_eq_true rfl) ?_
  intro p e s m below meth c ls A hB hl
  obtain ⟨hx, hb, hml, hr, hlocks, hnm, hown, ht, hK, hN, hA, hP, hD, hS⟩ := hB
  have hl : lv_has ls 8 [(0, .ref h0), (1, .int p0)] := hl
  refine lv_aload_n hx hb dX12_mend_0 rfl (lv_at hl 0 rfl) ?_
  refine lv_iconst (v := 0) hx hb dX12_mend_1 (by decide) ?_
  refine va_put (D := D) (ci := 10) (v := .int 0) (ty := .int) (C := "TuneSchoolModel") (T := TX12) (N := 71) hx hb ht iX12 tyX12 tyX12_ok nmX12 hown hK hP hD hS 0 rfl rfl 0 (by decide) (ht _ q4_232) (fun _ h9 => h9) rfl (by decide +kernel) rfl rfl (Nat.le_of_ble_eq_true rfl) dX12_mend_2 (fun H locs hP hD hS => ?_)
  have hP : va_P D clsL [(h0, .inr (10, oX12 r (va_up fm 0 0)))] H := hP
  have hD : va_D A [(h0, .inr (10, oX12 r (va_up fm 0 0)))] := hD
  refine lv_aload_n hx hb dX12_mend_5 rfl (lv_at hl 0 rfl) ?_
  refine afterV (wr := []) (xV (fr := 0) (lo := 0) (mc := 0) (ms := 0) (As := []) (rest := []) (wc := [(h0, .inr (10, oX12 r (va_up fm 0 0)))]) ⟨hx, hb, hml, hown, ht⟩ (c_X12_beginTrace l D k h0 r (va_up fm 0 0) _) hK hN (hP.sub (ws' := [(h0, .inr (10, oX12 r (va_up fm 0 0)))]) [0] rfl) (hD.sub (ws' := [(h0, .inr (10, oX12 r (va_up fm 0 0)))]) [0] (by decide) rfl) 10 0 rfl rfl rfl q6_104 q6_106 qs_27 q1_6 q6_107 md_X12_beginTrace ⟨by decide, by decide⟩ rfl hl.1 rfl (Nat.le_of_ble_eq_true rfl) dX12_mend_6 ⟨by decide, by decide⟩) hP hD hS hA [0] [] rfl rfl rfl (by decide) (fun u_2 H locs h_3 hP hD hS => ?_)
  have hP : va_P D clsL [(h0, .inr (10, oX12 r (va_up (va_up (va_up fm 0 0) 28 0) 27 1)))] H := hP
  have hD : va_D A [(h0, .inr (10, oX12 r (va_up (va_up (va_up fm 0 0) 28 0) 27 1)))] := hD
  refine lv_iload_n hx hb dX12_mend_9 rfl (lv_at hl 1 rfl) ?_
  refine lv_iconst (v := 0) hx hb dX12_mend_10 (by decide) ?_
  refine lv_aload_n hx hb dX12_mend_11 rfl (lv_at hl 0 rfl) ?_
  refine va_get (D := D) (ci := 10) (v := .int 0) (C := "TuneSchoolModel") (T := TX12) (N := 71) hx hb ht iX12 hown hK hP 0 rfl rfl 31 (by decide) (ht _ q5_23) (fun _ h9 => h9) rfl dX12_mend_12 ?_
  refine lv_iconst (v := 1) hx hb dX12_mend_15 (by decide) ?_
  refine ev_isub (v := (-1)) hx hb dX12_mend_16 (by decide) ?_
  refine afterP (xS (fr := 0) (lo := 0) (mc := 0) (ms := 0) (As := [.int p0, .int 0, .int (-1)]) (rest := []) (wc := []) ⟨hx, hb, hml, hown, ht⟩ (c_X12_in l D k p0 0 (-1) 0 (-1) (by decide) (by decide) _) hK hN nilP (nilD (A := A)) q5_214 q5_215 q1_6 q5_216 md_X12_in ⟨by decide, by decide⟩ rfl hl.1 rfl (Nat.le_of_ble_eq_true rfl) dX12_mend_17 ⟨by decide, by decide⟩) (fun r_4 h_5 => ?_)
  rcases h_5 with ⟨rfl, h_5⟩ | ⟨rfl, h_5⟩
  · exact absurd h_5 (by first | decide | omega)
  · skip
    refine lv_if_ne (tgt := 26) hx hb dX12_mend_20 (by decide) (fun c_ => absurd c_ (by decide)) (fun _ => ?_)
    refine lv_bipush (v := (-2)) hx hb dX12_mend_23 (by decide) ?_
    exact W.iret (v := (-2)) hx hb hr (fun t ht hW => ⟨⟨(-2), (), rfl, (by first | (unfold an_mend; (repeat' split) <;> first | rfl | (exfalso; omega)) | rfl | decide), nilP, nilD⟩, hS.F ht⟩) hS.2.2 dX12_mend_25
set_option maxHeartbeats 400000 in
set_option maxRecDepth 100000 in
theorem c_X12_goOn (l : Launch) (D : va_G) (k : Nat → ClassId) (h0 : Nat) (r : Nat → Nat) (p0 : Int32)  : CI l yX12_goOn cX12_goOn 2 (some .int) 1 22 0 0 D k [(h0, .inr (10, oX12 r fm))] [.ref h0, .int p0] (S := Unit) (fun (r : Int32) (_ : Unit) => r = an_goOn p0) (fun _ => ([] : va_W)) := by
  intro sz
  refine mtX (Qc := fun A => va_Qi (S := Unit) (fun (r : Int32) (_ : Unit) => r = an_goOn p0) (fun u t => WX D A ((fun _ => ([] : va_W)) u) t) A) (free := fun A => A) (by decide) (Nat.le_of_ble_eq_true rfl) ?_
  intro p e s m below meth c ls A hB hl
  obtain ⟨hx, hb, hml, hr, hlocks, hnm, hown, ht, hK, hN, hA, hP, hD, hS⟩ := hB
  have hl : lv_has ls 2 [(0, .ref h0), (1, .int p0)] := hl
  refine lv_iload_n hx hb dX12_goOn_0 rfl (lv_at hl 1 rfl) ?_
  refine lv_iconst (v := 0) hx hb dX12_goOn_1 (by decide) ?_
  refine lv_bipush (v := 30) hx hb dX12_goOn_2 (by decide) ?_
  refine afterP (xS (fr := 0) (lo := 0) (mc := 0) (ms := 0) (As := [.int p0, .int 0, .int 30]) (rest := []) (wc := []) ⟨hx, hb, hml, hown, ht⟩ (c_X12_in l D k p0 0 30 0 30 (by decide) (by decide) _) hK hN nilP (nilD (A := A)) q5_214 q5_215 q1_6 q5_216 md_X12_in ⟨by decide, by decide⟩ rfl hl.1 rfl (Nat.le_of_ble_eq_true rfl) dX12_goOn_4 ⟨by decide, by decide⟩) (fun r_1 h_2 => ?_)
  rcases h_2 with ⟨rfl, h_2⟩ | ⟨rfl, h_2⟩
  · skip
    refine lv_if_ne (tgt := 12) hx hb dX12_goOn_7 (by decide) (fun _ => ?_) (fun c_ => absurd c_ (by decide))
    refine lv_aload_n hx hb dX12_goOn_12 rfl (lv_at hl 0 rfl) ?_
    refine lv_iconst (v := 0) hx hb dX12_goOn_13 (by decide) ?_
    refine va_put (D := D) (ci := 10) (v := .int 0) (ty := .int) (C := "TuneSchoolModel") (T := TX12) (N := 71) hx hb ht iX12 tyX12 tyX12_ok nmX12 hown hK hP hD hS 0 rfl rfl 0 (by decide) (ht _ q4_232) (fun _ h9 => h9) rfl (by decide +kernel) rfl rfl (Nat.le_of_ble_eq_true rfl) dX12_goOn_14 (fun H locs hP hD hS => ?_)
    have hP : va_P D clsL [(h0, .inr (10, oX12 r (va_up fm 0 0)))] H := hP
    have hD : va_D A [(h0, .inr (10, oX12 r (va_up fm 0 0)))] := hD
    refine lv_aload_n hx hb dX12_goOn_17 rfl (lv_at hl 0 rfl) ?_
    refine va_get (D := D) (ci := 10) (v := .int 0) (C := "TuneSchoolModel") (T := TX12) (N := 71) hx hb ht iX12 hown hK hP 0 rfl rfl 44 (by decide) (ht _ q5_36) (fun _ h9 => h9) rfl dX12_goOn_18 ?_
    refine lv_if_eq (tgt := 31) hx hb dX12_goOn_21 (by decide) (fun _ => ?_) (fun c_ => absurd c_ (by decide))
    refine lv_aload_n hx hb dX12_goOn_31 rfl (lv_at hl 0 rfl) ?_
    refine lv_bipush (v := 7) hx hb dX12_goOn_32 (by decide) ?_
    refine afterI (wr := []) (xV (fr := 0) (lo := 0) (mc := 0) (ms := 0) (As := [.int 7]) (rest := []) (wc := [(h0, .inr (10, oX12 r (va_up fm 0 0)))]) ⟨hx, hb, hml, hown, ht⟩ (c_X12_finds l D k h0 r (va_up fm 0 0) 7 _) hK hN (hP.sub (ws' := [(h0, .inr (10, oX12 r (va_up fm 0 0)))]) [0] rfl) (hD.sub (ws' := [(h0, .inr (10, oX12 r (va_up fm 0 0)))]) [0] (by decide) rfl) 10 0 rfl rfl rfl q5_217 q5_219 qs_17 q1_6 q5_220 md_X12_finds ⟨by decide, by decide⟩ rfl hl.1 rfl (Nat.le_of_ble_eq_true rfl) dX12_goOn_34 ⟨by decide, by decide⟩) hP hD hS hA [0] [] rfl rfl rfl (by decide) (fun r_3 u_4 H locs h_5 hP hD hS => ?_)
    obtain rfl : r_3 = (-17) := h_5.trans (by decide)
    have hP : va_P D clsL [] H := hP
    have hD : va_D A [] := hD
    refine lv_goto (tgt := 45) hx hb dX12_goOn_37 (by decide) ?_
    exact W.iret (v := (-17)) hx hb hr (fun t ht hW => ⟨⟨(-17), (), rfl, (by first | (unfold an_goOn; (repeat' split) <;> first | rfl | (exfalso; omega)) | rfl | decide), nilP, nilD⟩, hS.F ht⟩) hS.2.2 dX12_goOn_45
  · skip
    refine lv_if_ne (tgt := 12) hx hb dX12_goOn_7 (by decide) (fun c_ => absurd c_ (by decide)) (fun _ => ?_)
    refine lv_iconst (v := (-1)) hx hb dX12_goOn_10 (by decide) ?_
    exact W.iret (v := (-1)) hx hb hr (fun t ht hW => ⟨⟨(-1), (), rfl, (by first | (unfold an_goOn; (repeat' split) <;> first | rfl | (exfalso; omega)) | rfl | decide), nilP, nilD⟩, hS.F ht⟩) hS.2.2 dX12_goOn_11
set_option maxHeartbeats 400000 in
set_option maxRecDepth 100000 in
theorem c_X12_least (l : Launch) (D : va_G) (k : Nat → ClassId) (h0 : Nat) (r : Nat → Nat)   : CI l yX12_least cX12_least 1 (some .int) 0 0 0 0 D k [(h0, .inr (10, oX12 r fm))] [.ref h0] (S := Unit) (fun (r : Int32) (_ : Unit) => r = an_least ) (fun _ => ([] : va_W)) := by
  intro sz
  refine mtX (Qc := fun A => va_Qi (S := Unit) (fun (r : Int32) (_ : Unit) => r = an_least ) (fun u t => WX D A ((fun _ => ([] : va_W)) u) t) A) (free := fun A => A) (by decide) (Nat.le_of_ble_eq_true rfl) ?_
  intro p e s m below meth c ls A hB hl
  obtain ⟨hx, hb, hml, hr, hlocks, hnm, hown, ht, hK, hN, hA, hP, hD, hS⟩ := hB
  have hl : lv_has ls 1 [(0, .ref h0)] := hl
  refine lv_aload_n hx hb dX12_least_0 rfl (lv_at hl 0 rfl) ?_
  refine va_get (D := D) (ci := 10) (v := .int 0) (C := "TuneSchoolModel") (T := TX12) (N := 71) hx hb ht iX12 hown hK hP 0 rfl rfl 44 (by decide) (ht _ q5_36) (fun _ h9 => h9) rfl dX12_least_1 ?_
  refine lv_if_eq (tgt := 28) hx hb dX12_least_4 (by decide) (fun _ => ?_) (fun c_ => absurd c_ (by decide))
  refine lv_bipush (v := (-2)) hx hb dX12_least_28 (by decide) ?_
  exact W.iret (v := (-2)) hx hb hr (fun t ht hW => ⟨⟨(-2), (), rfl, (by first | (unfold an_least; (repeat' split) <;> first | rfl | (exfalso; omega)) | rfl | decide), nilP, nilD⟩, hS.F ht⟩) hS.2.2 dX12_least_30
set_option maxHeartbeats 400000 in
set_option maxRecDepth 100000 in
theorem c_X12_many (l : Launch) (D : va_G) (k : Nat → ClassId) (h0 : Nat) (r : Nat → Nat)   : CI l yX12_many cX12_many 1 (some .int) 0 0 0 0 D k [(h0, .inr (10, oX12 r fm))] [.ref h0] (S := Unit) (fun (r : Int32) (_ : Unit) => r = an_many ) (fun _ => ([] : va_W)) := by
  intro sz
  refine mtX (Qc := fun A => va_Qi (S := Unit) (fun (r : Int32) (_ : Unit) => r = an_many ) (fun u t => WX D A ((fun _ => ([] : va_W)) u) t) A) (free := fun A => A) (by decide) (Nat.le_of_ble_eq_true rfl) ?_
  intro p e s m below meth c ls A hB hl
  obtain ⟨hx, hb, hml, hr, hlocks, hnm, hown, ht, hK, hN, hA, hP, hD, hS⟩ := hB
  have hl : lv_has ls 1 [(0, .ref h0)] := hl
  refine lv_aload_n hx hb dX12_many_0 rfl (lv_at hl 0 rfl) ?_
  refine va_get (D := D) (ci := 10) (v := .int 0) (C := "TuneSchoolModel") (T := TX12) (N := 71) hx hb ht iX12 hown hK hP 0 rfl rfl 44 (by decide) (ht _ q5_36) (fun _ h9 => h9) rfl dX12_many_1 ?_
  refine lv_if_eq (tgt := 21) hx hb dX12_many_4 (by decide) (fun _ => ?_) (fun c_ => absurd c_ (by decide))
  refine lv_bipush (v := (-2)) hx hb dX12_many_21 (by decide) ?_
  exact W.iret (v := (-2)) hx hb hr (fun t ht hW => ⟨⟨(-2), (), rfl, (by first | (unfold an_many; (repeat' split) <;> first | rfl | (exfalso; omega)) | rfl | decide), nilP, nilD⟩, hS.F ht⟩) hS.2.2 dX12_many_23
set_option maxHeartbeats 400000 in
set_option maxRecDepth 100000 in
theorem c_X12_row (l : Launch) (D : va_G) (k : Nat → ClassId) (h0 : Nat) (r : Nat → Nat) (p0 p1 p2 : Int32)  : CI l yX12_row cX12_row 4 (some .int) 0 0 0 0 D k [(h0, .inr (10, oX12 r fm))] [.ref h0, .int p0, .int p1, .int p2] (S := Unit) (fun (r : Int32) (_ : Unit) => r = an_row p0 p1 p2) (fun _ => ([] : va_W)) := by
  intro sz
  refine mtX (Qc := fun A => va_Qi (S := Unit) (fun (r : Int32) (_ : Unit) => r = an_row p0 p1 p2) (fun u t => WX D A ((fun _ => ([] : va_W)) u) t) A) (free := fun A => A) (by decide) (Nat.le_of_ble_eq_true rfl) ?_
  intro p e s m below meth c ls A hB hl
  obtain ⟨hx, hb, hml, hr, hlocks, hnm, hown, ht, hK, hN, hA, hP, hD, hS⟩ := hB
  have hl : lv_has ls 4 [(0, .ref h0), (1, .int p0), (2, .int p1), (3, .int p2)] := hl
  refine lv_aload_n hx hb dX12_row_0 rfl (lv_at hl 0 rfl) ?_
  refine va_get (D := D) (ci := 10) (v := .int 0) (C := "TuneSchoolModel") (T := TX12) (N := 71) hx hb ht iX12 hown hK hP 0 rfl rfl 44 (by decide) (ht _ q5_36) (fun _ h9 => h9) rfl dX12_row_1 ?_
  refine lv_if_ne (tgt := 10) hx hb dX12_row_4 (by decide) (fun c_ => absurd c_ (by decide)) (fun _ => ?_)
  refine lv_bipush (v := (-2)) hx hb dX12_row_7 (by decide) ?_
  exact W.iret (v := (-2)) hx hb hr (fun t ht hW => ⟨⟨(-2), (), rfl, (by first | (unfold an_row; (repeat' split) <;> first | rfl | (exfalso; omega)) | rfl | decide), nilP, nilD⟩, hS.F ht⟩) hS.2.2 dX12_row_9
set_option maxHeartbeats 400000 in
set_option maxRecDepth 100000 in
theorem c_X12_spoil (l : Launch) (D : va_G) (k : Nat → ClassId) (h0 : Nat) (r : Nat → Nat) (p0 p1 p2 p3 : Int32)  : CI l yX12_spoil cX12_spoil 6 (some .int) 0 0 0 0 D k [(h0, .inr (10, oX12 r fm))] [.ref h0, .int p0, .int p1, .int p2, .int p3] (S := Unit) (fun (r : Int32) (_ : Unit) => r = an_spoil p0 p1 p2 p3) (fun _ => ([] : va_W)) := by
  intro sz
  refine mtX (Qc := fun A => va_Qi (S := Unit) (fun (r : Int32) (_ : Unit) => r = an_spoil p0 p1 p2 p3) (fun u t => WX D A ((fun _ => ([] : va_W)) u) t) A) (free := fun A => A) (by decide) (Nat.le_of_ble_eq_true rfl) ?_
  intro p e s m below meth c ls A hB hl
  obtain ⟨hx, hb, hml, hr, hlocks, hnm, hown, ht, hK, hN, hA, hP, hD, hS⟩ := hB
  have hl : lv_has ls 6 [(0, .ref h0), (1, .int p0), (2, .int p1), (3, .int p2), (4, .int p3)] := hl
  refine lv_aload_n hx hb dX12_spoil_0 rfl (lv_at hl 0 rfl) ?_
  refine va_get (D := D) (ci := 10) (v := .int 0) (C := "TuneSchoolModel") (T := TX12) (N := 71) hx hb ht iX12 hown hK hP 0 rfl rfl 44 (by decide) (ht _ q5_36) (fun _ h9 => h9) rfl dX12_spoil_1 ?_
  refine lv_if_ne (tgt := 10) hx hb dX12_spoil_4 (by decide) (fun c_ => absurd c_ (by decide)) (fun _ => ?_)
  refine lv_bipush (v := (-2)) hx hb dX12_spoil_7 (by decide) ?_
  exact W.iret (v := (-2)) hx hb hr (fun t ht hW => ⟨⟨(-2), (), rfl, (by first | (unfold an_spoil; (repeat' split) <;> first | rfl | (exfalso; omega)) | rfl | decide), nilP, nilD⟩, hS.F ht⟩) hS.2.2 dX12_spoil_9
set_option maxHeartbeats 400000 in
set_option maxRecDepth 100000 in
theorem c_X12_check (l : Launch) (D : va_G) (k : Nat → ClassId) (h0 : Nat) (r : Nat → Nat)   : CI l yX12_check cX12_check 5 (some .int) 0 0 0 0 D k [(h0, .inr (10, oX12 r fm))] [.ref h0] (S := Unit) (fun (r : Int32) (_ : Unit) => r = an_check ) (fun _ => ([] : va_W)) := by
  intro sz
  refine mtX (Qc := fun A => va_Qi (S := Unit) (fun (r : Int32) (_ : Unit) => r = an_check ) (fun u t => WX D A ((fun _ => ([] : va_W)) u) t) A) (free := fun A => A) (by decide) (Nat.le_of_ble_eq_true rfl) ?_
  intro p e s m below meth c ls A hB hl
  obtain ⟨hx, hb, hml, hr, hlocks, hnm, hown, ht, hK, hN, hA, hP, hD, hS⟩ := hB
  have hl : lv_has ls 5 [(0, .ref h0)] := hl
  refine lv_aload_n hx hb dX12_check_0 rfl (lv_at hl 0 rfl) ?_
  refine lv_iconst (v := 0) hx hb dX12_check_1 (by decide) ?_
  refine va_put (D := D) (ci := 10) (v := .int 0) (ty := .int) (C := "TuneSchoolModel") (T := TX12) (N := 71) hx hb ht iX12 tyX12 tyX12_ok nmX12 hown hK hP hD hS 0 rfl rfl 0 (by decide) (ht _ q4_232) (fun _ h9 => h9) rfl (by decide +kernel) rfl rfl (Nat.le_of_ble_eq_true rfl) dX12_check_2 (fun H locs hP hD hS => ?_)
  have hP : va_P D clsL [(h0, .inr (10, oX12 r (va_up fm 0 0)))] H := hP
  have hD : va_D A [(h0, .inr (10, oX12 r (va_up fm 0 0)))] := hD
  refine lv_aload_n hx hb dX12_check_5 rfl (lv_at hl 0 rfl) ?_
  refine va_get (D := D) (ci := 10) (v := .int 0) (C := "TuneSchoolModel") (T := TX12) (N := 71) hx hb ht iX12 hown hK hP 0 rfl rfl 44 (by decide) (ht _ q5_36) (fun _ h9 => h9) rfl dX12_check_6 ?_
  refine lv_if_eq (tgt := 19) hx hb dX12_check_9 (by decide) (fun _ => ?_) (fun c_ => absurd c_ (by decide))
  refine lv_bipush (v := (-2)) hx hb dX12_check_19 (by decide) ?_
  exact W.iret (v := (-2)) hx hb hr (fun t ht hW => ⟨⟨(-2), (), rfl, (by first | (unfold an_check; (repeat' split) <;> first | rfl | (exfalso; omega)) | rfl | decide), nilP, nilD⟩, hS.F ht⟩) hS.2.2 dX12_check_21
set_option maxHeartbeats 400000 in
set_option maxRecDepth 100000 in
theorem c_X12_status (l : Launch) (D : va_G) (k : Nat → ClassId) (h0 : Nat) (r : Nat → Nat)   : CI l yX12_status cX12_status 1 (some .int) 0 0 0 0 D k [(h0, .inr (10, oX12 r fm))] [.ref h0] (S := Unit) (fun (r : Int32) (_ : Unit) => r = an_status ) (fun _ => ([] : va_W)) := by
  intro sz
  refine mtX (Qc := fun A => va_Qi (S := Unit) (fun (r : Int32) (_ : Unit) => r = an_status ) (fun u t => WX D A ((fun _ => ([] : va_W)) u) t) A) (free := fun A => A) (by decide) (Nat.le_of_ble_eq_true rfl) ?_
  intro p e s m below meth c ls A hB hl
  obtain ⟨hx, hb, hml, hr, hlocks, hnm, hown, ht, hK, hN, hA, hP, hD, hS⟩ := hB
  have hl : lv_has ls 1 [(0, .ref h0)] := hl
  refine lv_aload_n hx hb dX12_status_0 rfl (lv_at hl 0 rfl) ?_
  refine va_get (D := D) (ci := 10) (v := .int 0) (C := "TuneSchoolModel") (T := TX12) (N := 71) hx hb ht iX12 hown hK hP 0 rfl rfl 0 (by decide) (ht _ q4_232) (fun _ h9 => h9) rfl dX12_status_1 ?_
  exact W.iret (v := 0) hx hb hr (fun t ht hW => ⟨⟨0, (), rfl, (by first | (unfold an_status; (repeat' split) <;> first | rfl | (exfalso; omega)) | rfl | decide), nilP, nilD⟩, hS.F ht⟩) hS.2.2 dX12_status_4
set_option maxHeartbeats 400000 in
set_option maxRecDepth 100000 in
theorem c_X12_trace (l : Launch) (D : va_G) (k : Nat → ClassId) (h0 : Nat) (r : Nat → Nat) (p0 : Int32)  : CI l yX12_trace cX12_trace 2 (some .int) 1 22 0 0 D k [(h0, .inr (10, oX12 r fm))] [.ref h0, .int p0] (S := Unit) (fun (r : Int32) (_ : Unit) => r = an_trace p0) (fun _ => ([] : va_W)) := by
  intro sz
  refine mtX (Qc := fun A => va_Qi (S := Unit) (fun (r : Int32) (_ : Unit) => r = an_trace p0) (fun u t => WX D A ((fun _ => ([] : va_W)) u) t) A) (free := fun A => A) (by decide) (Nat.le_of_ble_eq_true rfl) ?_
  intro p e s m below meth c ls A hB hl
  obtain ⟨hx, hb, hml, hr, hlocks, hnm, hown, ht, hK, hN, hA, hP, hD, hS⟩ := hB
  have hl : lv_has ls 2 [(0, .ref h0), (1, .int p0)] := hl
  refine lv_iload_n hx hb dX12_trace_0 rfl (lv_at hl 1 rfl) ?_
  refine lv_iconst (v := 0) hx hb dX12_trace_1 (by decide) ?_
  refine lv_aload_n hx hb dX12_trace_2 rfl (lv_at hl 0 rfl) ?_
  refine va_get (D := D) (ci := 10) (v := .int 0) (C := "TuneSchoolModel") (T := TX12) (N := 71) hx hb ht iX12 hown hK hP 0 rfl rfl 28 (by decide) (ht _ q5_20) (fun _ h9 => h9) rfl dX12_trace_3 ?_
  refine lv_bipush (v := 60) hx hb dX12_trace_6 (by decide) ?_
  refine lv_icmp_ge (tgt := 18) hx hb dX12_trace_8 (by decide) (fun c_ => absurd c_ (by decide)) (fun _ => ?_)
  refine lv_aload_n hx hb dX12_trace_11 rfl (lv_at hl 0 rfl) ?_
  refine va_get (D := D) (ci := 10) (v := .int 0) (C := "TuneSchoolModel") (T := TX12) (N := 71) hx hb ht iX12 hown hK hP 0 rfl rfl 28 (by decide) (ht _ q5_20) (fun _ h9 => h9) rfl dX12_trace_12 ?_
  refine lv_goto (tgt := 20) hx hb dX12_trace_15 (by decide) ?_
  refine lv_iconst (v := 1) hx hb dX12_trace_20 (by decide) ?_
  refine ev_isub (v := (-1)) hx hb dX12_trace_21 (by decide) ?_
  refine afterP (xS (fr := 0) (lo := 0) (mc := 0) (ms := 0) (As := [.int p0, .int 0, .int (-1)]) (rest := []) (wc := []) ⟨hx, hb, hml, hown, ht⟩ (c_X12_in l D k p0 0 (-1) 0 (-1) (by decide) (by decide) _) hK hN nilP (nilD (A := A)) q5_214 q5_215 q1_6 q5_216 md_X12_in ⟨by decide, by decide⟩ rfl hl.1 rfl (Nat.le_of_ble_eq_true rfl) dX12_trace_22 ⟨by decide, by decide⟩) (fun r_1 h_2 => ?_)
  rcases h_2 with ⟨rfl, h_2⟩ | ⟨rfl, h_2⟩
  · exact absurd h_2 (by first | decide | omega)
  · skip
    refine lv_if_eq (tgt := 37) hx hb dX12_trace_25 (by decide) (fun _ => ?_) (fun c_ => absurd c_ (by decide))
    refine lv_bipush (v := (-2)) hx hb dX12_trace_37 (by decide) ?_
    exact W.iret (v := (-2)) hx hb hr (fun t ht hW => ⟨⟨(-2), (), rfl, (by first | (unfold an_trace; (repeat' split) <;> first | rfl | (exfalso; omega)) | rfl | decide), nilP, nilD⟩, hS.F ht⟩) hS.2.2 dX12_trace_39
set_option maxHeartbeats 400000 in
set_option maxRecDepth 100000 in
theorem c_X12_canon (l : Launch) (D : va_G) (k : Nat → ClassId) (h0 : Nat) (r : Nat → Nat) (p0 p1 p2 p3 p4 : Int32)  : CI l yX12_canon cX12_canon 7 (some .int) 2 44 0 0 D k [(h0, .inr (10, oX12 r fm)), ((r 2), .inl (k 1, 6, .inl (fun _ => 0))), ((r 22), .inl (k 0, 16, .inl (fun _ => 0)))] [.ref h0, .int p0, .int p1, .int p2, .int p3, .int p4] (S := Unit) (fun (r : Int32) (_ : Unit) => r = an_canon p0 p1 p2 p3 p4) (fun _ => ([] : va_W)) := by
  intro sz
  refine mtX (Qc := fun A => va_Qi (S := Unit) (fun (r : Int32) (_ : Unit) => r = an_canon p0 p1 p2 p3 p4) (fun u t => WX D A ((fun _ => ([] : va_W)) u) t) A) (free := fun A => A) (by decide) (Nat.le_of_ble_eq_true rfl) ?_
  intro p e s m below meth c ls A hB hl
  obtain ⟨hx, hb, hml, hr, hlocks, hnm, hown, ht, hK, hN, hA, hP, hD, hS⟩ := hB
  have hl : lv_has ls 7 [(0, .ref h0), (1, .int p0), (2, .int p1), (3, .int p2), (4, .int p3), (5, .int p4)] := hl
  refine lv_iload_n hx hb dX12_canon_0 rfl (lv_at hl 1 rfl) ?_
  refine afterP (xS (fr := 1) (lo := 22) (mc := 0) (ms := 0) (As := [.int p0]) (rest := []) (wc := []) ⟨hx, hb, hml, hown, ht⟩ (c_X12_isVoice l D k p0 _) hK hN nilP (nilD (A := A)) q5_211 q5_212 q1_6 q5_213 md_X12_isVoice ⟨by decide, by decide⟩ rfl hl.1 rfl (Nat.le_of_ble_eq_true rfl) dX12_canon_1 ⟨by decide, by decide⟩) (fun r_1 h_2 => ?_)
  rcases h_2 with ⟨rfl, h_2⟩ | ⟨rfl, h_2⟩
  · skip
    refine lv_if_eq (tgt := 46) hx hb dX12_canon_4 (by decide) (fun c_ => absurd c_ (by decide)) (fun _ => ?_)
    refine lv_iload_n hx hb dX12_canon_7 rfl (lv_at hl 2 rfl) ?_
    refine afterP (xS (fr := 1) (lo := 22) (mc := 0) (ms := 0) (As := [.int p1]) (rest := []) (wc := []) ⟨hx, hb, hml, hown, ht⟩ (c_X12_isPlace l D k p1 _) hK hN nilP (nilD (A := A)) q6_53 q6_54 q1_6 q6_55 md_X12_isPlace ⟨by decide, by decide⟩ rfl hl.1 rfl (Nat.le_of_ble_eq_true rfl) dX12_canon_8 ⟨by decide, by decide⟩) (fun r_3 h_4 => ?_)
    rcases h_4 with ⟨rfl, h_4⟩ | ⟨rfl, h_4⟩
    · skip
      refine lv_if_eq (tgt := 46) hx hb dX12_canon_11 (by decide) (fun c_ => absurd c_ (by decide)) (fun _ => ?_)
      refine lv_iload_n hx hb dX12_canon_14 rfl (lv_at hl 3 rfl) ?_
      refine lv_iconst (v := 0) hx hb dX12_canon_15 (by decide) ?_
      refine lv_bipush (v := 60) hx hb dX12_canon_16 (by decide) ?_
      refine afterP (xS (fr := 0) (lo := 0) (mc := 0) (ms := 0) (As := [.int p2, .int 0, .int 60]) (rest := []) (wc := []) ⟨hx, hb, hml, hown, ht⟩ (c_X12_in l D k p2 0 60 0 60 (by decide) (by decide) _) hK hN nilP (nilD (A := A)) q5_214 q5_215 q1_6 q5_216 md_X12_in ⟨by decide, by decide⟩ rfl hl.1 rfl (Nat.le_of_ble_eq_true rfl) dX12_canon_18 ⟨by decide, by decide⟩) (fun r_5 h_6 => ?_)
      rcases h_6 with ⟨rfl, h_6⟩ | ⟨rfl, h_6⟩
      · skip
        refine lv_if_eq (tgt := 46) hx hb dX12_canon_21 (by decide) (fun c_ => absurd c_ (by decide)) (fun _ => ?_)
        refine lv_iload hx hb dX12_canon_24 (lv_at hl 4 rfl) ?_
        refine lv_bipush (v := (-60)) hx hb dX12_canon_26 (by decide) ?_
        refine lv_bipush (v := 60) hx hb dX12_canon_28 (by decide) ?_
        refine afterP (xS (fr := 0) (lo := 0) (mc := 0) (ms := 0) (As := [.int p3, .int (-60), .int 60]) (rest := []) (wc := []) ⟨hx, hb, hml, hown, ht⟩ (c_X12_in l D k p3 (-60) 60 (-60) 60 (by decide) (by decide) _) hK hN nilP (nilD (A := A)) q5_214 q5_215 q1_6 q5_216 md_X12_in ⟨by decide, by decide⟩ rfl hl.1 rfl (Nat.le_of_ble_eq_true rfl) dX12_canon_30 ⟨by decide, by decide⟩) (fun r_7 h_8 => ?_)
        rcases h_8 with ⟨rfl, h_8⟩ | ⟨rfl, h_8⟩
        · skip
          refine lv_if_eq (tgt := 46) hx hb dX12_canon_33 (by decide) (fun c_ => absurd c_ (by decide)) (fun _ => ?_)
          refine lv_iload hx hb dX12_canon_36 (lv_at hl 5 rfl) ?_
          refine lv_iconst (v := 0) hx hb dX12_canon_38 (by decide) ?_
          refine lv_iconst (v := 2) hx hb dX12_canon_39 (by decide) ?_
          refine afterP (xS (fr := 0) (lo := 0) (mc := 0) (ms := 0) (As := [.int p4, .int 0, .int 2]) (rest := []) (wc := []) ⟨hx, hb, hml, hown, ht⟩ (c_X12_in l D k p4 0 2 0 2 (by decide) (by decide) _) hK hN nilP (nilD (A := A)) q5_214 q5_215 q1_6 q5_216 md_X12_in ⟨by decide, by decide⟩ rfl hl.1 rfl (Nat.le_of_ble_eq_true rfl) dX12_canon_40 ⟨by decide, by decide⟩) (fun r_9 h_10 => ?_)
          rcases h_10 with ⟨rfl, h_10⟩ | ⟨rfl, h_10⟩
          · skip
            refine lv_if_ne (tgt := 48) hx hb dX12_canon_43 (by decide) (fun _ => ?_) (fun c_ => absurd c_ (by decide))
            refine lv_aload_n hx hb dX12_canon_48 rfl (lv_at hl 0 rfl) ?_
            refine lv_iconst (v := 0) hx hb dX12_canon_49 (by decide) ?_
            refine va_put (D := D) (ci := 10) (v := .int 0) (ty := .int) (C := "TuneSchoolModel") (T := TX12) (N := 71) hx hb ht iX12 tyX12 tyX12_ok nmX12 hown hK hP hD hS 0 rfl rfl 0 (by decide) (ht _ q4_232) (fun _ h9 => h9) rfl (by decide +kernel) rfl rfl (Nat.le_of_ble_eq_true rfl) dX12_canon_50 (fun H locs hP hD hS => ?_)
            have hP : va_P D clsL [(h0, .inr (10, oX12 r (va_up fm 0 0))), ((r 2), .inl (k 1, 6, .inl (fun _ => 0))), ((r 22), .inl (k 0, 16, .inl (fun _ => 0)))] H := hP
            have hD : va_D A [(h0, .inr (10, oX12 r (va_up fm 0 0))), ((r 2), .inl (k 1, 6, .inl (fun _ => 0))), ((r 22), .inl (k 0, 16, .inl (fun _ => 0)))] := hD
            refine lv_aload_n hx hb dX12_canon_53 rfl (lv_at hl 0 rfl) ?_
            refine afterV (wr := [((r 2), .inl (k 1, 6, .inl (fun _ => 0))), ((r 22), .inl (k 0, 16, .inl (fun _ => 0)))]) (xV (fr := 0) (lo := 0) (mc := 0) (ms := 0) (As := []) (rest := []) (wc := [(h0, .inr (10, oX12 r (va_up fm 0 0)))]) ⟨hx, hb, hml, hown, ht⟩ (c_X12_beginTrace l D k h0 r (va_up fm 0 0) _) hK hN (hP.sub (ws' := [(h0, .inr (10, oX12 r (va_up fm 0 0)))]) [0] rfl) (hD.sub (ws' := [(h0, .inr (10, oX12 r (va_up fm 0 0)))]) [0] (by decide) rfl) 10 0 rfl rfl rfl q6_104 q6_106 qs_27 q1_6 q6_107 md_X12_beginTrace ⟨by decide, by decide⟩ rfl hl.1 rfl (Nat.le_of_ble_eq_true rfl) dX12_canon_54 ⟨by decide, by decide⟩) hP hD hS hA [0] [1, 2] rfl rfl rfl (by decide) (fun u_12 H locs h_13 hP hD hS => ?_)
            have hP : va_P D clsL [((r 2), .inl (k 1, 6, .inl (fun _ => 0))), ((r 22), .inl (k 0, 16, .inl (fun _ => 0))), (h0, .inr (10, oX12 r (va_up (va_up (va_up fm 0 0) 28 0) 27 1)))] H := hP
            have hD : va_D A [((r 2), .inl (k 1, 6, .inl (fun _ => 0))), ((r 22), .inl (k 0, 16, .inl (fun _ => 0))), (h0, .inr (10, oX12 r (va_up (va_up (va_up fm 0 0) 28 0) 27 1)))] := hD
            refine lv_aload_n hx hb dX12_canon_57 rfl (lv_at hl 0 rfl) ?_
            refine lv_iload_n hx hb dX12_canon_58 rfl (lv_at hl 1 rfl) ?_
            refine lv_iload_n hx hb dX12_canon_59 rfl (lv_at hl 2 rfl) ?_
            refine afterP (xV (fr := 1) (lo := 21) (mc := 0) (ms := 0) (As := [.int p0, .int p1]) (rest := []) (wc := [(h0, .inr (10, oX12 r (va_up (va_up (va_up fm 0 0) 28 0) 27 1))), ((r 2), .inl (k 1, 6, .inl (fun _ => 0)))]) ⟨hx, hb, hml, hown, ht⟩ (c_X12_againstCanon l D k h0 r (va_up (va_up (va_up fm 0 0) 28 0) 27 1) p0 p1 (by omega) (by omega) _) hK hN (hP.sub (ws' := [(h0, .inr (10, oX12 r (va_up (va_up (va_up fm 0 0) 28 0) 27 1))), ((r 2), .inl (k 1, 6, .inl (fun _ => 0)))]) [2, 0] rfl) (hD.sub (ws' := [(h0, .inr (10, oX12 r (va_up (va_up (va_up fm 0 0) 28 0) 27 1))), ((r 2), .inl (k 1, 6, .inl (fun _ => 0)))]) [2, 0] (by decide) rfl) 10 0 rfl rfl rfl q6_175 q6_177 qs_41 q1_6 q6_178 md_X12_againstCanon ⟨by decide, by decide⟩ rfl hl.1 rfl (Nat.le_of_ble_eq_true rfl) dX12_canon_60 ⟨by decide, by decide⟩) (fun r_14 h_15 => ?_)
            obtain rfl := h_15
            refine lv_istore (lv' := [(6, .int 1), (0, .ref h0), (1, .int p0), (2, .int p1), (3, .int p2), (4, .int p3), (5, .int p4)]) hx hb dX12_canon_63 hl (by decide) rfl (fun ls hl => ?_)
            refine lv_iload hx hb dX12_canon_65 (lv_at hl 0 rfl) ?_
            refine lv_if_le (tgt := 77) hx hb dX12_canon_67 (by decide) (fun c_ => absurd c_ (by decide)) (fun _ => ?_)
            refine lv_aload_n hx hb dX12_canon_70 rfl (lv_at hl 1 rfl) ?_
            refine lv_iload hx hb dX12_canon_71 (lv_at hl 0 rfl) ?_
            refine afterI (wr := [((r 2), .inl (k 1, 6, .inl (fun _ => 0))), ((r 22), .inl (k 0, 16, .inl (fun _ => 0)))]) (xV (fr := 0) (lo := 0) (mc := 0) (ms := 0) (As := [.int 1]) (rest := []) (wc := [(h0, .inr (10, oX12 r (va_up (va_up (va_up fm 0 0) 28 0) 27 1)))]) ⟨hx, hb, hml, hown, ht⟩ (c_X12_finds l D k h0 r (va_up (va_up (va_up fm 0 0) 28 0) 27 1) 1 _) hK hN (hP.sub (ws' := [(h0, .inr (10, oX12 r (va_up (va_up (va_up fm 0 0) 28 0) 27 1)))]) [2] rfl) (hD.sub (ws' := [(h0, .inr (10, oX12 r (va_up (va_up (va_up fm 0 0) 28 0) 27 1)))]) [2] (by decide) rfl) 10 0 rfl rfl rfl q5_217 q5_219 qs_17 q1_6 q5_220 md_X12_finds ⟨by decide, by decide⟩ rfl hl.1 rfl (Nat.le_of_ble_eq_true rfl) dX12_canon_73 ⟨by decide, by decide⟩) hP hD hS hA [2] [0, 1] rfl rfl rfl (by decide) (fun r_16 u_17 H locs h_18 hP hD hS => ?_)
            obtain rfl : r_16 = (-11) := h_18.trans (by decide)
            have hP : va_P D clsL [((r 2), .inl (k 1, 6, .inl (fun _ => 0))), ((r 22), .inl (k 0, 16, .inl (fun _ => 0)))] H := hP
            have hD : va_D A [((r 2), .inl (k 1, 6, .inl (fun _ => 0))), ((r 22), .inl (k 0, 16, .inl (fun _ => 0)))] := hD
            exact W.iret (v := (-11)) hx hb hr (fun t ht hW => ⟨⟨(-11), (), rfl, (by first | (unfold an_canon; (repeat' split) <;> first | rfl | (exfalso; omega)) | rfl | decide), nilP, nilD⟩, hS.F ht⟩) hS.2.2 dX12_canon_76
          · skip
            refine lv_if_ne (tgt := 48) hx hb dX12_canon_43 (by decide) (fun c_ => absurd c_ (by decide)) (fun _ => ?_)
            refine lv_iconst (v := (-1)) hx hb dX12_canon_46 (by decide) ?_
            exact W.iret (v := (-1)) hx hb hr (fun t ht hW => ⟨⟨(-1), (), rfl, (by first | (unfold an_canon; (repeat' split) <;> first | rfl | (exfalso; omega)) | rfl | decide), nilP, nilD⟩, hS.F ht⟩) hS.2.2 dX12_canon_47
        · skip
          refine lv_if_eq (tgt := 46) hx hb dX12_canon_33 (by decide) (fun _ => ?_) (fun c_ => absurd c_ (by decide))
          refine lv_iconst (v := (-1)) hx hb dX12_canon_46 (by decide) ?_
          exact W.iret (v := (-1)) hx hb hr (fun t ht hW => ⟨⟨(-1), (), rfl, (by first | (unfold an_canon; (repeat' split) <;> first | rfl | (exfalso; omega)) | rfl | decide), nilP, nilD⟩, hS.F ht⟩) hS.2.2 dX12_canon_47
      · skip
        refine lv_if_eq (tgt := 46) hx hb dX12_canon_21 (by decide) (fun _ => ?_) (fun c_ => absurd c_ (by decide))
        refine lv_iconst (v := (-1)) hx hb dX12_canon_46 (by decide) ?_
        exact W.iret (v := (-1)) hx hb hr (fun t ht hW => ⟨⟨(-1), (), rfl, (by first | (unfold an_canon; (repeat' split) <;> first | rfl | (exfalso; omega)) | rfl | decide), nilP, nilD⟩, hS.F ht⟩) hS.2.2 dX12_canon_47
    · skip
      refine lv_if_eq (tgt := 46) hx hb dX12_canon_11 (by decide) (fun _ => ?_) (fun c_ => absurd c_ (by decide))
      refine lv_iconst (v := (-1)) hx hb dX12_canon_46 (by decide) ?_
      exact W.iret (v := (-1)) hx hb hr (fun t ht hW => ⟨⟨(-1), (), rfl, (by first | (unfold an_canon; (repeat' split) <;> first | rfl | (exfalso; omega)) | rfl | decide), nilP, nilD⟩, hS.F ht⟩) hS.2.2 dX12_canon_47
  · skip
    refine lv_if_eq (tgt := 46) hx hb dX12_canon_4 (by decide) (fun _ => ?_) (fun c_ => absurd c_ (by decide))
    refine lv_iconst (v := (-1)) hx hb dX12_canon_46 (by decide) ?_
    exact W.iret (v := (-1)) hx hb hr (fun t ht hW => ⟨⟨(-1), (), rfl, (by first | (unfold an_canon; (repeat' split) <;> first | rfl | (exfalso; omega)) | rfl | decide), nilP, nilD⟩, hS.F ht⟩) hS.2.2 dX12_canon_47
set_option maxHeartbeats 400000 in
set_option maxRecDepth 100000 in
theorem c_X12_canons (l : Launch) (D : va_G) (k : Nat → ClassId) (h0 : Nat) (r : Nat → Nat) (p0 p1 p2 p3 : Int32)  : CI l yX12_canons cX12_canons 8 (some .int) 2 44 0 0 D k [(h0, .inr (10, oX12 r fm)), ((r 2), .inl (k 1, 6, .inl (fun _ => 0))), ((r 22), .inl (k 0, 16, .inl (fun _ => 0)))] [.ref h0, .int p0, .int p1, .int p2, .int p3] (S := Unit) (fun (r : Int32) (_ : Unit) => r = an_canons p0 p1 p2 p3) (fun _ => ([] : va_W)) := by
  intro sz
  refine mtX (Qc := fun A => va_Qi (S := Unit) (fun (r : Int32) (_ : Unit) => r = an_canons p0 p1 p2 p3) (fun u t => WX D A ((fun _ => ([] : va_W)) u) t) A) (free := fun A => A) (by decide) (Nat.le_of_ble_eq_true rfl) ?_
  intro p e s m below meth c ls A hB hl
  obtain ⟨hx, hb, hml, hr, hlocks, hnm, hown, ht, hK, hN, hA, hP, hD, hS⟩ := hB
  have hl : lv_has ls 8 [(0, .ref h0), (1, .int p0), (2, .int p1), (3, .int p2), (4, .int p3)] := hl
  refine lv_iload_n hx hb dX12_canons_0 rfl (lv_at hl 1 rfl) ?_
  refine afterP (xS (fr := 1) (lo := 22) (mc := 0) (ms := 0) (As := [.int p0]) (rest := []) (wc := []) ⟨hx, hb, hml, hown, ht⟩ (c_X12_isVoice l D k p0 _) hK hN nilP (nilD (A := A)) q5_211 q5_212 q1_6 q5_213 md_X12_isVoice ⟨by decide, by decide⟩ rfl hl.1 rfl (Nat.le_of_ble_eq_true rfl) dX12_canons_1 ⟨by decide, by decide⟩) (fun r_1 h_2 => ?_)
  rcases h_2 with ⟨rfl, h_2⟩ | ⟨rfl, h_2⟩
  · skip
    refine lv_if_eq (tgt := 35) hx hb dX12_canons_4 (by decide) (fun c_ => absurd c_ (by decide)) (fun _ => ?_)
    refine lv_iload_n hx hb dX12_canons_7 rfl (lv_at hl 2 rfl) ?_
    refine afterP (xS (fr := 1) (lo := 22) (mc := 0) (ms := 0) (As := [.int p1]) (rest := []) (wc := []) ⟨hx, hb, hml, hown, ht⟩ (c_X12_isPlace l D k p1 _) hK hN nilP (nilD (A := A)) q6_53 q6_54 q1_6 q6_55 md_X12_isPlace ⟨by decide, by decide⟩ rfl hl.1 rfl (Nat.le_of_ble_eq_true rfl) dX12_canons_8 ⟨by decide, by decide⟩) (fun r_3 h_4 => ?_)
    rcases h_4 with ⟨rfl, h_4⟩ | ⟨rfl, h_4⟩
    · skip
      refine lv_if_eq (tgt := 35) hx hb dX12_canons_11 (by decide) (fun c_ => absurd c_ (by decide)) (fun _ => ?_)
      refine lv_iload_n hx hb dX12_canons_14 rfl (lv_at hl 3 rfl) ?_
      refine lv_bipush (v := (-60)) hx hb dX12_canons_15 (by decide) ?_
      refine lv_bipush (v := 60) hx hb dX12_canons_17 (by decide) ?_
      refine afterP (xS (fr := 0) (lo := 0) (mc := 0) (ms := 0) (As := [.int p2, .int (-60), .int 60]) (rest := []) (wc := []) ⟨hx, hb, hml, hown, ht⟩ (c_X12_in l D k p2 (-60) 60 (-60) 60 (by decide) (by decide) _) hK hN nilP (nilD (A := A)) q5_214 q5_215 q1_6 q5_216 md_X12_in ⟨by decide, by decide⟩ rfl hl.1 rfl (Nat.le_of_ble_eq_true rfl) dX12_canons_19 ⟨by decide, by decide⟩) (fun r_5 h_6 => ?_)
      rcases h_6 with ⟨rfl, h_6⟩ | ⟨rfl, h_6⟩
      · skip
        refine lv_if_eq (tgt := 35) hx hb dX12_canons_22 (by decide) (fun c_ => absurd c_ (by decide)) (fun _ => ?_)
        refine lv_iload hx hb dX12_canons_25 (lv_at hl 4 rfl) ?_
        refine lv_iconst (v := 0) hx hb dX12_canons_27 (by decide) ?_
        refine lv_iconst (v := 2) hx hb dX12_canons_28 (by decide) ?_
        refine afterP (xS (fr := 0) (lo := 0) (mc := 0) (ms := 0) (As := [.int p3, .int 0, .int 2]) (rest := []) (wc := []) ⟨hx, hb, hml, hown, ht⟩ (c_X12_in l D k p3 0 2 0 2 (by decide) (by decide) _) hK hN nilP (nilD (A := A)) q5_214 q5_215 q1_6 q5_216 md_X12_in ⟨by decide, by decide⟩ rfl hl.1 rfl (Nat.le_of_ble_eq_true rfl) dX12_canons_29 ⟨by decide, by decide⟩) (fun r_7 h_8 => ?_)
        rcases h_8 with ⟨rfl, h_8⟩ | ⟨rfl, h_8⟩
        · skip
          refine lv_if_ne (tgt := 37) hx hb dX12_canons_32 (by decide) (fun _ => ?_) (fun c_ => absurd c_ (by decide))
          refine lv_aload_n hx hb dX12_canons_37 rfl (lv_at hl 0 rfl) ?_
          refine lv_iconst (v := 0) hx hb dX12_canons_38 (by decide) ?_
          refine va_put (D := D) (ci := 10) (v := .int 0) (ty := .int) (C := "TuneSchoolModel") (T := TX12) (N := 71) hx hb ht iX12 tyX12 tyX12_ok nmX12 hown hK hP hD hS 0 rfl rfl 0 (by decide) (ht _ q4_232) (fun _ h9 => h9) rfl (by decide +kernel) rfl rfl (Nat.le_of_ble_eq_true rfl) dX12_canons_39 (fun H locs hP hD hS => ?_)
          have hP : va_P D clsL [(h0, .inr (10, oX12 r (va_up fm 0 0))), ((r 2), .inl (k 1, 6, .inl (fun _ => 0))), ((r 22), .inl (k 0, 16, .inl (fun _ => 0)))] H := hP
          have hD : va_D A [(h0, .inr (10, oX12 r (va_up fm 0 0))), ((r 2), .inl (k 1, 6, .inl (fun _ => 0))), ((r 22), .inl (k 0, 16, .inl (fun _ => 0)))] := hD
          refine lv_aload_n hx hb dX12_canons_42 rfl (lv_at hl 0 rfl) ?_
          refine afterV (wr := [((r 2), .inl (k 1, 6, .inl (fun _ => 0))), ((r 22), .inl (k 0, 16, .inl (fun _ => 0)))]) (xV (fr := 0) (lo := 0) (mc := 0) (ms := 0) (As := []) (rest := []) (wc := [(h0, .inr (10, oX12 r (va_up fm 0 0)))]) ⟨hx, hb, hml, hown, ht⟩ (c_X12_beginTrace l D k h0 r (va_up fm 0 0) _) hK hN (hP.sub (ws' := [(h0, .inr (10, oX12 r (va_up fm 0 0)))]) [0] rfl) (hD.sub (ws' := [(h0, .inr (10, oX12 r (va_up fm 0 0)))]) [0] (by decide) rfl) 10 0 rfl rfl rfl q6_104 q6_106 qs_27 q1_6 q6_107 md_X12_beginTrace ⟨by decide, by decide⟩ rfl hl.1 rfl (Nat.le_of_ble_eq_true rfl) dX12_canons_43 ⟨by decide, by decide⟩) hP hD hS hA [0] [1, 2] rfl rfl rfl (by decide) (fun u_10 H locs h_11 hP hD hS => ?_)
          have hP : va_P D clsL [((r 2), .inl (k 1, 6, .inl (fun _ => 0))), ((r 22), .inl (k 0, 16, .inl (fun _ => 0))), (h0, .inr (10, oX12 r (va_up (va_up (va_up fm 0 0) 28 0) 27 1)))] H := hP
          have hD : va_D A [((r 2), .inl (k 1, 6, .inl (fun _ => 0))), ((r 22), .inl (k 0, 16, .inl (fun _ => 0))), (h0, .inr (10, oX12 r (va_up (va_up (va_up fm 0 0) 28 0) 27 1)))] := hD
          refine lv_aload_n hx hb dX12_canons_46 rfl (lv_at hl 0 rfl) ?_
          refine lv_iload_n hx hb dX12_canons_47 rfl (lv_at hl 1 rfl) ?_
          refine lv_iload_n hx hb dX12_canons_48 rfl (lv_at hl 2 rfl) ?_
          refine afterP (xV (fr := 1) (lo := 21) (mc := 0) (ms := 0) (As := [.int p0, .int p1]) (rest := []) (wc := [(h0, .inr (10, oX12 r (va_up (va_up (va_up fm 0 0) 28 0) 27 1))), ((r 2), .inl (k 1, 6, .inl (fun _ => 0)))]) ⟨hx, hb, hml, hown, ht⟩ (c_X12_againstCanon l D k h0 r (va_up (va_up (va_up fm 0 0) 28 0) 27 1) p0 p1 (by omega) (by omega) _) hK hN (hP.sub (ws' := [(h0, .inr (10, oX12 r (va_up (va_up (va_up fm 0 0) 28 0) 27 1))), ((r 2), .inl (k 1, 6, .inl (fun _ => 0)))]) [2, 0] rfl) (hD.sub (ws' := [(h0, .inr (10, oX12 r (va_up (va_up (va_up fm 0 0) 28 0) 27 1))), ((r 2), .inl (k 1, 6, .inl (fun _ => 0)))]) [2, 0] (by decide) rfl) 10 0 rfl rfl rfl q6_175 q6_177 qs_41 q1_6 q6_178 md_X12_againstCanon ⟨by decide, by decide⟩ rfl hl.1 rfl (Nat.le_of_ble_eq_true rfl) dX12_canons_49 ⟨by decide, by decide⟩) (fun r_12 h_13 => ?_)
          obtain rfl := h_13
          refine lv_istore (lv' := [(5, .int 1), (0, .ref h0), (1, .int p0), (2, .int p1), (3, .int p2), (4, .int p3)]) hx hb dX12_canons_52 hl (by decide) rfl (fun ls hl => ?_)
          refine lv_iload hx hb dX12_canons_54 (lv_at hl 0 rfl) ?_
          refine lv_if_le (tgt := 66) hx hb dX12_canons_56 (by decide) (fun c_ => absurd c_ (by decide)) (fun _ => ?_)
          refine lv_aload_n hx hb dX12_canons_59 rfl (lv_at hl 1 rfl) ?_
          refine lv_iload hx hb dX12_canons_60 (lv_at hl 0 rfl) ?_
          refine afterI (wr := [((r 2), .inl (k 1, 6, .inl (fun _ => 0))), ((r 22), .inl (k 0, 16, .inl (fun _ => 0)))]) (xV (fr := 0) (lo := 0) (mc := 0) (ms := 0) (As := [.int 1]) (rest := []) (wc := [(h0, .inr (10, oX12 r (va_up (va_up (va_up fm 0 0) 28 0) 27 1)))]) ⟨hx, hb, hml, hown, ht⟩ (c_X12_finds l D k h0 r (va_up (va_up (va_up fm 0 0) 28 0) 27 1) 1 _) hK hN (hP.sub (ws' := [(h0, .inr (10, oX12 r (va_up (va_up (va_up fm 0 0) 28 0) 27 1)))]) [2] rfl) (hD.sub (ws' := [(h0, .inr (10, oX12 r (va_up (va_up (va_up fm 0 0) 28 0) 27 1)))]) [2] (by decide) rfl) 10 0 rfl rfl rfl q5_217 q5_219 qs_17 q1_6 q5_220 md_X12_finds ⟨by decide, by decide⟩ rfl hl.1 rfl (Nat.le_of_ble_eq_true rfl) dX12_canons_62 ⟨by decide, by decide⟩) hP hD hS hA [2] [0, 1] rfl rfl rfl (by decide) (fun r_14 u_15 H locs h_16 hP hD hS => ?_)
          obtain rfl : r_14 = (-11) := h_16.trans (by decide)
          have hP : va_P D clsL [((r 2), .inl (k 1, 6, .inl (fun _ => 0))), ((r 22), .inl (k 0, 16, .inl (fun _ => 0)))] H := hP
          have hD : va_D A [((r 2), .inl (k 1, 6, .inl (fun _ => 0))), ((r 22), .inl (k 0, 16, .inl (fun _ => 0)))] := hD
          exact W.iret (v := (-11)) hx hb hr (fun t ht hW => ⟨⟨(-11), (), rfl, (by first | (unfold an_canons; (repeat' split) <;> first | rfl | (exfalso; omega)) | rfl | decide), nilP, nilD⟩, hS.F ht⟩) hS.2.2 dX12_canons_65
        · skip
          refine lv_if_ne (tgt := 37) hx hb dX12_canons_32 (by decide) (fun c_ => absurd c_ (by decide)) (fun _ => ?_)
          refine lv_iconst (v := (-1)) hx hb dX12_canons_35 (by decide) ?_
          exact W.iret (v := (-1)) hx hb hr (fun t ht hW => ⟨⟨(-1), (), rfl, (by first | (unfold an_canons; (repeat' split) <;> first | rfl | (exfalso; omega)) | rfl | decide), nilP, nilD⟩, hS.F ht⟩) hS.2.2 dX12_canons_36
      · skip
        refine lv_if_eq (tgt := 35) hx hb dX12_canons_22 (by decide) (fun _ => ?_) (fun c_ => absurd c_ (by decide))
        refine lv_iconst (v := (-1)) hx hb dX12_canons_35 (by decide) ?_
        exact W.iret (v := (-1)) hx hb hr (fun t ht hW => ⟨⟨(-1), (), rfl, (by first | (unfold an_canons; (repeat' split) <;> first | rfl | (exfalso; omega)) | rfl | decide), nilP, nilD⟩, hS.F ht⟩) hS.2.2 dX12_canons_36
    · skip
      refine lv_if_eq (tgt := 35) hx hb dX12_canons_11 (by decide) (fun _ => ?_) (fun c_ => absurd c_ (by decide))
      refine lv_iconst (v := (-1)) hx hb dX12_canons_35 (by decide) ?_
      exact W.iret (v := (-1)) hx hb hr (fun t ht hW => ⟨⟨(-1), (), rfl, (by first | (unfold an_canons; (repeat' split) <;> first | rfl | (exfalso; omega)) | rfl | decide), nilP, nilD⟩, hS.F ht⟩) hS.2.2 dX12_canons_36
  · skip
    refine lv_if_eq (tgt := 35) hx hb dX12_canons_4 (by decide) (fun _ => ?_) (fun c_ => absurd c_ (by decide))
    refine lv_iconst (v := (-1)) hx hb dX12_canons_35 (by decide) ?_
    exact W.iret (v := (-1)) hx hb hr (fun t ht hW => ⟨⟨(-1), (), rfl, (by first | (unfold an_canons; (repeat' split) <;> first | rfl | (exfalso; omega)) | rfl | decide), nilP, nilD⟩, hS.F ht⟩) hS.2.2 dX12_canons_36
