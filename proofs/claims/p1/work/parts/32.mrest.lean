set_option maxHeartbeats 400000 in
set_option maxRecDepth 100000 in
theorem c_X12_faults (l : Launch) (D : va_G) (k : Nat → ClassId) (h0 : Nat) (r : Nat → Nat) (p0 : Int32)  : CI l yX12_faults cX12_faults 6 (some .int) 2 42 0 0 D k [(h0, .inr (10, oX12 r fm)), ((r 2), .inl (k 1, 6, .inl (fun _ => 0))), ((r 22), .inl (k 0, 16, .inl (fun _ => 0)))] [.ref h0, .int p0] (S := Unit) (fun (r : Int32) (_ : Unit) => r = an_faults p0) (fun _ => ([] : va_W)) := by
  intro sz
  refine mtX (Qc := fun A => va_Qi (S := Unit) (fun (r : Int32) (_ : Unit) => r = an_faults p0) (fun u t => WX D A ((fun _ => ([] : va_W)) u) t) A) (free := fun A => A) (by decide) (Nat.le_of_ble_eq_true rfl) ?_
  intro p e s m below meth c ls A hB hl
  obtain ⟨hx, hb, hml, hr, hlocks, hnm, hown, ht, hK, hN, hA, hP, hD, hS⟩ := hB
  have hl : lv_has ls 6 [(0, .ref h0), (1, .int p0)] := hl
  refine lv_iload_n hx hb dX12_faults_0 rfl (lv_at hl 1 rfl) ?_
  refine afterP (xS (fr := 1) (lo := 22) (mc := 0) (ms := 0) (As := [.int p0]) (rest := []) (wc := []) ⟨hx, hb, hml, hown, ht⟩ (c_X12_isPlace l D k p0 _) hK hN nilP (nilD (A := A)) q6_53 q6_54 q1_6 q6_55 md_X12_isPlace ⟨by decide, by decide⟩ rfl hl.1 rfl (Nat.le_of_ble_eq_true rfl) dX12_faults_1 ⟨by decide, by decide⟩) (fun r_1 h_2 => ?_)
  rcases h_2 with ⟨rfl, h_2⟩ | ⟨rfl, h_2⟩
  · skip
    refine lv_if_ne (tgt := 9) hx hb dX12_faults_4 (by decide) (fun _ => ?_) (fun c_ => absurd c_ (by decide))
    refine lv_aload_n hx hb dX12_faults_9 rfl (lv_at hl 0 rfl) ?_
    refine lv_iconst (v := 0) hx hb dX12_faults_10 (by decide) ?_
    refine va_put (D := D) (ci := 10) (v := .int 0) (ty := .int) (C := "TuneSchoolModel") (T := TX12) (N := 71) hx hb ht iX12 tyX12 tyX12_ok nmX12 hown hK hP hD hS 0 rfl rfl 0 (by decide) (ht _ q4_232) (fun _ h9 => h9) rfl (by decide +kernel) rfl rfl (Nat.le_of_ble_eq_true rfl) dX12_faults_11 (fun H locs hP hD hS => ?_)
    have hP : va_P D clsL [(h0, .inr (10, oX12 r (va_up fm 0 0))), ((r 2), .inl (k 1, 6, .inl (fun _ => 0))), ((r 22), .inl (k 0, 16, .inl (fun _ => 0)))] H := hP
    have hD : va_D A [(h0, .inr (10, oX12 r (va_up fm 0 0))), ((r 2), .inl (k 1, 6, .inl (fun _ => 0))), ((r 22), .inl (k 0, 16, .inl (fun _ => 0)))] := hD
    refine lv_aload_n hx hb dX12_faults_14 rfl (lv_at hl 0 rfl) ?_
    refine afterV (wr := [((r 2), .inl (k 1, 6, .inl (fun _ => 0))), ((r 22), .inl (k 0, 16, .inl (fun _ => 0)))]) (xV (fr := 0) (lo := 0) (mc := 0) (ms := 0) (As := []) (rest := []) (wc := [(h0, .inr (10, oX12 r (va_up fm 0 0)))]) ⟨hx, hb, hml, hown, ht⟩ (c_X12_beginTrace l D k h0 r (va_up fm 0 0) _) hK hN (hP.sub (ws' := [(h0, .inr (10, oX12 r (va_up fm 0 0)))]) [0] rfl) (hD.sub (ws' := [(h0, .inr (10, oX12 r (va_up fm 0 0)))]) [0] (by decide) rfl) 10 0 rfl rfl rfl q6_104 q6_106 qs_27 q1_6 q6_107 md_X12_beginTrace ⟨by decide, by decide⟩ rfl hl.1 rfl (Nat.le_of_ble_eq_true rfl) dX12_faults_15 ⟨by decide, by decide⟩) hP hD hS hA [0] [1, 2] rfl rfl rfl (by decide) (fun u_4 H locs h_5 hP hD hS => ?_)
    have hP : va_P D clsL [((r 2), .inl (k 1, 6, .inl (fun _ => 0))), ((r 22), .inl (k 0, 16, .inl (fun _ => 0))), (h0, .inr (10, oX12 r (va_up (va_up (va_up fm 0 0) 28 0) 27 1)))] H := hP
    have hD : va_D A [((r 2), .inl (k 1, 6, .inl (fun _ => 0))), ((r 22), .inl (k 0, 16, .inl (fun _ => 0))), (h0, .inr (10, oX12 r (va_up (va_up (va_up fm 0 0) 28 0) 27 1)))] := hD
    refine lv_iconst (v := 0) hx hb dX12_faults_18 (by decide) ?_
    refine lv_istore_n (lv' := [(2, .int 0), (0, .ref h0), (1, .int p0)]) hx hb dX12_faults_19 rfl hl (by decide) rfl (fun ls hl => ?_)
    refine lv_iconst (v := 0) hx hb dX12_faults_20 (by decide) ?_
    refine lv_istore_n (lv' := [(3, .int 0), (2, .int 0), (0, .ref h0), (1, .int p0)]) hx hb dX12_faults_21 rfl hl (by decide) rfl (fun ls hl => ?_)
    refine lv_iload_n hx hb dX12_faults_22 rfl (lv_at hl 0 rfl) ?_
    refine lv_bipush (v := 6) hx hb dX12_faults_23 (by decide) ?_
    refine lv_icmp_ge (tgt := 57) hx hb dX12_faults_25 (by decide) (fun c_ => absurd c_ (by decide)) (fun _ => ?_)
    refine lv_aload_n hx hb dX12_faults_28 rfl (lv_at hl 2 rfl) ?_
    refine va_get (D := D) (ci := 10) (v := .ref (r 2)) (C := "TuneSchoolModel") (T := TX12) (N := 71) hx hb ht iX12 hown hK hP 2 rfl rfl 2 (by decide) (ht _ q4_234) (fun _ h9 => h9) rfl dX12_faults_29 ?_
    refine lv_iload_n hx hb dX12_faults_32 rfl (lv_at hl 0 rfl) ?_
    refine ldZ (v := 0) hx hb hK hP 0 rfl (vin (by decide) (by decide)) rfl dX12_faults_33 ?_
    refine lv_if_eq (tgt := 51) hx hb dX12_faults_34 (by decide) (fun _ => ?_) (fun c_ => absurd c_ (by decide))
    refine lv_iinc (v := 1) (lv' := [(3, .int 1), (2, .int 0), (0, .ref h0), (1, .int p0)]) hx hb dX12_faults_51 hl (k := 0) rfl (by decide) (by decide) rfl (fun ls hl => ?_)
    refine lv_goto (tgt := 22) hx hb dX12_faults_54 (by decide) ?_
    refine lv_iload_n hx hb dX12_faults_22 rfl (lv_at hl 0 rfl) ?_
    refine lv_bipush (v := 6) hx hb dX12_faults_23 (by decide) ?_
    refine lv_icmp_ge (tgt := 57) hx hb dX12_faults_25 (by decide) (fun c_ => absurd c_ (by decide)) (fun _ => ?_)
    refine lv_aload_n hx hb dX12_faults_28 rfl (lv_at hl 2 rfl) ?_
    refine va_get (D := D) (ci := 10) (v := .ref (r 2)) (C := "TuneSchoolModel") (T := TX12) (N := 71) hx hb ht iX12 hown hK hP 2 rfl rfl 2 (by decide) (ht _ q4_234) (fun _ h9 => h9) rfl dX12_faults_29 ?_
    refine lv_iload_n hx hb dX12_faults_32 rfl (lv_at hl 0 rfl) ?_
    refine ldZ (v := 0) hx hb hK hP 0 rfl (vin (by decide) (by decide)) rfl dX12_faults_33 ?_
    refine lv_if_eq (tgt := 51) hx hb dX12_faults_34 (by decide) (fun _ => ?_) (fun c_ => absurd c_ (by decide))
    refine lv_iinc (v := 2) (lv' := [(3, .int 2), (2, .int 0), (0, .ref h0), (1, .int p0)]) hx hb dX12_faults_51 hl (k := 0) rfl (by decide) (by decide) rfl (fun ls hl => ?_)
    refine lv_goto (tgt := 22) hx hb dX12_faults_54 (by decide) ?_
    refine lv_iload_n hx hb dX12_faults_22 rfl (lv_at hl 0 rfl) ?_
    refine lv_bipush (v := 6) hx hb dX12_faults_23 (by decide) ?_
    refine lv_icmp_ge (tgt := 57) hx hb dX12_faults_25 (by decide) (fun c_ => absurd c_ (by decide)) (fun _ => ?_)
    refine lv_aload_n hx hb dX12_faults_28 rfl (lv_at hl 2 rfl) ?_
    refine va_get (D := D) (ci := 10) (v := .ref (r 2)) (C := "TuneSchoolModel") (T := TX12) (N := 71) hx hb ht iX12 hown hK hP 2 rfl rfl 2 (by decide) (ht _ q4_234) (fun _ h9 => h9) rfl dX12_faults_29 ?_
    refine lv_iload_n hx hb dX12_faults_32 rfl (lv_at hl 0 rfl) ?_
    refine ldZ (v := 0) hx hb hK hP 0 rfl (vin (by decide) (by decide)) rfl dX12_faults_33 ?_
    refine lv_if_eq (tgt := 51) hx hb dX12_faults_34 (by decide) (fun _ => ?_) (fun c_ => absurd c_ (by decide))
    refine lv_iinc (v := 3) (lv' := [(3, .int 3), (2, .int 0), (0, .ref h0), (1, .int p0)]) hx hb dX12_faults_51 hl (k := 0) rfl (by decide) (by decide) rfl (fun ls hl => ?_)
    refine lv_goto (tgt := 22) hx hb dX12_faults_54 (by decide) ?_
    refine lv_iload_n hx hb dX12_faults_22 rfl (lv_at hl 0 rfl) ?_
    refine lv_bipush (v := 6) hx hb dX12_faults_23 (by decide) ?_
    refine lv_icmp_ge (tgt := 57) hx hb dX12_faults_25 (by decide) (fun c_ => absurd c_ (by decide)) (fun _ => ?_)
    refine lv_aload_n hx hb dX12_faults_28 rfl (lv_at hl 2 rfl) ?_
    refine va_get (D := D) (ci := 10) (v := .ref (r 2)) (C := "TuneSchoolModel") (T := TX12) (N := 71) hx hb ht iX12 hown hK hP 2 rfl rfl 2 (by decide) (ht _ q4_234) (fun _ h9 => h9) rfl dX12_faults_29 ?_
    refine lv_iload_n hx hb dX12_faults_32 rfl (lv_at hl 0 rfl) ?_
    refine ldZ (v := 0) hx hb hK hP 0 rfl (vin (by decide) (by decide)) rfl dX12_faults_33 ?_
    refine lv_if_eq (tgt := 51) hx hb dX12_faults_34 (by decide) (fun _ => ?_) (fun c_ => absurd c_ (by decide))
    refine lv_iinc (v := 4) (lv' := [(3, .int 4), (2, .int 0), (0, .ref h0), (1, .int p0)]) hx hb dX12_faults_51 hl (k := 0) rfl (by decide) (by decide) rfl (fun ls hl => ?_)
    refine lv_goto (tgt := 22) hx hb dX12_faults_54 (by decide) ?_
    refine lv_iload_n hx hb dX12_faults_22 rfl (lv_at hl 0 rfl) ?_
    refine lv_bipush (v := 6) hx hb dX12_faults_23 (by decide) ?_
    refine lv_icmp_ge (tgt := 57) hx hb dX12_faults_25 (by decide) (fun c_ => absurd c_ (by decide)) (fun _ => ?_)
    refine lv_aload_n hx hb dX12_faults_28 rfl (lv_at hl 2 rfl) ?_
    refine va_get (D := D) (ci := 10) (v := .ref (r 2)) (C := "TuneSchoolModel") (T := TX12) (N := 71) hx hb ht iX12 hown hK hP 2 rfl rfl 2 (by decide) (ht _ q4_234) (fun _ h9 => h9) rfl dX12_faults_29 ?_
    refine lv_iload_n hx hb dX12_faults_32 rfl (lv_at hl 0 rfl) ?_
    refine ldZ (v := 0) hx hb hK hP 0 rfl (vin (by decide) (by decide)) rfl dX12_faults_33 ?_
    refine lv_if_eq (tgt := 51) hx hb dX12_faults_34 (by decide) (fun _ => ?_) (fun c_ => absurd c_ (by decide))
    refine lv_iinc (v := 5) (lv' := [(3, .int 5), (2, .int 0), (0, .ref h0), (1, .int p0)]) hx hb dX12_faults_51 hl (k := 0) rfl (by decide) (by decide) rfl (fun ls hl => ?_)
    refine lv_goto (tgt := 22) hx hb dX12_faults_54 (by decide) ?_
    refine lv_iload_n hx hb dX12_faults_22 rfl (lv_at hl 0 rfl) ?_
    refine lv_bipush (v := 6) hx hb dX12_faults_23 (by decide) ?_
    refine lv_icmp_ge (tgt := 57) hx hb dX12_faults_25 (by decide) (fun c_ => absurd c_ (by decide)) (fun _ => ?_)
    refine lv_aload_n hx hb dX12_faults_28 rfl (lv_at hl 2 rfl) ?_
    refine va_get (D := D) (ci := 10) (v := .ref (r 2)) (C := "TuneSchoolModel") (T := TX12) (N := 71) hx hb ht iX12 hown hK hP 2 rfl rfl 2 (by decide) (ht _ q4_234) (fun _ h9 => h9) rfl dX12_faults_29 ?_
    refine lv_iload_n hx hb dX12_faults_32 rfl (lv_at hl 0 rfl) ?_
    refine ldZ (v := 0) hx hb hK hP 0 rfl (vin (by decide) (by decide)) rfl dX12_faults_33 ?_
    refine lv_if_eq (tgt := 51) hx hb dX12_faults_34 (by decide) (fun _ => ?_) (fun c_ => absurd c_ (by decide))
    refine lv_iinc (v := 6) (lv' := [(3, .int 6), (2, .int 0), (0, .ref h0), (1, .int p0)]) hx hb dX12_faults_51 hl (k := 0) rfl (by decide) (by decide) rfl (fun ls hl => ?_)
    refine lv_goto (tgt := 22) hx hb dX12_faults_54 (by decide) ?_
    refine lv_iload_n hx hb dX12_faults_22 rfl (lv_at hl 0 rfl) ?_
    refine lv_bipush (v := 6) hx hb dX12_faults_23 (by decide) ?_
    refine lv_icmp_ge (tgt := 57) hx hb dX12_faults_25 (by decide) (fun _ => ?_) (fun c_ => absurd c_ (by decide))
    refine lv_aload_n hx hb dX12_faults_57 rfl (lv_at hl 2 rfl) ?_
    refine va_get (D := D) (ci := 10) (v := .ref (r 22)) (C := "TuneSchoolModel") (T := TX12) (N := 71) hx hb ht iX12 hown hK hP 2 rfl rfl 22 (by decide) (ht _ q5_14) (fun _ h9 => h9) rfl dX12_faults_58 ?_
    refine lv_iload_n hx hb dX12_faults_61 rfl (lv_at hl 3 rfl) ?_
    refine ldI (v := 0) hx hb hK hP 1 rfl (vin (by omega) (by omega)) rfl dX12_faults_62 ?_
    refine lv_if_ne (tgt := 72) hx hb dX12_faults_63 (by decide) (fun c_ => absurd c_ (by decide)) (fun _ => ?_)
    refine lv_aload_n hx hb dX12_faults_66 rfl (lv_at hl 2 rfl) ?_
    refine lv_iconst (v := 1) hx hb dX12_faults_67 (by decide) ?_
    refine afterI (wr := [((r 2), .inl (k 1, 6, .inl (fun _ => 0))), ((r 22), .inl (k 0, 16, .inl (fun _ => 0)))]) (xV (fr := 0) (lo := 0) (mc := 0) (ms := 0) (As := [.int 1]) (rest := []) (wc := [(h0, .inr (10, oX12 r (va_up (va_up (va_up fm 0 0) 28 0) 27 1)))]) ⟨hx, hb, hml, hown, ht⟩ (c_X12_finds l D k h0 r (va_up (va_up (va_up fm 0 0) 28 0) 27 1) 1 _) hK hN (hP.sub (ws' := [(h0, .inr (10, oX12 r (va_up (va_up (va_up fm 0 0) 28 0) 27 1)))]) [2] rfl) (hD.sub (ws' := [(h0, .inr (10, oX12 r (va_up (va_up (va_up fm 0 0) 28 0) 27 1)))]) [2] (by decide) rfl) 10 0 rfl rfl rfl q5_217 q5_219 qs_17 q1_6 q5_220 md_X12_finds ⟨by decide, by decide⟩ rfl hl.1 rfl (Nat.le_of_ble_eq_true rfl) dX12_faults_68 ⟨by decide, by decide⟩) hP hD hS hA [2] [0, 1] rfl rfl rfl (by decide) (fun r_6 u_7 H locs h_8 hP hD hS => ?_)
    obtain rfl : r_6 = (-11) := h_8.trans (by decide)
    have hP : va_P D clsL [((r 2), .inl (k 1, 6, .inl (fun _ => 0))), ((r 22), .inl (k 0, 16, .inl (fun _ => 0)))] H := hP
    have hD : va_D A [((r 2), .inl (k 1, 6, .inl (fun _ => 0))), ((r 22), .inl (k 0, 16, .inl (fun _ => 0)))] := hD
    exact W.iret (v := (-11)) hx hb hr (fun t ht hW => ⟨⟨(-11), (), rfl, (by first | (unfold an_faults; (repeat' split) <;> first | rfl | (exfalso; omega)) | rfl | decide), nilP, nilD⟩, hS.F ht⟩) hS.2.2 dX12_faults_71
  · skip
    refine lv_if_ne (tgt := 9) hx hb dX12_faults_4 (by decide) (fun c_ => absurd c_ (by decide)) (fun _ => ?_)
    refine lv_iconst (v := (-1)) hx hb dX12_faults_7 (by decide) ?_
    exact W.iret (v := (-1)) hx hb hr (fun t ht hW => ⟨⟨(-1), (), rfl, (by first | (unfold an_faults; (repeat' split) <;> first | rfl | (exfalso; omega)) | rfl | decide), nilP, nilD⟩, hS.F ht⟩) hS.2.2 dX12_faults_8
set_option maxHeartbeats 400000 in
set_option maxRecDepth 100000 in
theorem c_X12_set (l : Launch) (D : va_G) (k : Nat → ClassId) (h0 : Nat) (r : Nat → Nat) (p0 p1 p2 p3 p4 p5 p6 : Int32)  : CI l yX12_set cX12_set 11 (some .int) 2 42 0 0 D k [(h0, .inr (10, oX12 r fm)), ((r 2), .inl (k 1, 6, .inl (fun _ => 0)))] [.ref h0, .int p0, .int p1, .int p2, .int p3, .int p4, .int p5, .int p6] (S := Unit) (fun (r : Int32) (_ : Unit) => r = an_set p0 p1 p2 p3 p4 p5 p6) (fun _ => ([] : va_W)) := by
  intro sz
  refine mtX (Qc := fun A => va_Qi (S := Unit) (fun (r : Int32) (_ : Unit) => r = an_set p0 p1 p2 p3 p4 p5 p6) (fun u t => WX D A ((fun _ => ([] : va_W)) u) t) A) (free := fun A => A) (by decide) (Nat.le_of_ble_eq_true rfl) ?_
  intro p e s m below meth c ls A hB hl
  obtain ⟨hx, hb, hml, hr, hlocks, hnm, hown, ht, hK, hN, hA, hP, hD, hS⟩ := hB
  have hl : lv_has ls 11 [(0, .ref h0), (1, .int p0), (2, .int p1), (3, .int p2), (4, .int p3), (5, .int p4), (6, .int p5), (7, .int p6)] := hl
  refine lv_iload_n hx hb dX12_set_0 rfl (lv_at hl 1 rfl) ?_
  refine afterP (xS (fr := 1) (lo := 22) (mc := 0) (ms := 0) (As := [.int p0]) (rest := []) (wc := []) ⟨hx, hb, hml, hown, ht⟩ (c_X12_isVoice l D k p0 _) hK hN nilP (nilD (A := A)) q5_211 q5_212 q1_6 q5_213 md_X12_isVoice ⟨by decide, by decide⟩ rfl hl.1 rfl (Nat.le_of_ble_eq_true rfl) dX12_set_1 ⟨by decide, by decide⟩) (fun r_1 h_2 => ?_)
  rcases h_2 with ⟨rfl, h_2⟩ | ⟨rfl, h_2⟩
  · skip
    refine lv_if_eq (tgt := 71) hx hb dX12_set_4 (by decide) (fun c_ => absurd c_ (by decide)) (fun _ => ?_)
    refine lv_iload_n hx hb dX12_set_7 rfl (lv_at hl 2 rfl) ?_
    refine afterP (xS (fr := 1) (lo := 22) (mc := 0) (ms := 0) (As := [.int p1]) (rest := []) (wc := []) ⟨hx, hb, hml, hown, ht⟩ (c_X12_isVoice l D k p1 _) hK hN nilP (nilD (A := A)) q5_211 q5_212 q1_6 q5_213 md_X12_isVoice ⟨by decide, by decide⟩ rfl hl.1 rfl (Nat.le_of_ble_eq_true rfl) dX12_set_8 ⟨by decide, by decide⟩) (fun r_3 h_4 => ?_)
    rcases h_4 with ⟨rfl, h_4⟩ | ⟨rfl, h_4⟩
    · skip
      refine lv_if_eq (tgt := 71) hx hb dX12_set_11 (by decide) (fun c_ => absurd c_ (by decide)) (fun _ => ?_)
      refine lv_iload_n hx hb dX12_set_14 rfl (lv_at hl 3 rfl) ?_
      refine afterP (xS (fr := 1) (lo := 22) (mc := 0) (ms := 0) (As := [.int p2]) (rest := []) (wc := []) ⟨hx, hb, hml, hown, ht⟩ (c_X12_isPlace l D k p2 _) hK hN nilP (nilD (A := A)) q6_53 q6_54 q1_6 q6_55 md_X12_isPlace ⟨by decide, by decide⟩ rfl hl.1 rfl (Nat.le_of_ble_eq_true rfl) dX12_set_15 ⟨by decide, by decide⟩) (fun r_5 h_6 => ?_)
      rcases h_6 with ⟨rfl, h_6⟩ | ⟨rfl, h_6⟩
      · skip
        refine lv_if_eq (tgt := 71) hx hb dX12_set_18 (by decide) (fun c_ => absurd c_ (by decide)) (fun _ => ?_)
        refine lv_iload hx hb dX12_set_21 (lv_at hl 7 rfl) ?_
        refine lv_iconst (v := 0) hx hb dX12_set_23 (by decide) ?_
        refine lv_bipush (v := 30) hx hb dX12_set_24 (by decide) ?_
        refine afterP (xS (fr := 0) (lo := 0) (mc := 0) (ms := 0) (As := [.int p6, .int 0, .int 30]) (rest := []) (wc := []) ⟨hx, hb, hml, hown, ht⟩ (c_X12_in l D k p6 0 30 0 30 (by decide) (by decide) _) hK hN nilP (nilD (A := A)) q5_214 q5_215 q1_6 q5_216 md_X12_in ⟨by decide, by decide⟩ rfl hl.1 rfl (Nat.le_of_ble_eq_true rfl) dX12_set_26 ⟨by decide, by decide⟩) (fun r_7 h_8 => ?_)
        rcases h_8 with ⟨rfl, h_8⟩ | ⟨rfl, h_8⟩
        · skip
          refine lv_if_eq (tgt := 71) hx hb dX12_set_29 (by decide) (fun c_ => absurd c_ (by decide)) (fun _ => ?_)
          refine lv_iload hx hb dX12_set_32 (lv_at hl 5 rfl) ?_
          refine lv_iconst (v := 1) hx hb dX12_set_34 (by decide) ?_
          refine lv_bipush (v := 120) hx hb dX12_set_35 (by decide) ?_
          refine afterP (xS (fr := 0) (lo := 0) (mc := 0) (ms := 0) (As := [.int p4, .int 1, .int 120]) (rest := []) (wc := []) ⟨hx, hb, hml, hown, ht⟩ (c_X12_in l D k p4 1 120 1 120 (by decide) (by decide) _) hK hN nilP (nilD (A := A)) q5_214 q5_215 q1_6 q5_216 md_X12_in ⟨by decide, by decide⟩ rfl hl.1 rfl (Nat.le_of_ble_eq_true rfl) dX12_set_37 ⟨by decide, by decide⟩) (fun r_9 h_10 => ?_)
          rcases h_10 with ⟨rfl, h_10⟩ | ⟨rfl, h_10⟩
          · skip
            refine lv_if_eq (tgt := 71) hx hb dX12_set_40 (by decide) (fun c_ => absurd c_ (by decide)) (fun _ => ?_)
            refine lv_iload hx hb dX12_set_43 (lv_at hl 6 rfl) ?_
            refine lv_iconst (v := 1) hx hb dX12_set_45 (by decide) ?_
            refine lv_bipush (v := 120) hx hb dX12_set_46 (by decide) ?_
            refine afterP (xS (fr := 0) (lo := 0) (mc := 0) (ms := 0) (As := [.int p5, .int 1, .int 120]) (rest := []) (wc := []) ⟨hx, hb, hml, hown, ht⟩ (c_X12_in l D k p5 1 120 1 120 (by decide) (by decide) _) hK hN nilP (nilD (A := A)) q5_214 q5_215 q1_6 q5_216 md_X12_in ⟨by decide, by decide⟩ rfl hl.1 rfl (Nat.le_of_ble_eq_true rfl) dX12_set_48 ⟨by decide, by decide⟩) (fun r_11 h_12 => ?_)
            rcases h_12 with ⟨rfl, h_12⟩ | ⟨rfl, h_12⟩
            · skip
              refine lv_if_eq (tgt := 71) hx hb dX12_set_51 (by decide) (fun c_ => absurd c_ (by decide)) (fun _ => ?_)
              refine lv_iload hx hb dX12_set_54 (lv_at hl 5 rfl) ?_
              refine lv_iload hx hb dX12_set_56 (lv_at hl 6 rfl) ?_
              refine lv_icmp_gt (tgt := 71) hx hb dX12_set_58 (by decide) (fun c_13 => ?_) (fun c_13 => ?_)
              · skip
                have c_13 := i_lt (a := p5.toInt) (b := p4.toInt) rfl rfl c_13
                refine lv_iconst (v := (-1)) hx hb dX12_set_71 (by decide) ?_
                exact W.iret (v := (-1)) hx hb hr (fun t ht hW => ⟨⟨(-1), (), rfl, (by first | (unfold an_set; (repeat' split) <;> first | rfl | (exfalso; omega)) | rfl | decide), nilP, nilD⟩, hS.F ht⟩) hS.2.2 dX12_set_72
              · skip
                have c_13 := i_nlt (a := p5.toInt) (b := p4.toInt) rfl rfl c_13
                refine lv_iload hx hb dX12_set_61 (lv_at hl 6 rfl) ?_
                refine lv_iload hx hb dX12_set_63 (lv_at hl 5 rfl) ?_
                refine lv_isub hx hb dX12_set_65 ?_
                have sb_14 := subI (x := p5) (y := p4) (by omega) (by omega)
                refine lv_bipush (v := 15) hx hb dX12_set_66 (by decide) ?_
                refine lv_icmp_le (tgt := 73) hx hb dX12_set_68 (by decide) (fun c_15 => ?_) (fun c_15 => ?_)
                · skip
                  have c_15 := i_le (a := (p5 - p4).toInt) (b := 15) rfl (by decide) c_15
                  refine lv_aload_n hx hb dX12_set_73 rfl (lv_at hl 0 rfl) ?_
                  refine lv_iconst (v := 0) hx hb dX12_set_74 (by decide) ?_
                  refine va_put (D := D) (ci := 10) (v := .int 0) (ty := .int) (C := "TuneSchoolModel") (T := TX12) (N := 71) hx hb ht iX12 tyX12 tyX12_ok nmX12 hown hK hP hD hS 0 rfl rfl 0 (by decide) (ht _ q4_232) (fun _ h9 => h9) rfl (by decide +kernel) rfl rfl (Nat.le_of_ble_eq_true rfl) dX12_set_75 (fun H locs hP hD hS => ?_)
                  have hP : va_P D clsL [(h0, .inr (10, oX12 r (va_up fm 0 0))), ((r 2), .inl (k 1, 6, .inl (fun _ => 0)))] H := hP
                  have hD : va_D A [(h0, .inr (10, oX12 r (va_up fm 0 0))), ((r 2), .inl (k 1, 6, .inl (fun _ => 0)))] := hD
                  refine lv_aload_n hx hb dX12_set_78 rfl (lv_at hl 0 rfl) ?_
                  refine lv_iload_n hx hb dX12_set_79 rfl (lv_at hl 2 rfl) ?_
                  refine afterP (xV (fr := 0) (lo := 0) (mc := 0) (ms := 0) (As := [.int p1]) (rest := []) (wc := [(h0, .inr (10, oX12 r (va_up fm 0 0))), ((r 2), .inl (k 1, 6, .inl (fun _ => 0)))]) ⟨hx, hb, hml, hown, ht⟩ (c_X12_against l D k h0 r (va_up fm 0 0) p1 (by omega) (by omega) _) hK hN (hP.sub (ws' := [(h0, .inr (10, oX12 r (va_up fm 0 0))), ((r 2), .inl (k 1, 6, .inl (fun _ => 0)))]) [0, 1] rfl) (hD.sub (ws' := [(h0, .inr (10, oX12 r (va_up fm 0 0))), ((r 2), .inl (k 1, 6, .inl (fun _ => 0)))]) [0, 1] (by decide) rfl) 10 0 rfl rfl rfl q6_9 q6_11 qs_19 q1_6 q6_12 md_X12_against ⟨by decide, by decide⟩ rfl hl.1 rfl (Nat.le_of_ble_eq_true rfl) dX12_set_80 ⟨by decide, by decide⟩) (fun r_16 h_17 => ?_)
                  obtain rfl := h_17
                  refine lv_istore (lv' := [(8, .int 1), (0, .ref h0), (1, .int p0), (2, .int p1), (3, .int p2), (4, .int p3), (5, .int p4), (6, .int p5), (7, .int p6)]) hx hb dX12_set_83 hl (by decide) rfl (fun ls hl => ?_)
                  refine lv_iload hx hb dX12_set_85 (lv_at hl 0 rfl) ?_
                  refine lv_if_le (tgt := 97) hx hb dX12_set_87 (by decide) (fun c_ => absurd c_ (by decide)) (fun _ => ?_)
                  refine lv_aload_n hx hb dX12_set_90 rfl (lv_at hl 1 rfl) ?_
                  refine lv_iload hx hb dX12_set_91 (lv_at hl 0 rfl) ?_
                  refine afterI (wr := [((r 2), .inl (k 1, 6, .inl (fun _ => 0)))]) (xV (fr := 0) (lo := 0) (mc := 0) (ms := 0) (As := [.int 1]) (rest := []) (wc := [(h0, .inr (10, oX12 r (va_up fm 0 0)))]) ⟨hx, hb, hml, hown, ht⟩ (c_X12_finds l D k h0 r (va_up fm 0 0) 1 _) hK hN (hP.sub (ws' := [(h0, .inr (10, oX12 r (va_up fm 0 0)))]) [0] rfl) (hD.sub (ws' := [(h0, .inr (10, oX12 r (va_up fm 0 0)))]) [0] (by decide) rfl) 10 0 rfl rfl rfl q5_217 q5_219 qs_17 q1_6 q5_220 md_X12_finds ⟨by decide, by decide⟩ rfl hl.1 rfl (Nat.le_of_ble_eq_true rfl) dX12_set_93 ⟨by decide, by decide⟩) hP hD hS hA [0] [1] rfl rfl rfl (by decide) (fun r_18 u_19 H locs h_20 hP hD hS => ?_)
                  obtain rfl : r_18 = (-11) := h_20.trans (by decide)
                  have hP : va_P D clsL [((r 2), .inl (k 1, 6, .inl (fun _ => 0)))] H := hP
                  have hD : va_D A [((r 2), .inl (k 1, 6, .inl (fun _ => 0)))] := hD
                  exact W.iret (v := (-11)) hx hb hr (fun t ht hW => ⟨⟨(-11), (), rfl, (by first | (unfold an_set; (repeat' split) <;> first | rfl | (exfalso; omega)) | rfl | decide), nilP, nilD⟩, hS.F ht⟩) hS.2.2 dX12_set_96
                · skip
                  have c_15 := i_nle (a := (p5 - p4).toInt) (b := 15) rfl (by decide) c_15
                  refine lv_iconst (v := (-1)) hx hb dX12_set_71 (by decide) ?_
                  exact W.iret (v := (-1)) hx hb hr (fun t ht hW => ⟨⟨(-1), (), rfl, (by first | (unfold an_set; (repeat' split) <;> first | rfl | (exfalso; omega)) | rfl | decide), nilP, nilD⟩, hS.F ht⟩) hS.2.2 dX12_set_72
            · skip
              refine lv_if_eq (tgt := 71) hx hb dX12_set_51 (by decide) (fun _ => ?_) (fun c_ => absurd c_ (by decide))
              refine lv_iconst (v := (-1)) hx hb dX12_set_71 (by decide) ?_
              exact W.iret (v := (-1)) hx hb hr (fun t ht hW => ⟨⟨(-1), (), rfl, (by first | (unfold an_set; (repeat' split) <;> first | rfl | (exfalso; omega)) | rfl | decide), nilP, nilD⟩, hS.F ht⟩) hS.2.2 dX12_set_72
          · skip
            refine lv_if_eq (tgt := 71) hx hb dX12_set_40 (by decide) (fun _ => ?_) (fun c_ => absurd c_ (by decide))
            refine lv_iconst (v := (-1)) hx hb dX12_set_71 (by decide) ?_
            exact W.iret (v := (-1)) hx hb hr (fun t ht hW => ⟨⟨(-1), (), rfl, (by first | (unfold an_set; (repeat' split) <;> first | rfl | (exfalso; omega)) | rfl | decide), nilP, nilD⟩, hS.F ht⟩) hS.2.2 dX12_set_72
        · skip
          refine lv_if_eq (tgt := 71) hx hb dX12_set_29 (by decide) (fun _ => ?_) (fun c_ => absurd c_ (by decide))
          refine lv_iconst (v := (-1)) hx hb dX12_set_71 (by decide) ?_
          exact W.iret (v := (-1)) hx hb hr (fun t ht hW => ⟨⟨(-1), (), rfl, (by first | (unfold an_set; (repeat' split) <;> first | rfl | (exfalso; omega)) | rfl | decide), nilP, nilD⟩, hS.F ht⟩) hS.2.2 dX12_set_72
      · skip
        refine lv_if_eq (tgt := 71) hx hb dX12_set_18 (by decide) (fun _ => ?_) (fun c_ => absurd c_ (by decide))
        refine lv_iconst (v := (-1)) hx hb dX12_set_71 (by decide) ?_
        exact W.iret (v := (-1)) hx hb hr (fun t ht hW => ⟨⟨(-1), (), rfl, (by first | (unfold an_set; (repeat' split) <;> first | rfl | (exfalso; omega)) | rfl | decide), nilP, nilD⟩, hS.F ht⟩) hS.2.2 dX12_set_72
    · skip
      refine lv_if_eq (tgt := 71) hx hb dX12_set_11 (by decide) (fun _ => ?_) (fun c_ => absurd c_ (by decide))
      refine lv_iconst (v := (-1)) hx hb dX12_set_71 (by decide) ?_
      exact W.iret (v := (-1)) hx hb hr (fun t ht hW => ⟨⟨(-1), (), rfl, (by first | (unfold an_set; (repeat' split) <;> first | rfl | (exfalso; omega)) | rfl | decide), nilP, nilD⟩, hS.F ht⟩) hS.2.2 dX12_set_72
  · skip
    refine lv_if_eq (tgt := 71) hx hb dX12_set_4 (by decide) (fun _ => ?_) (fun c_ => absurd c_ (by decide))
    refine lv_iconst (v := (-1)) hx hb dX12_set_71 (by decide) ?_
    exact W.iret (v := (-1)) hx hb hr (fun t ht hW => ⟨⟨(-1), (), rfl, (by first | (unfold an_set; (repeat' split) <;> first | rfl | (exfalso; omega)) | rfl | decide), nilP, nilD⟩, hS.F ht⟩) hS.2.2 dX12_set_72
set_option maxHeartbeats 400000 in
set_option maxRecDepth 100000 in
theorem c_X12_weight (l : Launch) (D : va_G) (k : Nat → ClassId) (h0 : Nat) (r : Nat → Nat) (p0 p1 : Int32) (wf : Nat → Int32) (hwf : ∀ j, j < 3 → wf j = 1) : CI l yX12_weight cX12_weight 4 (some .int) 1 22 0 0 D k [(h0, .inr (10, oX12 r fm)), ((r 26), .inl (k 0, 3, .inl wf))] [.ref h0, .int p0, .int p1] (S := Unit) (fun (r : Int32) (_ : Unit) => r = an_weight p0 p1) (fun _ => ([] : va_W)) := by
  intro sz
  refine mtX (Qc := fun A => va_Qi (S := Unit) (fun (r : Int32) (_ : Unit) => r = an_weight p0 p1) (fun u t => WX D A ((fun _ => ([] : va_W)) u) t) A) (free := fun A => A) (by decide) (Nat.le_of_ble_eq_true rfl) ?_
  intro p e s m below meth c ls A hB hl
  obtain ⟨hx, hb, hml, hr, hlocks, hnm, hown, ht, hK, hN, hA, hP, hD, hS⟩ := hB
  have hl : lv_has ls 4 [(0, .ref h0), (1, .int p0), (2, .int p1)] := hl
  refine lv_iload_n hx hb dX12_weight_0 rfl (lv_at hl 1 rfl) ?_
  refine lv_iconst (v := 0) hx hb dX12_weight_1 (by decide) ?_
  refine lv_iconst (v := 2) hx hb dX12_weight_2 (by decide) ?_
  refine afterP (xS (fr := 0) (lo := 0) (mc := 0) (ms := 0) (As := [.int p0, .int 0, .int 2]) (rest := []) (wc := []) ⟨hx, hb, hml, hown, ht⟩ (c_X12_in l D k p0 0 2 0 2 (by decide) (by decide) _) hK hN nilP (nilD (A := A)) q5_214 q5_215 q1_6 q5_216 md_X12_in ⟨by decide, by decide⟩ rfl hl.1 rfl (Nat.le_of_ble_eq_true rfl) dX12_weight_3 ⟨by decide, by decide⟩) (fun r_1 h_2 => ?_)
  rcases h_2 with ⟨rfl, h_2⟩ | ⟨rfl, h_2⟩
  · skip
    refine lv_if_eq (tgt := 19) hx hb dX12_weight_6 (by decide) (fun c_ => absurd c_ (by decide)) (fun _ => ?_)
    refine lv_iload_n hx hb dX12_weight_9 rfl (lv_at hl 2 rfl) ?_
    refine lv_iconst (v := 0) hx hb dX12_weight_10 (by decide) ?_
    refine lv_bipush (v := 9) hx hb dX12_weight_11 (by decide) ?_
    refine afterP (xS (fr := 0) (lo := 0) (mc := 0) (ms := 0) (As := [.int p1, .int 0, .int 9]) (rest := []) (wc := []) ⟨hx, hb, hml, hown, ht⟩ (c_X12_in l D k p1 0 9 0 9 (by decide) (by decide) _) hK hN nilP (nilD (A := A)) q5_214 q5_215 q1_6 q5_216 md_X12_in ⟨by decide, by decide⟩ rfl hl.1 rfl (Nat.le_of_ble_eq_true rfl) dX12_weight_13 ⟨by decide, by decide⟩) (fun r_3 h_4 => ?_)
    rcases h_4 with ⟨rfl, h_4⟩ | ⟨rfl, h_4⟩
    · skip
      refine lv_if_ne (tgt := 21) hx hb dX12_weight_16 (by decide) (fun _ => ?_) (fun c_ => absurd c_ (by decide))
      refine lv_aload_n hx hb dX12_weight_21 rfl (lv_at hl 0 rfl) ?_
      refine lv_iconst (v := 0) hx hb dX12_weight_22 (by decide) ?_
      refine va_put (D := D) (ci := 10) (v := .int 0) (ty := .int) (C := "TuneSchoolModel") (T := TX12) (N := 71) hx hb ht iX12 tyX12 tyX12_ok nmX12 hown hK hP hD hS 0 rfl rfl 0 (by decide) (ht _ q4_232) (fun _ h9 => h9) rfl (by decide +kernel) rfl rfl (Nat.le_of_ble_eq_true rfl) dX12_weight_23 (fun H locs hP hD hS => ?_)
      have hP : va_P D clsL [(h0, .inr (10, oX12 r (va_up fm 0 0))), ((r 26), .inl (k 0, 3, .inl wf))] H := hP
      have hD : va_D A [(h0, .inr (10, oX12 r (va_up fm 0 0))), ((r 26), .inl (k 0, 3, .inl wf))] := hD
      refine lv_aload_n hx hb dX12_weight_26 rfl (lv_at hl 0 rfl) ?_
      refine va_get (D := D) (ci := 10) (v := .ref (r 26)) (C := "TuneSchoolModel") (T := TX12) (N := 71) hx hb ht iX12 hown hK hP 0 rfl rfl 26 (by decide) (ht _ q5_18) (fun _ h9 => h9) rfl dX12_weight_27 ?_
      refine lv_iload_n hx hb dX12_weight_30 rfl (lv_at hl 1 rfl) ?_
      refine ldI (v := 1) hx hb hK hP 1 rfl (vin (by omega) (by omega)) (hwf _ (by show p0.toInt.toNat < 3; omega)) dX12_weight_31 ?_
      refine lv_istore_n (lv' := [(3, .int 1), (0, .ref h0), (1, .int p0), (2, .int p1)]) hx hb dX12_weight_32 rfl hl (by decide) rfl (fun ls hl => ?_)
      refine lv_aload_n hx hb dX12_weight_33 rfl (lv_at hl 1 rfl) ?_
      refine va_get (D := D) (ci := 10) (v := .ref (r 26)) (C := "TuneSchoolModel") (T := TX12) (N := 71) hx hb ht iX12 hown hK hP 0 rfl rfl 26 (by decide) (ht _ q5_18) (fun _ h9 => h9) rfl dX12_weight_34 ?_
      refine lv_iload_n hx hb dX12_weight_37 rfl (lv_at hl 2 rfl) ?_
      refine lv_iload_n hx hb dX12_weight_38 rfl (lv_at hl 3 rfl) ?_
      refine stI hx hb hK hP hD hS 1 rfl (vin (by omega) (by omega)) dX12_weight_39 (fun H locs hP hD hS => ?_)
      have hP : va_P D clsL [(h0, .inr (10, oX12 r (va_up fm 0 0))), ((r 26), .inl (k 0, 3, .inl (upd wf p0.toNatClampNeg p1)))] H := hP
      have hD : va_D A [(h0, .inr (10, oX12 r (va_up fm 0 0))), ((r 26), .inl (k 0, 3, .inl (upd wf p0.toNatClampNeg p1)))] := hD
      refine lv_iload_n hx hb dX12_weight_40 rfl (lv_at hl 0 rfl) ?_
      exact W.iret (v := 1) hx hb hr (fun t ht hW => ⟨⟨1, (), rfl, (by first | (unfold an_weight; (repeat' split) <;> first | rfl | (exfalso; omega)) | rfl | decide), nilP, nilD⟩, hS.F ht⟩) hS.2.2 dX12_weight_41
    · skip
      refine lv_if_ne (tgt := 21) hx hb dX12_weight_16 (by decide) (fun c_ => absurd c_ (by decide)) (fun _ => ?_)
      refine lv_iconst (v := (-1)) hx hb dX12_weight_19 (by decide) ?_
      exact W.iret (v := (-1)) hx hb hr (fun t ht hW => ⟨⟨(-1), (), rfl, (by first | (unfold an_weight; (repeat' split) <;> first | rfl | (exfalso; omega)) | rfl | decide), nilP, nilD⟩, hS.F ht⟩) hS.2.2 dX12_weight_20
  · skip
    refine lv_if_eq (tgt := 19) hx hb dX12_weight_6 (by decide) (fun _ => ?_) (fun c_ => absurd c_ (by decide))
    refine lv_iconst (v := (-1)) hx hb dX12_weight_19 (by decide) ?_
    exact W.iret (v := (-1)) hx hb hr (fun t ht hW => ⟨⟨(-1), (), rfl, (by first | (unfold an_weight; (repeat' split) <;> first | rfl | (exfalso; omega)) | rfl | decide), nilP, nilD⟩, hS.F ht⟩) hS.2.2 dX12_weight_20
set_option maxHeartbeats 400000 in
set_option maxRecDepth 100000 in
theorem c_X12_put (l : Launch) (D : va_G) (k : Nat → ClassId) (h0 : Nat) (r : Nat → Nat) (p0 p1 : Int32)  : CI l yX12_put cX12_put 3 (some .int) 1 22 0 0 D k [(h0, .inr (10, oX12 r fm)), ((r 37), .inl (k 0, 160, .inl (fun _ => 0)))] [.ref h0, .int p0, .int p1] (S := Unit) (fun (r : Int32) (_ : Unit) => r = an_put p0 p1) (fun _ => ([] : va_W)) := by
  intro sz
  refine mtX (Qc := fun A => va_Qi (S := Unit) (fun (r : Int32) (_ : Unit) => r = an_put p0 p1) (fun u t => WX D A ((fun _ => ([] : va_W)) u) t) A) (free := fun A => A) (by decide) (Nat.le_of_ble_eq_true rfl) ?_
  intro p e s m below meth c ls A hB hl
  obtain ⟨hx, hb, hml, hr, hlocks, hnm, hown, ht, hK, hN, hA, hP, hD, hS⟩ := hB
  have hl : lv_has ls 3 [(0, .ref h0), (1, .int p0), (2, .int p1)] := hl
  refine lv_iload_n hx hb dX12_put_0 rfl (lv_at hl 1 rfl) ?_
  refine lv_iconst (v := 0) hx hb dX12_put_1 (by decide) ?_
  refine lv_aload_n hx hb dX12_put_2 rfl (lv_at hl 0 rfl) ?_
  refine va_get (D := D) (ci := 10) (v := .int 0) (C := "TuneSchoolModel") (T := TX12) (N := 71) hx hb ht iX12 hown hK hP 0 rfl rfl 38 (by decide) (ht _ q5_30) (fun _ h9 => h9) rfl dX12_put_3 ?_
  refine afterP (xS (fr := 0) (lo := 0) (mc := 0) (ms := 0) (As := [.int p0, .int 0, .int 0]) (rest := []) (wc := []) ⟨hx, hb, hml, hown, ht⟩ (c_X12_in l D k p0 0 0 0 0 (by decide) (by decide) _) hK hN nilP (nilD (A := A)) q5_214 q5_215 q1_6 q5_216 md_X12_in ⟨by decide, by decide⟩ rfl hl.1 rfl (Nat.le_of_ble_eq_true rfl) dX12_put_6 ⟨by decide, by decide⟩) (fun r_1 h_2 => ?_)
  rcases h_2 with ⟨rfl, h_2⟩ | ⟨rfl, h_2⟩
  · skip
    refine lv_if_eq (tgt := 30) hx hb dX12_put_9 (by decide) (fun c_ => absurd c_ (by decide)) (fun _ => ?_)
    refine lv_iload_n hx hb dX12_put_12 rfl (lv_at hl 1 rfl) ?_
    refine lv_sipush (v := 160) hx hb dX12_put_13 (by decide) ?_
    refine lv_icmp_ge (tgt := 30) hx hb dX12_put_16 (by decide) (fun c_3 => ?_) (fun c_3 => ?_)
    · skip
      have c_3 := i_le (a := 160) (b := p0.toInt) (by decide) rfl c_3
      refine lv_iconst (v := (-1)) hx hb dX12_put_30 (by decide) ?_
      exact W.iret (v := (-1)) hx hb hr (fun t ht hW => ⟨⟨(-1), (), rfl, (by first | (unfold an_put; (repeat' split) <;> first | rfl | (exfalso; omega)) | rfl | decide), nilP, nilD⟩, hS.F ht⟩) hS.2.2 dX12_put_31
    · skip
      have c_3 := i_nle (a := 160) (b := p0.toInt) (by decide) rfl c_3
      refine lv_iload_n hx hb dX12_put_19 rfl (lv_at hl 2 rfl) ?_
      refine lv_bipush (v := 32) hx hb dX12_put_20 (by decide) ?_
      refine lv_bipush (v := 126) hx hb dX12_put_22 (by decide) ?_
      refine afterP (xS (fr := 0) (lo := 0) (mc := 0) (ms := 0) (As := [.int p1, .int 32, .int 126]) (rest := []) (wc := []) ⟨hx, hb, hml, hown, ht⟩ (c_X12_in l D k p1 32 126 32 126 (by decide) (by decide) _) hK hN nilP (nilD (A := A)) q5_214 q5_215 q1_6 q5_216 md_X12_in ⟨by decide, by decide⟩ rfl hl.1 rfl (Nat.le_of_ble_eq_true rfl) dX12_put_24 ⟨by decide, by decide⟩) (fun r_4 h_5 => ?_)
      rcases h_5 with ⟨rfl, h_5⟩ | ⟨rfl, h_5⟩
      · skip
        refine lv_if_ne (tgt := 32) hx hb dX12_put_27 (by decide) (fun _ => ?_) (fun c_ => absurd c_ (by decide))
        refine lv_aload_n hx hb dX12_put_32 rfl (lv_at hl 0 rfl) ?_
        refine lv_iload_n hx hb dX12_put_33 rfl (lv_at hl 1 rfl) ?_
        refine lv_aload_n hx hb dX12_put_34 rfl (lv_at hl 0 rfl) ?_
        refine va_get (D := D) (ci := 10) (v := .int 0) (C := "TuneSchoolModel") (T := TX12) (N := 71) hx hb ht iX12 hown hK hP 0 rfl rfl 38 (by decide) (ht _ q5_30) (fun _ h9 => h9) rfl dX12_put_35 ?_
        refine lv_icmp_ne (tgt := 47) hx hb dX12_put_38 (by decide) (fun c_6 => ?_) (fun c_6 => ?_)
        · skip
          have c_6 := i_neq (a := p0.toInt) (b := 0) rfl (by decide) c_6
          refine lv_aload_n hx hb dX12_put_47 rfl (lv_at hl 0 rfl) ?_
          refine va_get (D := D) (ci := 10) (v := .int 0) (C := "TuneSchoolModel") (T := TX12) (N := 71) hx hb ht iX12 hown hK hP 0 rfl rfl 38 (by decide) (ht _ q5_30) (fun _ h9 => h9) rfl dX12_put_48 ?_
          refine va_put (D := D) (ci := 10) (v := .int 0) (ty := .int) (C := "TuneSchoolModel") (T := TX12) (N := 71) hx hb ht iX12 tyX12 tyX12_ok nmX12 hown hK hP hD hS 0 rfl rfl 38 (by decide) (ht _ q5_30) (fun _ h9 => h9) rfl (by decide +kernel) rfl rfl (Nat.le_of_ble_eq_true rfl) dX12_put_51 (fun H locs hP hD hS => ?_)
          have hP : va_P D clsL [(h0, .inr (10, oX12 r (va_up fm 38 0))), ((r 37), .inl (k 0, 160, .inl (fun _ => 0)))] H := hP
          have hD : va_D A [(h0, .inr (10, oX12 r (va_up fm 38 0))), ((r 37), .inl (k 0, 160, .inl (fun _ => 0)))] := hD
          refine lv_aload_n hx hb dX12_put_54 rfl (lv_at hl 0 rfl) ?_
          refine va_get (D := D) (ci := 10) (v := .ref (r 37)) (C := "TuneSchoolModel") (T := TX12) (N := 71) hx hb ht iX12 hown hK hP 0 rfl rfl 37 (by decide) (ht _ q5_29) (fun _ h9 => h9) rfl dX12_put_55 ?_
          refine lv_iload_n hx hb dX12_put_58 rfl (lv_at hl 1 rfl) ?_
          refine lv_iload_n hx hb dX12_put_59 rfl (lv_at hl 2 rfl) ?_
          refine stI hx hb hK hP hD hS 1 rfl (vin (by omega) (by omega)) dX12_put_60 (fun H locs hP hD hS => ?_)
          have hP : va_P D clsL [(h0, .inr (10, oX12 r (va_up fm 38 0))), ((r 37), .inl (k 0, 160, .inl (upd (fun _ => 0) p0.toNatClampNeg p1)))] H := hP
          have hD : va_D A [(h0, .inr (10, oX12 r (va_up fm 38 0))), ((r 37), .inl (k 0, 160, .inl (upd (fun _ => 0) p0.toNatClampNeg p1)))] := hD
          refine lv_iconst (v := 1) hx hb dX12_put_61 (by decide) ?_
          exact W.iret (v := 1) hx hb hr (fun t ht hW => ⟨⟨1, (), rfl, (by first | (unfold an_put; (repeat' split) <;> first | rfl | (exfalso; omega)) | rfl | decide), nilP, nilD⟩, hS.F ht⟩) hS.2.2 dX12_put_62
        · skip
          have c_6 := i_eq (a := p0.toInt) (b := 0) rfl (by decide) c_6
          refine lv_iload_n hx hb dX12_put_41 rfl (lv_at hl 1 rfl) ?_
          refine lv_iconst (v := 1) hx hb dX12_put_42 (by decide) ?_
          refine lv_iadd hx hb dX12_put_43 ?_
          refine lv_goto (tgt := 51) hx hb dX12_put_44 (by decide) ?_
          refine va_put (D := D) (ci := 10) (v := .int (p0 + 1)) (ty := .int) (C := "TuneSchoolModel") (T := TX12) (N := 71) hx hb ht iX12 tyX12 tyX12_ok nmX12 hown hK hP hD hS 0 rfl rfl 38 (by decide) (ht _ q5_30) (fun _ h9 => h9) rfl (by decide +kernel) rfl rfl (Nat.le_of_ble_eq_true rfl) dX12_put_51 (fun H locs hP hD hS => ?_)
          have hP : va_P D clsL [(h0, .inr (10, oX12 r (va_up fm 38 (p0 + 1)))), ((r 37), .inl (k 0, 160, .inl (fun _ => 0)))] H := hP
          have hD : va_D A [(h0, .inr (10, oX12 r (va_up fm 38 (p0 + 1)))), ((r 37), .inl (k 0, 160, .inl (fun _ => 0)))] := hD
          refine lv_aload_n hx hb dX12_put_54 rfl (lv_at hl 0 rfl) ?_
          refine va_get (D := D) (ci := 10) (v := .ref (r 37)) (C := "TuneSchoolModel") (T := TX12) (N := 71) hx hb ht iX12 hown hK hP 0 rfl rfl 37 (by decide) (ht _ q5_29) (fun _ h9 => h9) rfl dX12_put_55 ?_
          refine lv_iload_n hx hb dX12_put_58 rfl (lv_at hl 1 rfl) ?_
          refine lv_iload_n hx hb dX12_put_59 rfl (lv_at hl 2 rfl) ?_
          refine stI hx hb hK hP hD hS 1 rfl (vin (by omega) (by omega)) dX12_put_60 (fun H locs hP hD hS => ?_)
          have hP : va_P D clsL [(h0, .inr (10, oX12 r (va_up fm 38 (p0 + 1)))), ((r 37), .inl (k 0, 160, .inl (upd (fun _ => 0) p0.toNatClampNeg p1)))] H := hP
          have hD : va_D A [(h0, .inr (10, oX12 r (va_up fm 38 (p0 + 1)))), ((r 37), .inl (k 0, 160, .inl (upd (fun _ => 0) p0.toNatClampNeg p1)))] := hD
          refine lv_iconst (v := 1) hx hb dX12_put_61 (by decide) ?_
          exact W.iret (v := 1) hx hb hr (fun t ht hW => ⟨⟨1, (), rfl, (by first | (unfold an_put; (repeat' split) <;> first | rfl | (exfalso; omega)) | rfl | decide), nilP, nilD⟩, hS.F ht⟩) hS.2.2 dX12_put_62
      · skip
        refine lv_if_ne (tgt := 32) hx hb dX12_put_27 (by decide) (fun c_ => absurd c_ (by decide)) (fun _ => ?_)
        refine lv_iconst (v := (-1)) hx hb dX12_put_30 (by decide) ?_
        exact W.iret (v := (-1)) hx hb hr (fun t ht hW => ⟨⟨(-1), (), rfl, (by first | (unfold an_put; (repeat' split) <;> first | rfl | (exfalso; omega)) | rfl | decide), nilP, nilD⟩, hS.F ht⟩) hS.2.2 dX12_put_31
  · skip
    refine lv_if_eq (tgt := 30) hx hb dX12_put_9 (by decide) (fun _ => ?_) (fun c_ => absurd c_ (by decide))
    refine lv_iconst (v := (-1)) hx hb dX12_put_30 (by decide) ?_
    exact W.iret (v := (-1)) hx hb hr (fun t ht hW => ⟨⟨(-1), (), rfl, (by first | (unfold an_put; (repeat' split) <;> first | rfl | (exfalso; omega)) | rfl | decide), nilP, nilD⟩, hS.F ht⟩) hS.2.2 dX12_put_31
set_option maxHeartbeats 400000 in
set_option maxRecDepth 100000 in
theorem c_X12_cutLine (l : Launch) (D : va_G) (k : Nat → ClassId) (h0 : Nat) (r : Nat → Nat) (p0 : Int32)  : CI l yX12_cutLine cX12_cutLine 3 (some .int) 1 22 0 0 D k [(h0, .inr (10, oX12 r fm))] [.ref h0, .int p0] (S := Unit) (fun (r : Int32) (_ : Unit) => r = an_cutLine p0) (fun _ => ([] : va_W)) := by
  intro sz
  refine mtX (Qc := fun A => va_Qi (S := Unit) (fun (r : Int32) (_ : Unit) => r = an_cutLine p0) (fun u t => WX D A ((fun _ => ([] : va_W)) u) t) A) (free := fun A => A) (by decide) (Nat.le_of_ble_eq_true rfl) ?_
  intro p e s m below meth c ls A hB hl
  obtain ⟨hx, hb, hml, hr, hlocks, hnm, hown, ht, hK, hN, hA, hP, hD, hS⟩ := hB
  have hl : lv_has ls 3 [(0, .ref h0), (1, .int p0)] := hl
  refine lv_iload_n hx hb dX12_cutLine_0 rfl (lv_at hl 1 rfl) ?_
  refine lv_iconst (v := 0) hx hb dX12_cutLine_1 (by decide) ?_
  refine lv_aload_n hx hb dX12_cutLine_2 rfl (lv_at hl 0 rfl) ?_
  refine va_get (D := D) (ci := 10) (v := .int 0) (C := "TuneSchoolModel") (T := TX12) (N := 71) hx hb ht iX12 hown hK hP 0 rfl rfl 38 (by decide) (ht _ q5_30) (fun _ h9 => h9) rfl dX12_cutLine_3 ?_
  refine afterP (xS (fr := 0) (lo := 0) (mc := 0) (ms := 0) (As := [.int p0, .int 0, .int 0]) (rest := []) (wc := []) ⟨hx, hb, hml, hown, ht⟩ (c_X12_in l D k p0 0 0 0 0 (by decide) (by decide) _) hK hN nilP (nilD (A := A)) q5_214 q5_215 q1_6 q5_216 md_X12_in ⟨by decide, by decide⟩ rfl hl.1 rfl (Nat.le_of_ble_eq_true rfl) dX12_cutLine_6 ⟨by decide, by decide⟩) (fun r_1 h_2 => ?_)
  rcases h_2 with ⟨rfl, h_2⟩ | ⟨rfl, h_2⟩
  · skip
    refine lv_if_ne (tgt := 14) hx hb dX12_cutLine_9 (by decide) (fun _ => ?_) (fun c_ => absurd c_ (by decide))
    refine lv_aload_n hx hb dX12_cutLine_14 rfl (lv_at hl 0 rfl) ?_
    refine va_get (D := D) (ci := 10) (v := .int 0) (C := "TuneSchoolModel") (T := TX12) (N := 71) hx hb ht iX12 hown hK hP 0 rfl rfl 38 (by decide) (ht _ q5_30) (fun _ h9 => h9) rfl dX12_cutLine_15 ?_
    refine lv_istore_n (lv' := [(2, .int 0), (0, .ref h0), (1, .int p0)]) hx hb dX12_cutLine_18 rfl hl (by decide) rfl (fun ls hl => ?_)
    refine lv_aload_n hx hb dX12_cutLine_19 rfl (lv_at hl 1 rfl) ?_
    refine lv_iload_n hx hb dX12_cutLine_20 rfl (lv_at hl 2 rfl) ?_
    refine va_put (D := D) (ci := 10) (v := .int p0) (ty := .int) (C := "TuneSchoolModel") (T := TX12) (N := 71) hx hb ht iX12 tyX12 tyX12_ok nmX12 hown hK hP hD hS 0 rfl rfl 38 (by decide) (ht _ q5_30) (fun _ h9 => h9) rfl (by decide +kernel) rfl rfl (Nat.le_of_ble_eq_true rfl) dX12_cutLine_21 (fun H locs hP hD hS => ?_)
    have hP : va_P D clsL [(h0, .inr (10, oX12 r (va_up fm 38 p0)))] H := hP
    have hD : va_D A [(h0, .inr (10, oX12 r (va_up fm 38 p0)))] := hD
    refine lv_iload_n hx hb dX12_cutLine_24 rfl (lv_at hl 0 rfl) ?_
    exact W.iret (v := 0) hx hb hr (fun t ht hW => ⟨⟨0, (), rfl, (by first | (unfold an_cutLine; (repeat' split) <;> first | rfl | (exfalso; omega)) | rfl | decide), nilP, nilD⟩, hS.F ht⟩) hS.2.2 dX12_cutLine_25
  · skip
    refine lv_if_ne (tgt := 14) hx hb dX12_cutLine_9 (by decide) (fun c_ => absurd c_ (by decide)) (fun _ => ?_)
    refine lv_iconst (v := (-1)) hx hb dX12_cutLine_12 (by decide) ?_
    exact W.iret (v := (-1)) hx hb hr (fun t ht hW => ⟨⟨(-1), (), rfl, (by first | (unfold an_cutLine; (repeat' split) <;> first | rfl | (exfalso; omega)) | rfl | decide), nilP, nilD⟩, hS.F ht⟩) hS.2.2 dX12_cutLine_13
set_option maxHeartbeats 400000 in
set_option maxRecDepth 100000 in
theorem c_X12_character (l : Launch) (D : va_G) (k : Nat → ClassId) (h0 : Nat) (r : Nat → Nat) (p0 : Int32)  : CI l yX12_character cX12_character 2 (some .int) 1 22 0 0 D k [(h0, .inr (10, oX12 r fm))] [.ref h0, .int p0] (S := Unit) (fun (r : Int32) (_ : Unit) => r = an_character p0) (fun _ => ([] : va_W)) := by
  intro sz
  refine mtX (Qc := fun A => va_Qi (S := Unit) (fun (r : Int32) (_ : Unit) => r = an_character p0) (fun u t => WX D A ((fun _ => ([] : va_W)) u) t) A) (free := fun A => A) (by decide) (Nat.le_of_ble_eq_true rfl) ?_
  intro p e s m below meth c ls A hB hl
  obtain ⟨hx, hb, hml, hr, hlocks, hnm, hown, ht, hK, hN, hA, hP, hD, hS⟩ := hB
  have hl : lv_has ls 2 [(0, .ref h0), (1, .int p0)] := hl
  refine lv_iload_n hx hb dX12_character_0 rfl (lv_at hl 1 rfl) ?_
  refine lv_iconst (v := 0) hx hb dX12_character_1 (by decide) ?_
  refine lv_aload_n hx hb dX12_character_2 rfl (lv_at hl 0 rfl) ?_
  refine va_get (D := D) (ci := 10) (v := .int 0) (C := "TuneSchoolModel") (T := TX12) (N := 71) hx hb ht iX12 hown hK hP 0 rfl rfl 38 (by decide) (ht _ q5_30) (fun _ h9 => h9) rfl dX12_character_3 ?_
  refine lv_iconst (v := 1) hx hb dX12_character_6 (by decide) ?_
  refine ev_isub (v := (-1)) hx hb dX12_character_7 (by decide) ?_
  refine afterP (xS (fr := 0) (lo := 0) (mc := 0) (ms := 0) (As := [.int p0, .int 0, .int (-1)]) (rest := []) (wc := []) ⟨hx, hb, hml, hown, ht⟩ (c_X12_in l D k p0 0 (-1) 0 (-1) (by decide) (by decide) _) hK hN nilP (nilD (A := A)) q5_214 q5_215 q1_6 q5_216 md_X12_in ⟨by decide, by decide⟩ rfl hl.1 rfl (Nat.le_of_ble_eq_true rfl) dX12_character_8 ⟨by decide, by decide⟩) (fun r_1 h_2 => ?_)
  rcases h_2 with ⟨rfl, h_2⟩ | ⟨rfl, h_2⟩
  · exact absurd h_2 (by first | decide | omega)
  · skip
    refine lv_if_eq (tgt := 23) hx hb dX12_character_11 (by decide) (fun _ => ?_) (fun c_ => absurd c_ (by decide))
    refine lv_bipush (v := (-2)) hx hb dX12_character_23 (by decide) ?_
    exact W.iret (v := (-2)) hx hb hr (fun t ht hW => ⟨⟨(-2), (), rfl, (by first | (unfold an_character; (repeat' split) <;> first | rfl | (exfalso; omega)) | rfl | decide), nilP, nilD⟩, hS.F ht⟩) hS.2.2 dX12_character_25
set_option maxHeartbeats 400000 in
set_option maxRecDepth 100000 in
theorem c_X12_rule (l : Launch) (D : va_G) (k : Nat → ClassId) (h0 : Nat) (r : Nat → Nat) (p0 p1 : Int32)  : CI l yX12_rule cX12_rule 3 (some .int) 2 42 0 0 D k [(h0, .inr (10, oX12 r fm)), ((r 14), .inl (k 0, 520, .inl (fun _ => 0))), ((r 22), .inl (k 0, 16, .inl (fun _ => 0))), ((r 23), .inl (k 0, 16, .inl (fun _ => 0)))] [.ref h0, .int p0, .int p1] (S := Unit) (fun (r : Int32) (_ : Unit) => r = an_rule p0 p1) (fun _ => ([] : va_W)) := by
  intro sz
  refine mtX (Qc := fun A => va_Qi (S := Unit) (fun (r : Int32) (_ : Unit) => r = an_rule p0 p1) (fun u t => WX D A ((fun _ => ([] : va_W)) u) t) A) (free := fun A => A) (by decide) (Nat.le_of_ble_eq_true rfl) ?_
  intro p e s m below meth c ls A hB hl
  obtain ⟨hx, hb, hml, hr, hlocks, hnm, hown, ht, hK, hN, hA, hP, hD, hS⟩ := hB
  have hl : lv_has ls 3 [(0, .ref h0), (1, .int p0), (2, .int p1)] := hl
  refine lv_iload_n hx hb dX12_rule_0 rfl (lv_at hl 1 rfl) ?_
  refine afterP (xS (fr := 1) (lo := 22) (mc := 0) (ms := 0) (As := [.int p0]) (rest := []) (wc := []) ⟨hx, hb, hml, hown, ht⟩ (c_X12_isPlace l D k p0 _) hK hN nilP (nilD (A := A)) q6_53 q6_54 q1_6 q6_55 md_X12_isPlace ⟨by decide, by decide⟩ rfl hl.1 rfl (Nat.le_of_ble_eq_true rfl) dX12_rule_1 ⟨by decide, by decide⟩) (fun r_1 h_2 => ?_)
  rcases h_2 with ⟨rfl, h_2⟩ | ⟨rfl, h_2⟩
  · skip
    refine lv_if_eq (tgt := 16) hx hb dX12_rule_4 (by decide) (fun c_ => absurd c_ (by decide)) (fun _ => ?_)
    refine lv_iload_n hx hb dX12_rule_7 rfl (lv_at hl 2 rfl) ?_
    refine lv_iconst (v := 0) hx hb dX12_rule_8 (by decide) ?_
    refine lv_iconst (v := 3) hx hb dX12_rule_9 (by decide) ?_
    refine afterP (xS (fr := 0) (lo := 0) (mc := 0) (ms := 0) (As := [.int p1, .int 0, .int 3]) (rest := []) (wc := []) ⟨hx, hb, hml, hown, ht⟩ (c_X12_in l D k p1 0 3 0 3 (by decide) (by decide) _) hK hN nilP (nilD (A := A)) q5_214 q5_215 q1_6 q5_216 md_X12_in ⟨by decide, by decide⟩ rfl hl.1 rfl (Nat.le_of_ble_eq_true rfl) dX12_rule_10 ⟨by decide, by decide⟩) (fun r_3 h_4 => ?_)
    rcases h_4 with ⟨rfl, h_4⟩ | ⟨rfl, h_4⟩
    · skip
      refine lv_if_ne (tgt := 18) hx hb dX12_rule_13 (by decide) (fun _ => ?_) (fun c_ => absurd c_ (by decide))
      refine lv_aload_n hx hb dX12_rule_18 rfl (lv_at hl 0 rfl) ?_
      refine lv_iconst (v := 0) hx hb dX12_rule_19 (by decide) ?_
      refine va_put (D := D) (ci := 10) (v := .int 0) (ty := .int) (C := "TuneSchoolModel") (T := TX12) (N := 71) hx hb ht iX12 tyX12 tyX12_ok nmX12 hown hK hP hD hS 0 rfl rfl 0 (by decide) (ht _ q4_232) (fun _ h9 => h9) rfl (by decide +kernel) rfl rfl (Nat.le_of_ble_eq_true rfl) dX12_rule_20 (fun H locs hP hD hS => ?_)
      have hP : va_P D clsL [(h0, .inr (10, oX12 r (va_up fm 0 0))), ((r 14), .inl (k 0, 520, .inl (fun _ => 0))), ((r 22), .inl (k 0, 16, .inl (fun _ => 0))), ((r 23), .inl (k 0, 16, .inl (fun _ => 0)))] H := hP
      have hD : va_D A [(h0, .inr (10, oX12 r (va_up fm 0 0))), ((r 14), .inl (k 0, 520, .inl (fun _ => 0))), ((r 22), .inl (k 0, 16, .inl (fun _ => 0))), ((r 23), .inl (k 0, 16, .inl (fun _ => 0)))] := hD
      refine lv_aload_n hx hb dX12_rule_23 rfl (lv_at hl 0 rfl) ?_
      refine va_get (D := D) (ci := 10) (v := .ref (r 14)) (C := "TuneSchoolModel") (T := TX12) (N := 71) hx hb ht iX12 hown hK hP 0 rfl rfl 14 (by decide) (ht _ q5_6) (fun _ h9 => h9) rfl dX12_rule_24 ?_
      refine lv_aload_n hx hb dX12_rule_27 rfl (lv_at hl 0 rfl) ?_
      refine va_get (D := D) (ci := 10) (v := .int 0) (C := "TuneSchoolModel") (T := TX12) (N := 71) hx hb ht iX12 hown hK hP 0 rfl rfl 13 (by decide) (ht _ q5_5) (fun _ h9 => h9) rfl dX12_rule_28 ?_
      refine lv_iload_n hx hb dX12_rule_31 rfl (lv_at hl 2 rfl) ?_
      refine stI hx hb hK hP hD hS 1 rfl (vin (by decide) (by decide)) dX12_rule_32 (fun H locs hP hD hS => ?_)
      have hP : va_P D clsL [(h0, .inr (10, oX12 r (va_up fm 0 0))), ((r 14), .inl (k 0, 520, .inl (upd (fun _ => 0) (0 : Int32).toNatClampNeg p1))), ((r 22), .inl (k 0, 16, .inl (fun _ => 0))), ((r 23), .inl (k 0, 16, .inl (fun _ => 0)))] H := hP
      have hD : va_D A [(h0, .inr (10, oX12 r (va_up fm 0 0))), ((r 14), .inl (k 0, 520, .inl (upd (fun _ => 0) (0 : Int32).toNatClampNeg p1))), ((r 22), .inl (k 0, 16, .inl (fun _ => 0))), ((r 23), .inl (k 0, 16, .inl (fun _ => 0)))] := hD
      refine lv_aload_n hx hb dX12_rule_33 rfl (lv_at hl 0 rfl) ?_
      refine va_get (D := D) (ci := 10) (v := .ref (r 22)) (C := "TuneSchoolModel") (T := TX12) (N := 71) hx hb ht iX12 hown hK hP 0 rfl rfl 22 (by decide) (ht _ q5_14) (fun _ h9 => h9) rfl dX12_rule_34 ?_
      refine lv_iload_n hx hb dX12_rule_37 rfl (lv_at hl 1 rfl) ?_
      refine lv_iconst (v := 1) hx hb dX12_rule_38 (by decide) ?_
      refine stI hx hb hK hP hD hS 2 rfl (vin (by omega) (by omega)) dX12_rule_39 (fun H locs hP hD hS => ?_)
      have hP : va_P D clsL [(h0, .inr (10, oX12 r (va_up fm 0 0))), ((r 14), .inl (k 0, 520, .inl (upd (fun _ => 0) (0 : Int32).toNatClampNeg p1))), ((r 22), .inl (k 0, 16, .inl (upd (fun _ => 0) p0.toNatClampNeg 1))), ((r 23), .inl (k 0, 16, .inl (fun _ => 0)))] H := hP
      have hD : va_D A [(h0, .inr (10, oX12 r (va_up fm 0 0))), ((r 14), .inl (k 0, 520, .inl (upd (fun _ => 0) (0 : Int32).toNatClampNeg p1))), ((r 22), .inl (k 0, 16, .inl (upd (fun _ => 0) p0.toNatClampNeg 1))), ((r 23), .inl (k 0, 16, .inl (fun _ => 0)))] := hD
      refine lv_aload_n hx hb dX12_rule_40 rfl (lv_at hl 0 rfl) ?_
      refine va_get (D := D) (ci := 10) (v := .ref (r 23)) (C := "TuneSchoolModel") (T := TX12) (N := 71) hx hb ht iX12 hown hK hP 0 rfl rfl 23 (by decide) (ht _ q5_15) (fun _ h9 => h9) rfl dX12_rule_41 ?_
      refine lv_iload_n hx hb dX12_rule_44 rfl (lv_at hl 1 rfl) ?_
      refine lv_aload_n hx hb dX12_rule_45 rfl (lv_at hl 0 rfl) ?_
      refine va_get (D := D) (ci := 10) (v := .int 0) (C := "TuneSchoolModel") (T := TX12) (N := 71) hx hb ht iX12 hown hK hP 0 rfl rfl 13 (by decide) (ht _ q5_5) (fun _ h9 => h9) rfl dX12_rule_46 ?_
      refine stI hx hb hK hP hD hS 3 rfl (vin (by omega) (by omega)) dX12_rule_49 (fun H locs hP hD hS => ?_)
      have hP : va_P D clsL [(h0, .inr (10, oX12 r (va_up fm 0 0))), ((r 14), .inl (k 0, 520, .inl (upd (fun _ => 0) (0 : Int32).toNatClampNeg p1))), ((r 22), .inl (k 0, 16, .inl (upd (fun _ => 0) p0.toNatClampNeg 1))), ((r 23), .inl (k 0, 16, .inl (upd (fun _ => 0) p0.toNatClampNeg 0)))] H := hP
      have hD : va_D A [(h0, .inr (10, oX12 r (va_up fm 0 0))), ((r 14), .inl (k 0, 520, .inl (upd (fun _ => 0) (0 : Int32).toNatClampNeg p1))), ((r 22), .inl (k 0, 16, .inl (upd (fun _ => 0) p0.toNatClampNeg 1))), ((r 23), .inl (k 0, 16, .inl (upd (fun _ => 0) p0.toNatClampNeg 0)))] := hD
      refine lv_aload_n hx hb dX12_rule_50 rfl (lv_at hl 0 rfl) ?_
      refine lv_dup hx hb dX12_rule_51 rfl ?_
      refine va_get (D := D) (ci := 10) (v := .int 0) (C := "TuneSchoolModel") (T := TX12) (N := 71) hx hb ht iX12 hown hK hP 0 rfl rfl 13 (by decide) (ht _ q5_5) (fun _ h9 => h9) rfl dX12_rule_52 ?_
      refine lv_iconst (v := 1) hx hb dX12_rule_55 (by decide) ?_
      refine ev_iadd (v := 1) hx hb dX12_rule_56 (by decide) ?_
      refine va_put (D := D) (ci := 10) (v := .int 1) (ty := .int) (C := "TuneSchoolModel") (T := TX12) (N := 71) hx hb ht iX12 tyX12 tyX12_ok nmX12 hown hK hP hD hS 0 rfl rfl 13 (by decide) (ht _ q5_5) (fun _ h9 => h9) rfl (by decide +kernel) rfl rfl (Nat.le_of_ble_eq_true rfl) dX12_rule_57 (fun H locs hP hD hS => ?_)
      have hP : va_P D clsL [(h0, .inr (10, oX12 r (va_up (va_up fm 0 0) 13 1))), ((r 14), .inl (k 0, 520, .inl (upd (fun _ => 0) (0 : Int32).toNatClampNeg p1))), ((r 22), .inl (k 0, 16, .inl (upd (fun _ => 0) p0.toNatClampNeg 1))), ((r 23), .inl (k 0, 16, .inl (upd (fun _ => 0) p0.toNatClampNeg 0)))] H := hP
      have hD : va_D A [(h0, .inr (10, oX12 r (va_up (va_up fm 0 0) 13 1))), ((r 14), .inl (k 0, 520, .inl (upd (fun _ => 0) (0 : Int32).toNatClampNeg p1))), ((r 22), .inl (k 0, 16, .inl (upd (fun _ => 0) p0.toNatClampNeg 1))), ((r 23), .inl (k 0, 16, .inl (upd (fun _ => 0) p0.toNatClampNeg 0)))] := hD
      refine lv_iconst (v := 1) hx hb dX12_rule_60 (by decide) ?_
      exact W.iret (v := 1) hx hb hr (fun t ht hW => ⟨⟨1, (), rfl, (by first | (unfold an_rule; (repeat' split) <;> first | rfl | (exfalso; omega)) | rfl | decide), nilP, nilD⟩, hS.F ht⟩) hS.2.2 dX12_rule_61
    · skip
      refine lv_if_ne (tgt := 18) hx hb dX12_rule_13 (by decide) (fun c_ => absurd c_ (by decide)) (fun _ => ?_)
      refine lv_iconst (v := (-1)) hx hb dX12_rule_16 (by decide) ?_
      exact W.iret (v := (-1)) hx hb hr (fun t ht hW => ⟨⟨(-1), (), rfl, (by first | (unfold an_rule; (repeat' split) <;> first | rfl | (exfalso; omega)) | rfl | decide), nilP, nilD⟩, hS.F ht⟩) hS.2.2 dX12_rule_17
  · skip
    refine lv_if_eq (tgt := 16) hx hb dX12_rule_4 (by decide) (fun _ => ?_) (fun c_ => absurd c_ (by decide))
    refine lv_iconst (v := (-1)) hx hb dX12_rule_16 (by decide) ?_
    exact W.iret (v := (-1)) hx hb hr (fun t ht hW => ⟨⟨(-1), (), rfl, (by first | (unfold an_rule; (repeat' split) <;> first | rfl | (exfalso; omega)) | rfl | decide), nilP, nilD⟩, hS.F ht⟩) hS.2.2 dX12_rule_17
set_option maxHeartbeats 400000 in
set_option maxRecDepth 100000 in
theorem c_X12_school (l : Launch) (D : va_G) (k : Nat → ClassId) (h0 : Nat) (r : Nat → Nat) (p0 p1 p2 : Int32)  : CI l yX12_school cX12_school 5 (some .int) 2 42 0 0 D k [(h0, .inr (10, oX12 r fm)), ((r 19), .inl (k 0, 520, .inl (fun _ => 0))), ((r 20), .inl (k 0, 520, .inl (fun _ => 0))), ((r 21), .inl (k 0, 4160, .inl (fun _ => 0))), ((r 22), .inl (k 0, 16, .inl (fun _ => 0))), ((r 23), .inl (k 0, 16, .inl (fun _ => 0)))] [.ref h0, .int p0, .int p1, .int p2] (S := Unit) (fun (r : Int32) (_ : Unit) => r = an_school p0 p1 p2) (fun _ => ([] : va_W)) := by
  intro sz
  refine mtX (Qc := fun A => va_Qi (S := Unit) (fun (r : Int32) (_ : Unit) => r = an_school p0 p1 p2) (fun u t => WX D A ((fun _ => ([] : va_W)) u) t) A) (free := fun A => A) (by decide) (Nat.le_of_ble_eq_true rfl) ?_
  intro p e s m below meth c ls A hB hl
  obtain ⟨hx, hb, hml, hr, hlocks, hnm, hown, ht, hK, hN, hA, hP, hD, hS⟩ := hB
  have hl : lv_has ls 5 [(0, .ref h0), (1, .int p0), (2, .int p1), (3, .int p2)] := hl
  refine lv_iload_n hx hb dX12_school_0 rfl (lv_at hl 1 rfl) ?_
  refine afterP (xS (fr := 1) (lo := 22) (mc := 0) (ms := 0) (As := [.int p0]) (rest := []) (wc := []) ⟨hx, hb, hml, hown, ht⟩ (c_X12_isPlace l D k p0 _) hK hN nilP (nilD (A := A)) q6_53 q6_54 q1_6 q6_55 md_X12_isPlace ⟨by decide, by decide⟩ rfl hl.1 rfl (Nat.le_of_ble_eq_true rfl) dX12_school_1 ⟨by decide, by decide⟩) (fun r_1 h_2 => ?_)
  rcases h_2 with ⟨rfl, h_2⟩ | ⟨rfl, h_2⟩
  · skip
    refine lv_if_eq (tgt := 22) hx hb dX12_school_4 (by decide) (fun c_ => absurd c_ (by decide)) (fun _ => ?_)
    refine lv_iload_n hx hb dX12_school_7 rfl (lv_at hl 2 rfl) ?_
    refine lv_iconst (v := 0) hx hb dX12_school_8 (by decide) ?_
    refine lv_iconst (v := 2) hx hb dX12_school_9 (by decide) ?_
    refine afterP (xS (fr := 0) (lo := 0) (mc := 0) (ms := 0) (As := [.int p1, .int 0, .int 2]) (rest := []) (wc := []) ⟨hx, hb, hml, hown, ht⟩ (c_X12_in l D k p1 0 2 0 2 (by decide) (by decide) _) hK hN nilP (nilD (A := A)) q5_214 q5_215 q1_6 q5_216 md_X12_in ⟨by decide, by decide⟩ rfl hl.1 rfl (Nat.le_of_ble_eq_true rfl) dX12_school_10 ⟨by decide, by decide⟩) (fun r_3 h_4 => ?_)
    rcases h_4 with ⟨rfl, h_4⟩ | ⟨rfl, h_4⟩
    · skip
      refine lv_if_eq (tgt := 22) hx hb dX12_school_13 (by decide) (fun c_ => absurd c_ (by decide)) (fun _ => ?_)
      refine lv_iload_n hx hb dX12_school_16 rfl (lv_at hl 3 rfl) ?_
      refine lv_bipush (v := 8) hx hb dX12_school_17 (by decide) ?_
      refine lv_icmp_le (tgt := 24) hx hb dX12_school_19 (by decide) (fun c_5 => ?_) (fun c_5 => ?_)
      · skip
        have c_5 := i_le (a := p2.toInt) (b := 8) rfl (by decide) c_5
        refine lv_aload_n hx hb dX12_school_24 rfl (lv_at hl 0 rfl) ?_
        refine lv_iconst (v := 0) hx hb dX12_school_25 (by decide) ?_
        refine va_put (D := D) (ci := 10) (v := .int 0) (ty := .int) (C := "TuneSchoolModel") (T := TX12) (N := 71) hx hb ht iX12 tyX12 tyX12_ok nmX12 hown hK hP hD hS 0 rfl rfl 0 (by decide) (ht _ q4_232) (fun _ h9 => h9) rfl (by decide +kernel) rfl rfl (Nat.le_of_ble_eq_true rfl) dX12_school_26 (fun H locs hP hD hS => ?_)
        have hP : va_P D clsL [(h0, .inr (10, oX12 r (va_up fm 0 0))), ((r 19), .inl (k 0, 520, .inl (fun _ => 0))), ((r 20), .inl (k 0, 520, .inl (fun _ => 0))), ((r 21), .inl (k 0, 4160, .inl (fun _ => 0))), ((r 22), .inl (k 0, 16, .inl (fun _ => 0))), ((r 23), .inl (k 0, 16, .inl (fun _ => 0)))] H := hP
        have hD : va_D A [(h0, .inr (10, oX12 r (va_up fm 0 0))), ((r 19), .inl (k 0, 520, .inl (fun _ => 0))), ((r 20), .inl (k 0, 520, .inl (fun _ => 0))), ((r 21), .inl (k 0, 4160, .inl (fun _ => 0))), ((r 22), .inl (k 0, 16, .inl (fun _ => 0))), ((r 23), .inl (k 0, 16, .inl (fun _ => 0)))] := hD
        refine lv_iload_n hx hb dX12_school_29 rfl (lv_at hl 3 rfl) ?_
        refine lv_if_ge (tgt := 39) hx hb dX12_school_30 (by decide) (fun c_6 => ?_) (fun c_6 => ?_)
        · skip
          have c_6 := i_le (a := 0) (b := p2.toInt) (by decide) rfl c_6
          refine lv_aload_n hx hb dX12_school_39 rfl (lv_at hl 0 rfl) ?_
          refine va_get (D := D) (ci := 10) (v := .ref (r 19)) (C := "TuneSchoolModel") (T := TX12) (N := 71) hx hb ht iX12 hown hK hP 0 rfl rfl 19 (by decide) (ht _ q5_11) (fun _ h9 => h9) rfl dX12_school_40 ?_
          refine lv_aload_n hx hb dX12_school_43 rfl (lv_at hl 0 rfl) ?_
          refine va_get (D := D) (ci := 10) (v := .int 0) (C := "TuneSchoolModel") (T := TX12) (N := 71) hx hb ht iX12 hown hK hP 0 rfl rfl 18 (by decide) (ht _ q5_10) (fun _ h9 => h9) rfl dX12_school_44 ?_
          refine lv_iload_n hx hb dX12_school_47 rfl (lv_at hl 2 rfl) ?_
          refine stI hx hb hK hP hD hS 1 rfl (vin (by decide) (by decide)) dX12_school_48 (fun H locs hP hD hS => ?_)
          have hP : va_P D clsL [(h0, .inr (10, oX12 r (va_up fm 0 0))), ((r 19), .inl (k 0, 520, .inl (upd (fun _ => 0) (0 : Int32).toNatClampNeg p1))), ((r 20), .inl (k 0, 520, .inl (fun _ => 0))), ((r 21), .inl (k 0, 4160, .inl (fun _ => 0))), ((r 22), .inl (k 0, 16, .inl (fun _ => 0))), ((r 23), .inl (k 0, 16, .inl (fun _ => 0)))] H := hP
          have hD : va_D A [(h0, .inr (10, oX12 r (va_up fm 0 0))), ((r 19), .inl (k 0, 520, .inl (upd (fun _ => 0) (0 : Int32).toNatClampNeg p1))), ((r 20), .inl (k 0, 520, .inl (fun _ => 0))), ((r 21), .inl (k 0, 4160, .inl (fun _ => 0))), ((r 22), .inl (k 0, 16, .inl (fun _ => 0))), ((r 23), .inl (k 0, 16, .inl (fun _ => 0)))] := hD
          refine lv_aload_n hx hb dX12_school_49 rfl (lv_at hl 0 rfl) ?_
          refine va_get (D := D) (ci := 10) (v := .ref (r 20)) (C := "TuneSchoolModel") (T := TX12) (N := 71) hx hb ht iX12 hown hK hP 0 rfl rfl 20 (by decide) (ht _ q5_12) (fun _ h9 => h9) rfl dX12_school_50 ?_
          refine lv_aload_n hx hb dX12_school_53 rfl (lv_at hl 0 rfl) ?_
          refine va_get (D := D) (ci := 10) (v := .int 0) (C := "TuneSchoolModel") (T := TX12) (N := 71) hx hb ht iX12 hown hK hP 0 rfl rfl 18 (by decide) (ht _ q5_10) (fun _ h9 => h9) rfl dX12_school_54 ?_
          refine lv_iload_n hx hb dX12_school_57 rfl (lv_at hl 3 rfl) ?_
          refine stI hx hb hK hP hD hS 2 rfl (vin (by decide) (by decide)) dX12_school_58 (fun H locs hP hD hS => ?_)
          have hP : va_P D clsL [(h0, .inr (10, oX12 r (va_up fm 0 0))), ((r 19), .inl (k 0, 520, .inl (upd (fun _ => 0) (0 : Int32).toNatClampNeg p1))), ((r 20), .inl (k 0, 520, .inl (upd (fun _ => 0) (0 : Int32).toNatClampNeg p2))), ((r 21), .inl (k 0, 4160, .inl (fun _ => 0))), ((r 22), .inl (k 0, 16, .inl (fun _ => 0))), ((r 23), .inl (k 0, 16, .inl (fun _ => 0)))] H := hP
          have hD : va_D A [(h0, .inr (10, oX12 r (va_up fm 0 0))), ((r 19), .inl (k 0, 520, .inl (upd (fun _ => 0) (0 : Int32).toNatClampNeg p1))), ((r 20), .inl (k 0, 520, .inl (upd (fun _ => 0) (0 : Int32).toNatClampNeg p2))), ((r 21), .inl (k 0, 4160, .inl (fun _ => 0))), ((r 22), .inl (k 0, 16, .inl (fun _ => 0))), ((r 23), .inl (k 0, 16, .inl (fun _ => 0)))] := hD
          refine lv_iconst (v := 0) hx hb dX12_school_59 (by decide) ?_
          refine lv_istore (lv' := [(4, .int 0), (0, .ref h0), (1, .int p0), (2, .int p1), (3, .int p2)]) hx hb dX12_school_60 hl (by decide) rfl (fun ls hl => ?_)
          refine lv_iload hx hb dX12_school_62 (lv_at hl 0 rfl) ?_
          refine lv_bipush (v := 8) hx hb dX12_school_64 (by decide) ?_
          refine lv_icmp_ge (tgt := 91) hx hb dX12_school_66 (by decide) (fun c_ => absurd c_ (by decide)) (fun _ => ?_)
          refine lv_aload_n hx hb dX12_school_69 rfl (lv_at hl 1 rfl) ?_
          refine va_get (D := D) (ci := 10) (v := .ref (r 21)) (C := "TuneSchoolModel") (T := TX12) (N := 71) hx hb ht iX12 hown hK hP 0 rfl rfl 21 (by decide) (ht _ q5_13) (fun _ h9 => h9) rfl dX12_school_70 ?_
          refine lv_bipush (v := 8) hx hb dX12_school_73 (by decide) ?_
          refine lv_aload_n hx hb dX12_school_75 rfl (lv_at hl 1 rfl) ?_
          refine va_get (D := D) (ci := 10) (v := .int 0) (C := "TuneSchoolModel") (T := TX12) (N := 71) hx hb ht iX12 hown hK hP 0 rfl rfl 18 (by decide) (ht _ q5_10) (fun _ h9 => h9) rfl dX12_school_76 ?_
          refine ev_imul (v := 0) hx hb dX12_school_79 (by decide) ?_
          refine lv_iload hx hb dX12_school_80 (lv_at hl 0 rfl) ?_
          refine ev_iadd (v := 0) hx hb dX12_school_82 (by decide) ?_
          refine lv_iconst (v := (-1)) hx hb dX12_school_83 (by decide) ?_
          refine stI hx hb hK hP hD hS 3 rfl (vin (by decide) (by decide)) dX12_school_84 (fun H locs hP hD hS => ?_)
          have hP : va_P D clsL [(h0, .inr (10, oX12 r (va_up fm 0 0))), ((r 19), .inl (k 0, 520, .inl (upd (fun _ => 0) (0 : Int32).toNatClampNeg p1))), ((r 20), .inl (k 0, 520, .inl (upd (fun _ => 0) (0 : Int32).toNatClampNeg p2))), ((r 21), .inl (k 0, 4160, .inl (upd (fun _ => 0) (0 : Int32).toNatClampNeg (-1)))), ((r 22), .inl (k 0, 16, .inl (fun _ => 0))), ((r 23), .inl (k 0, 16, .inl (fun _ => 0)))] H := hP
          have hD : va_D A [(h0, .inr (10, oX12 r (va_up fm 0 0))), ((r 19), .inl (k 0, 520, .inl (upd (fun _ => 0) (0 : Int32).toNatClampNeg p1))), ((r 20), .inl (k 0, 520, .inl (upd (fun _ => 0) (0 : Int32).toNatClampNeg p2))), ((r 21), .inl (k 0, 4160, .inl (upd (fun _ => 0) (0 : Int32).toNatClampNeg (-1)))), ((r 22), .inl (k 0, 16, .inl (fun _ => 0))), ((r 23), .inl (k 0, 16, .inl (fun _ => 0)))] := hD
          refine lv_iinc (v := 1) (lv' := [(4, .int 1), (0, .ref h0), (1, .int p0), (2, .int p1), (3, .int p2)]) hx hb dX12_school_85 hl (k := 0) rfl (by decide) (by decide) rfl (fun ls hl => ?_)
          refine lv_goto (tgt := 62) hx hb dX12_school_88 (by decide) ?_
          refine lv_iload hx hb dX12_school_62 (lv_at hl 0 rfl) ?_
          refine lv_bipush (v := 8) hx hb dX12_school_64 (by decide) ?_
          refine lv_icmp_ge (tgt := 91) hx hb dX12_school_66 (by decide) (fun c_ => absurd c_ (by decide)) (fun _ => ?_)
          refine lv_aload_n hx hb dX12_school_69 rfl (lv_at hl 1 rfl) ?_
          refine va_get (D := D) (ci := 10) (v := .ref (r 21)) (C := "TuneSchoolModel") (T := TX12) (N := 71) hx hb ht iX12 hown hK hP 0 rfl rfl 21 (by decide) (ht _ q5_13) (fun _ h9 => h9) rfl dX12_school_70 ?_
          refine lv_bipush (v := 8) hx hb dX12_school_73 (by decide) ?_
          refine lv_aload_n hx hb dX12_school_75 rfl (lv_at hl 1 rfl) ?_
          refine va_get (D := D) (ci := 10) (v := .int 0) (C := "TuneSchoolModel") (T := TX12) (N := 71) hx hb ht iX12 hown hK hP 0 rfl rfl 18 (by decide) (ht _ q5_10) (fun _ h9 => h9) rfl dX12_school_76 ?_
          refine ev_imul (v := 0) hx hb dX12_school_79 (by decide) ?_
          refine lv_iload hx hb dX12_school_80 (lv_at hl 0 rfl) ?_
          refine ev_iadd (v := 1) hx hb dX12_school_82 (by decide) ?_
          refine lv_iconst (v := (-1)) hx hb dX12_school_83 (by decide) ?_
          refine stI hx hb hK hP hD hS 3 rfl (vin (by decide) (by decide)) dX12_school_84 (fun H locs hP hD hS => ?_)
          have hP : va_P D clsL [(h0, .inr (10, oX12 r (va_up fm 0 0))), ((r 19), .inl (k 0, 520, .inl (upd (fun _ => 0) (0 : Int32).toNatClampNeg p1))), ((r 20), .inl (k 0, 520, .inl (upd (fun _ => 0) (0 : Int32).toNatClampNeg p2))), ((r 21), .inl (k 0, 4160, .inl (upd (upd (fun _ => 0) (0 : Int32).toNatClampNeg (-1)) (1 : Int32).toNatClampNeg (-1)))), ((r 22), .inl (k 0, 16, .inl (fun _ => 0))), ((r 23), .inl (k 0, 16, .inl (fun _ => 0)))] H := hP
          have hD : va_D A [(h0, .inr (10, oX12 r (va_up fm 0 0))), ((r 19), .inl (k 0, 520, .inl (upd (fun _ => 0) (0 : Int32).toNatClampNeg p1))), ((r 20), .inl (k 0, 520, .inl (upd (fun _ => 0) (0 : Int32).toNatClampNeg p2))), ((r 21), .inl (k 0, 4160, .inl (upd (upd (fun _ => 0) (0 : Int32).toNatClampNeg (-1)) (1 : Int32).toNatClampNeg (-1)))), ((r 22), .inl (k 0, 16, .inl (fun _ => 0))), ((r 23), .inl (k 0, 16, .inl (fun _ => 0)))] := hD
          refine lv_iinc (v := 2) (lv' := [(4, .int 2), (0, .ref h0), (1, .int p0), (2, .int p1), (3, .int p2)]) hx hb dX12_school_85 hl (k := 0) rfl (by decide) (by decide) rfl (fun ls hl => ?_)
          refine lv_goto (tgt := 62) hx hb dX12_school_88 (by decide) ?_
          refine lv_iload hx hb dX12_school_62 (lv_at hl 0 rfl) ?_
          refine lv_bipush (v := 8) hx hb dX12_school_64 (by decide) ?_
          refine lv_icmp_ge (tgt := 91) hx hb dX12_school_66 (by decide) (fun c_ => absurd c_ (by decide)) (fun _ => ?_)
          refine lv_aload_n hx hb dX12_school_69 rfl (lv_at hl 1 rfl) ?_
          refine va_get (D := D) (ci := 10) (v := .ref (r 21)) (C := "TuneSchoolModel") (T := TX12) (N := 71) hx hb ht iX12 hown hK hP 0 rfl rfl 21 (by decide) (ht _ q5_13) (fun _ h9 => h9) rfl dX12_school_70 ?_
          refine lv_bipush (v := 8) hx hb dX12_school_73 (by decide) ?_
          refine lv_aload_n hx hb dX12_school_75 rfl (lv_at hl 1 rfl) ?_
          refine va_get (D := D) (ci := 10) (v := .int 0) (C := "TuneSchoolModel") (T := TX12) (N := 71) hx hb ht iX12 hown hK hP 0 rfl rfl 18 (by decide) (ht _ q5_10) (fun _ h9 => h9) rfl dX12_school_76 ?_
          refine ev_imul (v := 0) hx hb dX12_school_79 (by decide) ?_
          refine lv_iload hx hb dX12_school_80 (lv_at hl 0 rfl) ?_
          refine ev_iadd (v := 2) hx hb dX12_school_82 (by decide) ?_
          refine lv_iconst (v := (-1)) hx hb dX12_school_83 (by decide) ?_
          refine stI hx hb hK hP hD hS 3 rfl (vin (by decide) (by decide)) dX12_school_84 (fun H locs hP hD hS => ?_)
          have hP : va_P D clsL [(h0, .inr (10, oX12 r (va_up fm 0 0))), ((r 19), .inl (k 0, 520, .inl (upd (fun _ => 0) (0 : Int32).toNatClampNeg p1))), ((r 20), .inl (k 0, 520, .inl (upd (fun _ => 0) (0 : Int32).toNatClampNeg p2))), ((r 21), .inl (k 0, 4160, .inl (upd (upd (upd (fun _ => 0) (0 : Int32).toNatClampNeg (-1)) (1 : Int32).toNatClampNeg (-1)) (2 : Int32).toNatClampNeg (-1)))), ((r 22), .inl (k 0, 16, .inl (fun _ => 0))), ((r 23), .inl (k 0, 16, .inl (fun _ => 0)))] H := hP
          have hD : va_D A [(h0, .inr (10, oX12 r (va_up fm 0 0))), ((r 19), .inl (k 0, 520, .inl (upd (fun _ => 0) (0 : Int32).toNatClampNeg p1))), ((r 20), .inl (k 0, 520, .inl (upd (fun _ => 0) (0 : Int32).toNatClampNeg p2))), ((r 21), .inl (k 0, 4160, .inl (upd (upd (upd (fun _ => 0) (0 : Int32).toNatClampNeg (-1)) (1 : Int32).toNatClampNeg (-1)) (2 : Int32).toNatClampNeg (-1)))), ((r 22), .inl (k 0, 16, .inl (fun _ => 0))), ((r 23), .inl (k 0, 16, .inl (fun _ => 0)))] := hD
          refine lv_iinc (v := 3) (lv' := [(4, .int 3), (0, .ref h0), (1, .int p0), (2, .int p1), (3, .int p2)]) hx hb dX12_school_85 hl (k := 0) rfl (by decide) (by decide) rfl (fun ls hl => ?_)
          refine lv_goto (tgt := 62) hx hb dX12_school_88 (by decide) ?_
          refine lv_iload hx hb dX12_school_62 (lv_at hl 0 rfl) ?_
          refine lv_bipush (v := 8) hx hb dX12_school_64 (by decide) ?_
          refine lv_icmp_ge (tgt := 91) hx hb dX12_school_66 (by decide) (fun c_ => absurd c_ (by decide)) (fun _ => ?_)
          refine lv_aload_n hx hb dX12_school_69 rfl (lv_at hl 1 rfl) ?_
          refine va_get (D := D) (ci := 10) (v := .ref (r 21)) (C := "TuneSchoolModel") (T := TX12) (N := 71) hx hb ht iX12 hown hK hP 0 rfl rfl 21 (by decide) (ht _ q5_13) (fun _ h9 => h9) rfl dX12_school_70 ?_
          refine lv_bipush (v := 8) hx hb dX12_school_73 (by decide) ?_
          refine lv_aload_n hx hb dX12_school_75 rfl (lv_at hl 1 rfl) ?_
          refine va_get (D := D) (ci := 10) (v := .int 0) (C := "TuneSchoolModel") (T := TX12) (N := 71) hx hb ht iX12 hown hK hP 0 rfl rfl 18 (by decide) (ht _ q5_10) (fun _ h9 => h9) rfl dX12_school_76 ?_
          refine ev_imul (v := 0) hx hb dX12_school_79 (by decide) ?_
          refine lv_iload hx hb dX12_school_80 (lv_at hl 0 rfl) ?_
          refine ev_iadd (v := 3) hx hb dX12_school_82 (by decide) ?_
          refine lv_iconst (v := (-1)) hx hb dX12_school_83 (by decide) ?_
          refine stI hx hb hK hP hD hS 3 rfl (vin (by decide) (by decide)) dX12_school_84 (fun H locs hP hD hS => ?_)
          have hP : va_P D clsL [(h0, .inr (10, oX12 r (va_up fm 0 0))), ((r 19), .inl (k 0, 520, .inl (upd (fun _ => 0) (0 : Int32).toNatClampNeg p1))), ((r 20), .inl (k 0, 520, .inl (upd (fun _ => 0) (0 : Int32).toNatClampNeg p2))), ((r 21), .inl (k 0, 4160, .inl (upd (upd (upd (upd (fun _ => 0) (0 : Int32).toNatClampNeg (-1)) (1 : Int32).toNatClampNeg (-1)) (2 : Int32).toNatClampNeg (-1)) (3 : Int32).toNatClampNeg (-1)))), ((r 22), .inl (k 0, 16, .inl (fun _ => 0))), ((r 23), .inl (k 0, 16, .inl (fun _ => 0)))] H := hP
          have hD : va_D A [(h0, .inr (10, oX12 r (va_up fm 0 0))), ((r 19), .inl (k 0, 520, .inl (upd (fun _ => 0) (0 : Int32).toNatClampNeg p1))), ((r 20), .inl (k 0, 520, .inl (upd (fun _ => 0) (0 : Int32).toNatClampNeg p2))), ((r 21), .inl (k 0, 4160, .inl (upd (upd (upd (upd (fun _ => 0) (0 : Int32).toNatClampNeg (-1)) (1 : Int32).toNatClampNeg (-1)) (2 : Int32).toNatClampNeg (-1)) (3 : Int32).toNatClampNeg (-1)))), ((r 22), .inl (k 0, 16, .inl (fun _ => 0))), ((r 23), .inl (k 0, 16, .inl (fun _ => 0)))] := hD
          refine lv_iinc (v := 4) (lv' := [(4, .int 4), (0, .ref h0), (1, .int p0), (2, .int p1), (3, .int p2)]) hx hb dX12_school_85 hl (k := 0) rfl (by decide) (by decide) rfl (fun ls hl => ?_)
          refine lv_goto (tgt := 62) hx hb dX12_school_88 (by decide) ?_
          refine lv_iload hx hb dX12_school_62 (lv_at hl 0 rfl) ?_
          refine lv_bipush (v := 8) hx hb dX12_school_64 (by decide) ?_
          refine lv_icmp_ge (tgt := 91) hx hb dX12_school_66 (by decide) (fun c_ => absurd c_ (by decide)) (fun _ => ?_)
          refine lv_aload_n hx hb dX12_school_69 rfl (lv_at hl 1 rfl) ?_
          refine va_get (D := D) (ci := 10) (v := .ref (r 21)) (C := "TuneSchoolModel") (T := TX12) (N := 71) hx hb ht iX12 hown hK hP 0 rfl rfl 21 (by decide) (ht _ q5_13) (fun _ h9 => h9) rfl dX12_school_70 ?_
          refine lv_bipush (v := 8) hx hb dX12_school_73 (by decide) ?_
          refine lv_aload_n hx hb dX12_school_75 rfl (lv_at hl 1 rfl) ?_
          refine va_get (D := D) (ci := 10) (v := .int 0) (C := "TuneSchoolModel") (T := TX12) (N := 71) hx hb ht iX12 hown hK hP 0 rfl rfl 18 (by decide) (ht _ q5_10) (fun _ h9 => h9) rfl dX12_school_76 ?_
          refine ev_imul (v := 0) hx hb dX12_school_79 (by decide) ?_
          refine lv_iload hx hb dX12_school_80 (lv_at hl 0 rfl) ?_
          refine ev_iadd (v := 4) hx hb dX12_school_82 (by decide) ?_
          refine lv_iconst (v := (-1)) hx hb dX12_school_83 (by decide) ?_
          refine stI hx hb hK hP hD hS 3 rfl (vin (by decide) (by decide)) dX12_school_84 (fun H locs hP hD hS => ?_)
          have hP : va_P D clsL [(h0, .inr (10, oX12 r (va_up fm 0 0))), ((r 19), .inl (k 0, 520, .inl (upd (fun _ => 0) (0 : Int32).toNatClampNeg p1))), ((r 20), .inl (k 0, 520, .inl (upd (fun _ => 0) (0 : Int32).toNatClampNeg p2))), ((r 21), .inl (k 0, 4160, .inl (upd (upd (upd (upd (upd (fun _ => 0) (0 : Int32).toNatClampNeg (-1)) (1 : Int32).toNatClampNeg (-1)) (2 : Int32).toNatClampNeg (-1)) (3 : Int32).toNatClampNeg (-1)) (4 : Int32).toNatClampNeg (-1)))), ((r 22), .inl (k 0, 16, .inl (fun _ => 0))), ((r 23), .inl (k 0, 16, .inl (fun _ => 0)))] H := hP
          have hD : va_D A [(h0, .inr (10, oX12 r (va_up fm 0 0))), ((r 19), .inl (k 0, 520, .inl (upd (fun _ => 0) (0 : Int32).toNatClampNeg p1))), ((r 20), .inl (k 0, 520, .inl (upd (fun _ => 0) (0 : Int32).toNatClampNeg p2))), ((r 21), .inl (k 0, 4160, .inl (upd (upd (upd (upd (upd (fun _ => 0) (0 : Int32).toNatClampNeg (-1)) (1 : Int32).toNatClampNeg (-1)) (2 : Int32).toNatClampNeg (-1)) (3 : Int32).toNatClampNeg (-1)) (4 : Int32).toNatClampNeg (-1)))), ((r 22), .inl (k 0, 16, .inl (fun _ => 0))), ((r 23), .inl (k 0, 16, .inl (fun _ => 0)))] := hD
          refine lv_iinc (v := 5) (lv' := [(4, .int 5), (0, .ref h0), (1, .int p0), (2, .int p1), (3, .int p2)]) hx hb dX12_school_85 hl (k := 0) rfl (by decide) (by decide) rfl (fun ls hl => ?_)
          refine lv_goto (tgt := 62) hx hb dX12_school_88 (by decide) ?_
          refine lv_iload hx hb dX12_school_62 (lv_at hl 0 rfl) ?_
          refine lv_bipush (v := 8) hx hb dX12_school_64 (by decide) ?_
          refine lv_icmp_ge (tgt := 91) hx hb dX12_school_66 (by decide) (fun c_ => absurd c_ (by decide)) (fun _ => ?_)
          refine lv_aload_n hx hb dX12_school_69 rfl (lv_at hl 1 rfl) ?_
          refine va_get (D := D) (ci := 10) (v := .ref (r 21)) (C := "TuneSchoolModel") (T := TX12) (N := 71) hx hb ht iX12 hown hK hP 0 rfl rfl 21 (by decide) (ht _ q5_13) (fun _ h9 => h9) rfl dX12_school_70 ?_
          refine lv_bipush (v := 8) hx hb dX12_school_73 (by decide) ?_
          refine lv_aload_n hx hb dX12_school_75 rfl (lv_at hl 1 rfl) ?_
          refine va_get (D := D) (ci := 10) (v := .int 0) (C := "TuneSchoolModel") (T := TX12) (N := 71) hx hb ht iX12 hown hK hP 0 rfl rfl 18 (by decide) (ht _ q5_10) (fun _ h9 => h9) rfl dX12_school_76 ?_
          refine ev_imul (v := 0) hx hb dX12_school_79 (by decide) ?_
          refine lv_iload hx hb dX12_school_80 (lv_at hl 0 rfl) ?_
          refine ev_iadd (v := 5) hx hb dX12_school_82 (by decide) ?_
          refine lv_iconst (v := (-1)) hx hb dX12_school_83 (by decide) ?_
          refine stI hx hb hK hP hD hS 3 rfl (vin (by decide) (by decide)) dX12_school_84 (fun H locs hP hD hS => ?_)
          have hP : va_P D clsL [(h0, .inr (10, oX12 r (va_up fm 0 0))), ((r 19), .inl (k 0, 520, .inl (upd (fun _ => 0) (0 : Int32).toNatClampNeg p1))), ((r 20), .inl (k 0, 520, .inl (upd (fun _ => 0) (0 : Int32).toNatClampNeg p2))), ((r 21), .inl (k 0, 4160, .inl (upd (upd (upd (upd (upd (upd (fun _ => 0) (0 : Int32).toNatClampNeg (-1)) (1 : Int32).toNatClampNeg (-1)) (2 : Int32).toNatClampNeg (-1)) (3 : Int32).toNatClampNeg (-1)) (4 : Int32).toNatClampNeg (-1)) (5 : Int32).toNatClampNeg (-1)))), ((r 22), .inl (k 0, 16, .inl (fun _ => 0))), ((r 23), .inl (k 0, 16, .inl (fun _ => 0)))] H := hP
          have hD : va_D A [(h0, .inr (10, oX12 r (va_up fm 0 0))), ((r 19), .inl (k 0, 520, .inl (upd (fun _ => 0) (0 : Int32).toNatClampNeg p1))), ((r 20), .inl (k 0, 520, .inl (upd (fun _ => 0) (0 : Int32).toNatClampNeg p2))), ((r 21), .inl (k 0, 4160, .inl (upd (upd (upd (upd (upd (upd (fun _ => 0) (0 : Int32).toNatClampNeg (-1)) (1 : Int32).toNatClampNeg (-1)) (2 : Int32).toNatClampNeg (-1)) (3 : Int32).toNatClampNeg (-1)) (4 : Int32).toNatClampNeg (-1)) (5 : Int32).toNatClampNeg (-1)))), ((r 22), .inl (k 0, 16, .inl (fun _ => 0))), ((r 23), .inl (k 0, 16, .inl (fun _ => 0)))] := hD
          refine lv_iinc (v := 6) (lv' := [(4, .int 6), (0, .ref h0), (1, .int p0), (2, .int p1), (3, .int p2)]) hx hb dX12_school_85 hl (k := 0) rfl (by decide) (by decide) rfl (fun ls hl => ?_)
          refine lv_goto (tgt := 62) hx hb dX12_school_88 (by decide) ?_
          refine lv_iload hx hb dX12_school_62 (lv_at hl 0 rfl) ?_
          refine lv_bipush (v := 8) hx hb dX12_school_64 (by decide) ?_
          refine lv_icmp_ge (tgt := 91) hx hb dX12_school_66 (by decide) (fun c_ => absurd c_ (by decide)) (fun _ => ?_)
          refine lv_aload_n hx hb dX12_school_69 rfl (lv_at hl 1 rfl) ?_
          refine va_get (D := D) (ci := 10) (v := .ref (r 21)) (C := "TuneSchoolModel") (T := TX12) (N := 71) hx hb ht iX12 hown hK hP 0 rfl rfl 21 (by decide) (ht _ q5_13) (fun _ h9 => h9) rfl dX12_school_70 ?_
          refine lv_bipush (v := 8) hx hb dX12_school_73 (by decide) ?_
          refine lv_aload_n hx hb dX12_school_75 rfl (lv_at hl 1 rfl) ?_
          refine va_get (D := D) (ci := 10) (v := .int 0) (C := "TuneSchoolModel") (T := TX12) (N := 71) hx hb ht iX12 hown hK hP 0 rfl rfl 18 (by decide) (ht _ q5_10) (fun _ h9 => h9) rfl dX12_school_76 ?_
          refine ev_imul (v := 0) hx hb dX12_school_79 (by decide) ?_
          refine lv_iload hx hb dX12_school_80 (lv_at hl 0 rfl) ?_
          refine ev_iadd (v := 6) hx hb dX12_school_82 (by decide) ?_
          refine lv_iconst (v := (-1)) hx hb dX12_school_83 (by decide) ?_
          refine stI hx hb hK hP hD hS 3 rfl (vin (by decide) (by decide)) dX12_school_84 (fun H locs hP hD hS => ?_)
          have hP : va_P D clsL [(h0, .inr (10, oX12 r (va_up fm 0 0))), ((r 19), .inl (k 0, 520, .inl (upd (fun _ => 0) (0 : Int32).toNatClampNeg p1))), ((r 20), .inl (k 0, 520, .inl (upd (fun _ => 0) (0 : Int32).toNatClampNeg p2))), ((r 21), .inl (k 0, 4160, .inl (upd (upd (upd (upd (upd (upd (upd (fun _ => 0) (0 : Int32).toNatClampNeg (-1)) (1 : Int32).toNatClampNeg (-1)) (2 : Int32).toNatClampNeg (-1)) (3 : Int32).toNatClampNeg (-1)) (4 : Int32).toNatClampNeg (-1)) (5 : Int32).toNatClampNeg (-1)) (6 : Int32).toNatClampNeg (-1)))), ((r 22), .inl (k 0, 16, .inl (fun _ => 0))), ((r 23), .inl (k 0, 16, .inl (fun _ => 0)))] H := hP
          have hD : va_D A [(h0, .inr (10, oX12 r (va_up fm 0 0))), ((r 19), .inl (k 0, 520, .inl (upd (fun _ => 0) (0 : Int32).toNatClampNeg p1))), ((r 20), .inl (k 0, 520, .inl (upd (fun _ => 0) (0 : Int32).toNatClampNeg p2))), ((r 21), .inl (k 0, 4160, .inl (upd (upd (upd (upd (upd (upd (upd (fun _ => 0) (0 : Int32).toNatClampNeg (-1)) (1 : Int32).toNatClampNeg (-1)) (2 : Int32).toNatClampNeg (-1)) (3 : Int32).toNatClampNeg (-1)) (4 : Int32).toNatClampNeg (-1)) (5 : Int32).toNatClampNeg (-1)) (6 : Int32).toNatClampNeg (-1)))), ((r 22), .inl (k 0, 16, .inl (fun _ => 0))), ((r 23), .inl (k 0, 16, .inl (fun _ => 0)))] := hD
          refine lv_iinc (v := 7) (lv' := [(4, .int 7), (0, .ref h0), (1, .int p0), (2, .int p1), (3, .int p2)]) hx hb dX12_school_85 hl (k := 0) rfl (by decide) (by decide) rfl (fun ls hl => ?_)
          refine lv_goto (tgt := 62) hx hb dX12_school_88 (by decide) ?_
          refine lv_iload hx hb dX12_school_62 (lv_at hl 0 rfl) ?_
          refine lv_bipush (v := 8) hx hb dX12_school_64 (by decide) ?_
          refine lv_icmp_ge (tgt := 91) hx hb dX12_school_66 (by decide) (fun c_ => absurd c_ (by decide)) (fun _ => ?_)
          refine lv_aload_n hx hb dX12_school_69 rfl (lv_at hl 1 rfl) ?_
          refine va_get (D := D) (ci := 10) (v := .ref (r 21)) (C := "TuneSchoolModel") (T := TX12) (N := 71) hx hb ht iX12 hown hK hP 0 rfl rfl 21 (by decide) (ht _ q5_13) (fun _ h9 => h9) rfl dX12_school_70 ?_
          refine lv_bipush (v := 8) hx hb dX12_school_73 (by decide) ?_
          refine lv_aload_n hx hb dX12_school_75 rfl (lv_at hl 1 rfl) ?_
          refine va_get (D := D) (ci := 10) (v := .int 0) (C := "TuneSchoolModel") (T := TX12) (N := 71) hx hb ht iX12 hown hK hP 0 rfl rfl 18 (by decide) (ht _ q5_10) (fun _ h9 => h9) rfl dX12_school_76 ?_
          refine ev_imul (v := 0) hx hb dX12_school_79 (by decide) ?_
          refine lv_iload hx hb dX12_school_80 (lv_at hl 0 rfl) ?_
          refine ev_iadd (v := 7) hx hb dX12_school_82 (by decide) ?_
          refine lv_iconst (v := (-1)) hx hb dX12_school_83 (by decide) ?_
          refine stI hx hb hK hP hD hS 3 rfl (vin (by decide) (by decide)) dX12_school_84 (fun H locs hP hD hS => ?_)
          have hP : va_P D clsL [(h0, .inr (10, oX12 r (va_up fm 0 0))), ((r 19), .inl (k 0, 520, .inl (upd (fun _ => 0) (0 : Int32).toNatClampNeg p1))), ((r 20), .inl (k 0, 520, .inl (upd (fun _ => 0) (0 : Int32).toNatClampNeg p2))), ((r 21), .inl (k 0, 4160, .inl (upd (upd (upd (upd (upd (upd (upd (upd (fun _ => 0) (0 : Int32).toNatClampNeg (-1)) (1 : Int32).toNatClampNeg (-1)) (2 : Int32).toNatClampNeg (-1)) (3 : Int32).toNatClampNeg (-1)) (4 : Int32).toNatClampNeg (-1)) (5 : Int32).toNatClampNeg (-1)) (6 : Int32).toNatClampNeg (-1)) (7 : Int32).toNatClampNeg (-1)))), ((r 22), .inl (k 0, 16, .inl (fun _ => 0))), ((r 23), .inl (k 0, 16, .inl (fun _ => 0)))] H := hP
          have hD : va_D A [(h0, .inr (10, oX12 r (va_up fm 0 0))), ((r 19), .inl (k 0, 520, .inl (upd (fun _ => 0) (0 : Int32).toNatClampNeg p1))), ((r 20), .inl (k 0, 520, .inl (upd (fun _ => 0) (0 : Int32).toNatClampNeg p2))), ((r 21), .inl (k 0, 4160, .inl (upd (upd (upd (upd (upd (upd (upd (upd (fun _ => 0) (0 : Int32).toNatClampNeg (-1)) (1 : Int32).toNatClampNeg (-1)) (2 : Int32).toNatClampNeg (-1)) (3 : Int32).toNatClampNeg (-1)) (4 : Int32).toNatClampNeg (-1)) (5 : Int32).toNatClampNeg (-1)) (6 : Int32).toNatClampNeg (-1)) (7 : Int32).toNatClampNeg (-1)))), ((r 22), .inl (k 0, 16, .inl (fun _ => 0))), ((r 23), .inl (k 0, 16, .inl (fun _ => 0)))] := hD
          refine lv_iinc (v := 8) (lv' := [(4, .int 8), (0, .ref h0), (1, .int p0), (2, .int p1), (3, .int p2)]) hx hb dX12_school_85 hl (k := 0) rfl (by decide) (by decide) rfl (fun ls hl => ?_)
          refine lv_goto (tgt := 62) hx hb dX12_school_88 (by decide) ?_
          refine lv_iload hx hb dX12_school_62 (lv_at hl 0 rfl) ?_
          refine lv_bipush (v := 8) hx hb dX12_school_64 (by decide) ?_
          refine lv_icmp_ge (tgt := 91) hx hb dX12_school_66 (by decide) (fun _ => ?_) (fun c_ => absurd c_ (by decide))
          refine lv_aload_n hx hb dX12_school_91 rfl (lv_at hl 1 rfl) ?_
          refine va_get (D := D) (ci := 10) (v := .ref (r 22)) (C := "TuneSchoolModel") (T := TX12) (N := 71) hx hb ht iX12 hown hK hP 0 rfl rfl 22 (by decide) (ht _ q5_14) (fun _ h9 => h9) rfl dX12_school_92 ?_
          refine lv_iload_n hx hb dX12_school_95 rfl (lv_at hl 2 rfl) ?_
          refine lv_iconst (v := 2) hx hb dX12_school_96 (by decide) ?_
          refine stI hx hb hK hP hD hS 4 rfl (vin (by omega) (by omega)) dX12_school_97 (fun H locs hP hD hS => ?_)
          have hP : va_P D clsL [(h0, .inr (10, oX12 r (va_up fm 0 0))), ((r 19), .inl (k 0, 520, .inl (upd (fun _ => 0) (0 : Int32).toNatClampNeg p1))), ((r 20), .inl (k 0, 520, .inl (upd (fun _ => 0) (0 : Int32).toNatClampNeg p2))), ((r 21), .inl (k 0, 4160, .inl (upd (upd (upd (upd (upd (upd (upd (upd (fun _ => 0) (0 : Int32).toNatClampNeg (-1)) (1 : Int32).toNatClampNeg (-1)) (2 : Int32).toNatClampNeg (-1)) (3 : Int32).toNatClampNeg (-1)) (4 : Int32).toNatClampNeg (-1)) (5 : Int32).toNatClampNeg (-1)) (6 : Int32).toNatClampNeg (-1)) (7 : Int32).toNatClampNeg (-1)))), ((r 22), .inl (k 0, 16, .inl (upd (fun _ => 0) p0.toNatClampNeg 2))), ((r 23), .inl (k 0, 16, .inl (fun _ => 0)))] H := hP
          have hD : va_D A [(h0, .inr (10, oX12 r (va_up fm 0 0))), ((r 19), .inl (k 0, 520, .inl (upd (fun _ => 0) (0 : Int32).toNatClampNeg p1))), ((r 20), .inl (k 0, 520, .inl (upd (fun _ => 0) (0 : Int32).toNatClampNeg p2))), ((r 21), .inl (k 0, 4160, .inl (upd (upd (upd (upd (upd (upd (upd (upd (fun _ => 0) (0 : Int32).toNatClampNeg (-1)) (1 : Int32).toNatClampNeg (-1)) (2 : Int32).toNatClampNeg (-1)) (3 : Int32).toNatClampNeg (-1)) (4 : Int32).toNatClampNeg (-1)) (5 : Int32).toNatClampNeg (-1)) (6 : Int32).toNatClampNeg (-1)) (7 : Int32).toNatClampNeg (-1)))), ((r 22), .inl (k 0, 16, .inl (upd (fun _ => 0) p0.toNatClampNeg 2))), ((r 23), .inl (k 0, 16, .inl (fun _ => 0)))] := hD
          refine lv_aload_n hx hb dX12_school_98 rfl (lv_at hl 1 rfl) ?_
          refine va_get (D := D) (ci := 10) (v := .ref (r 23)) (C := "TuneSchoolModel") (T := TX12) (N := 71) hx hb ht iX12 hown hK hP 0 rfl rfl 23 (by decide) (ht _ q5_15) (fun _ h9 => h9) rfl dX12_school_99 ?_
          refine lv_iload_n hx hb dX12_school_102 rfl (lv_at hl 2 rfl) ?_
          refine lv_aload_n hx hb dX12_school_103 rfl (lv_at hl 1 rfl) ?_
          refine va_get (D := D) (ci := 10) (v := .int 0) (C := "TuneSchoolModel") (T := TX12) (N := 71) hx hb ht iX12 hown hK hP 0 rfl rfl 18 (by decide) (ht _ q5_10) (fun _ h9 => h9) rfl dX12_school_104 ?_
          refine stI hx hb hK hP hD hS 5 rfl (vin (by omega) (by omega)) dX12_school_107 (fun H locs hP hD hS => ?_)
          have hP : va_P D clsL [(h0, .inr (10, oX12 r (va_up fm 0 0))), ((r 19), .inl (k 0, 520, .inl (upd (fun _ => 0) (0 : Int32).toNatClampNeg p1))), ((r 20), .inl (k 0, 520, .inl (upd (fun _ => 0) (0 : Int32).toNatClampNeg p2))), ((r 21), .inl (k 0, 4160, .inl (upd (upd (upd (upd (upd (upd (upd (upd (fun _ => 0) (0 : Int32).toNatClampNeg (-1)) (1 : Int32).toNatClampNeg (-1)) (2 : Int32).toNatClampNeg (-1)) (3 : Int32).toNatClampNeg (-1)) (4 : Int32).toNatClampNeg (-1)) (5 : Int32).toNatClampNeg (-1)) (6 : Int32).toNatClampNeg (-1)) (7 : Int32).toNatClampNeg (-1)))), ((r 22), .inl (k 0, 16, .inl (upd (fun _ => 0) p0.toNatClampNeg 2))), ((r 23), .inl (k 0, 16, .inl (upd (fun _ => 0) p0.toNatClampNeg 0)))] H := hP
          have hD : va_D A [(h0, .inr (10, oX12 r (va_up fm 0 0))), ((r 19), .inl (k 0, 520, .inl (upd (fun _ => 0) (0 : Int32).toNatClampNeg p1))), ((r 20), .inl (k 0, 520, .inl (upd (fun _ => 0) (0 : Int32).toNatClampNeg p2))), ((r 21), .inl (k 0, 4160, .inl (upd (upd (upd (upd (upd (upd (upd (upd (fun _ => 0) (0 : Int32).toNatClampNeg (-1)) (1 : Int32).toNatClampNeg (-1)) (2 : Int32).toNatClampNeg (-1)) (3 : Int32).toNatClampNeg (-1)) (4 : Int32).toNatClampNeg (-1)) (5 : Int32).toNatClampNeg (-1)) (6 : Int32).toNatClampNeg (-1)) (7 : Int32).toNatClampNeg (-1)))), ((r 22), .inl (k 0, 16, .inl (upd (fun _ => 0) p0.toNatClampNeg 2))), ((r 23), .inl (k 0, 16, .inl (upd (fun _ => 0) p0.toNatClampNeg 0)))] := hD
          refine lv_aload_n hx hb dX12_school_108 rfl (lv_at hl 1 rfl) ?_
          refine lv_dup hx hb dX12_school_109 rfl ?_
          refine va_get (D := D) (ci := 10) (v := .int 0) (C := "TuneSchoolModel") (T := TX12) (N := 71) hx hb ht iX12 hown hK hP 0 rfl rfl 18 (by decide) (ht _ q5_10) (fun _ h9 => h9) rfl dX12_school_110 ?_
          refine lv_iconst (v := 1) hx hb dX12_school_113 (by decide) ?_
          refine ev_iadd (v := 1) hx hb dX12_school_114 (by decide) ?_
          refine va_put (D := D) (ci := 10) (v := .int 1) (ty := .int) (C := "TuneSchoolModel") (T := TX12) (N := 71) hx hb ht iX12 tyX12 tyX12_ok nmX12 hown hK hP hD hS 0 rfl rfl 18 (by decide) (ht _ q5_10) (fun _ h9 => h9) rfl (by decide +kernel) rfl rfl (Nat.le_of_ble_eq_true rfl) dX12_school_115 (fun H locs hP hD hS => ?_)
          have hP : va_P D clsL [(h0, .inr (10, oX12 r (va_up (va_up fm 0 0) 18 1))), ((r 19), .inl (k 0, 520, .inl (upd (fun _ => 0) (0 : Int32).toNatClampNeg p1))), ((r 20), .inl (k 0, 520, .inl (upd (fun _ => 0) (0 : Int32).toNatClampNeg p2))), ((r 21), .inl (k 0, 4160, .inl (upd (upd (upd (upd (upd (upd (upd (upd (fun _ => 0) (0 : Int32).toNatClampNeg (-1)) (1 : Int32).toNatClampNeg (-1)) (2 : Int32).toNatClampNeg (-1)) (3 : Int32).toNatClampNeg (-1)) (4 : Int32).toNatClampNeg (-1)) (5 : Int32).toNatClampNeg (-1)) (6 : Int32).toNatClampNeg (-1)) (7 : Int32).toNatClampNeg (-1)))), ((r 22), .inl (k 0, 16, .inl (upd (fun _ => 0) p0.toNatClampNeg 2))), ((r 23), .inl (k 0, 16, .inl (upd (fun _ => 0) p0.toNatClampNeg 0)))] H := hP
          have hD : va_D A [(h0, .inr (10, oX12 r (va_up (va_up fm 0 0) 18 1))), ((r 19), .inl (k 0, 520, .inl (upd (fun _ => 0) (0 : Int32).toNatClampNeg p1))), ((r 20), .inl (k 0, 520, .inl (upd (fun _ => 0) (0 : Int32).toNatClampNeg p2))), ((r 21), .inl (k 0, 4160, .inl (upd (upd (upd (upd (upd (upd (upd (upd (fun _ => 0) (0 : Int32).toNatClampNeg (-1)) (1 : Int32).toNatClampNeg (-1)) (2 : Int32).toNatClampNeg (-1)) (3 : Int32).toNatClampNeg (-1)) (4 : Int32).toNatClampNeg (-1)) (5 : Int32).toNatClampNeg (-1)) (6 : Int32).toNatClampNeg (-1)) (7 : Int32).toNatClampNeg (-1)))), ((r 22), .inl (k 0, 16, .inl (upd (fun _ => 0) p0.toNatClampNeg 2))), ((r 23), .inl (k 0, 16, .inl (upd (fun _ => 0) p0.toNatClampNeg 0)))] := hD
          refine lv_iconst (v := 1) hx hb dX12_school_118 (by decide) ?_
          exact W.iret (v := 1) hx hb hr (fun t ht hW => ⟨⟨1, (), rfl, (by first | (unfold an_school; (repeat' split) <;> first | rfl | (exfalso; omega)) | rfl | decide), nilP, nilD⟩, hS.F ht⟩) hS.2.2 dX12_school_119
        · skip
          have c_6 := i_nle (a := 0) (b := p2.toInt) (by decide) rfl c_6
          refine lv_aload_n hx hb dX12_school_33 rfl (lv_at hl 0 rfl) ?_
          refine lv_iconst (v := 5) hx hb dX12_school_34 (by decide) ?_
          refine afterI (wr := [((r 19), .inl (k 0, 520, .inl (fun _ => 0))), ((r 20), .inl (k 0, 520, .inl (fun _ => 0))), ((r 21), .inl (k 0, 4160, .inl (fun _ => 0))), ((r 22), .inl (k 0, 16, .inl (fun _ => 0))), ((r 23), .inl (k 0, 16, .inl (fun _ => 0)))]) (xV (fr := 0) (lo := 0) (mc := 0) (ms := 0) (As := [.int 5]) (rest := []) (wc := [(h0, .inr (10, oX12 r (va_up fm 0 0)))]) ⟨hx, hb, hml, hown, ht⟩ (c_X12_finds l D k h0 r (va_up fm 0 0) 5 _) hK hN (hP.sub (ws' := [(h0, .inr (10, oX12 r (va_up fm 0 0)))]) [0] rfl) (hD.sub (ws' := [(h0, .inr (10, oX12 r (va_up fm 0 0)))]) [0] (by decide) rfl) 10 0 rfl rfl rfl q5_217 q5_219 qs_17 q1_6 q5_220 md_X12_finds ⟨by decide, by decide⟩ rfl hl.1 rfl (Nat.le_of_ble_eq_true rfl) dX12_school_35 ⟨by decide, by decide⟩) hP hD hS hA [0] [1, 2, 3, 4, 5] rfl rfl rfl (by decide) (fun r_7 u_8 H locs h_9 hP hD hS => ?_)
          obtain rfl : r_7 = (-15) := h_9.trans (by decide)
          have hP : va_P D clsL [((r 19), .inl (k 0, 520, .inl (fun _ => 0))), ((r 20), .inl (k 0, 520, .inl (fun _ => 0))), ((r 21), .inl (k 0, 4160, .inl (fun _ => 0))), ((r 22), .inl (k 0, 16, .inl (fun _ => 0))), ((r 23), .inl (k 0, 16, .inl (fun _ => 0)))] H := hP
          have hD : va_D A [((r 19), .inl (k 0, 520, .inl (fun _ => 0))), ((r 20), .inl (k 0, 520, .inl (fun _ => 0))), ((r 21), .inl (k 0, 4160, .inl (fun _ => 0))), ((r 22), .inl (k 0, 16, .inl (fun _ => 0))), ((r 23), .inl (k 0, 16, .inl (fun _ => 0)))] := hD
          exact W.iret (v := (-15)) hx hb hr (fun t ht hW => ⟨⟨(-15), (), rfl, (by first | (unfold an_school; (repeat' split) <;> first | rfl | (exfalso; omega)) | rfl | decide), nilP, nilD⟩, hS.F ht⟩) hS.2.2 dX12_school_38
      · skip
        have c_5 := i_nle (a := p2.toInt) (b := 8) rfl (by decide) c_5
        refine lv_iconst (v := (-1)) hx hb dX12_school_22 (by decide) ?_
        exact W.iret (v := (-1)) hx hb hr (fun t ht hW => ⟨⟨(-1), (), rfl, (by first | (unfold an_school; (repeat' split) <;> first | rfl | (exfalso; omega)) | rfl | decide), nilP, nilD⟩, hS.F ht⟩) hS.2.2 dX12_school_23
    · skip
      refine lv_if_eq (tgt := 22) hx hb dX12_school_13 (by decide) (fun _ => ?_) (fun c_ => absurd c_ (by decide))
      refine lv_iconst (v := (-1)) hx hb dX12_school_22 (by decide) ?_
      exact W.iret (v := (-1)) hx hb hr (fun t ht hW => ⟨⟨(-1), (), rfl, (by first | (unfold an_school; (repeat' split) <;> first | rfl | (exfalso; omega)) | rfl | decide), nilP, nilD⟩, hS.F ht⟩) hS.2.2 dX12_school_23
  · skip
    refine lv_if_eq (tgt := 22) hx hb dX12_school_4 (by decide) (fun _ => ?_) (fun c_ => absurd c_ (by decide))
    refine lv_iconst (v := (-1)) hx hb dX12_school_22 (by decide) ?_
    exact W.iret (v := (-1)) hx hb hr (fun t ht hW => ⟨⟨(-1), (), rfl, (by first | (unfold an_school; (repeat' split) <;> first | rfl | (exfalso; omega)) | rfl | decide), nilP, nilD⟩, hS.F ht⟩) hS.2.2 dX12_school_23
set_option maxHeartbeats 400000 in
set_option maxRecDepth 100000 in
theorem c_X12_drop (l : Launch) (D : va_G) (k : Nat → ClassId) (h0 : Nat) (r : Nat → Nat) (p0 : Int32)  : CI l yX12_drop cX12_drop 3 (some .int) 2 42 0 0 D k [(h0, .inr (10, oX12 r fm)), ((r 2), .inl (k 1, 6, .inl (fun _ => 0))), ((r 3), .inl (k 0, 12, .inl (fun _ => 0))), ((r 4), .inl (k 0, 288, .inl (fun _ => 0))), ((r 8), .inl (k 0, 2, .inl (fun _ => 0))), ((r 9), .inl (k 0, 48, .inl (fun _ => 0)))] [.ref h0, .int p0] (S := Unit) (fun (r : Int32) (_ : Unit) => r = an_drop p0) (fun _ => ([] : va_W)) := by
  intro sz
  refine mtX (Qc := fun A => va_Qi (S := Unit) (fun (r : Int32) (_ : Unit) => r = an_drop p0) (fun u t => WX D A ((fun _ => ([] : va_W)) u) t) A) (free := fun A => A) (by decide) (Nat.le_of_ble_eq_true rfl) ?_
  intro p e s m below meth c ls A hB hl
  obtain ⟨hx, hb, hml, hr, hlocks, hnm, hown, ht, hK, hN, hA, hP, hD, hS⟩ := hB
  have hl : lv_has ls 3 [(0, .ref h0), (1, .int p0)] := hl
  refine lv_iload_n hx hb dX12_drop_0 rfl (lv_at hl 1 rfl) ?_
  refine afterP (xS (fr := 1) (lo := 22) (mc := 0) (ms := 0) (As := [.int p0]) (rest := []) (wc := []) ⟨hx, hb, hml, hown, ht⟩ (c_X12_isVoice l D k p0 _) hK hN nilP (nilD (A := A)) q5_211 q5_212 q1_6 q5_213 md_X12_isVoice ⟨by decide, by decide⟩ rfl hl.1 rfl (Nat.le_of_ble_eq_true rfl) dX12_drop_1 ⟨by decide, by decide⟩) (fun r_1 h_2 => ?_)
  rcases h_2 with ⟨rfl, h_2⟩ | ⟨rfl, h_2⟩
  · skip
    refine lv_if_ne (tgt := 9) hx hb dX12_drop_4 (by decide) (fun _ => ?_) (fun c_ => absurd c_ (by decide))
    refine lv_aload_n hx hb dX12_drop_9 rfl (lv_at hl 0 rfl) ?_
    refine lv_iconst (v := 0) hx hb dX12_drop_10 (by decide) ?_
    refine va_put (D := D) (ci := 10) (v := .int 0) (ty := .int) (C := "TuneSchoolModel") (T := TX12) (N := 71) hx hb ht iX12 tyX12 tyX12_ok nmX12 hown hK hP hD hS 0 rfl rfl 0 (by decide) (ht _ q4_232) (fun _ h9 => h9) rfl (by decide +kernel) rfl rfl (Nat.le_of_ble_eq_true rfl) dX12_drop_11 (fun H locs hP hD hS => ?_)
    have hP : va_P D clsL [(h0, .inr (10, oX12 r (va_up fm 0 0))), ((r 2), .inl (k 1, 6, .inl (fun _ => 0))), ((r 3), .inl (k 0, 12, .inl (fun _ => 0))), ((r 4), .inl (k 0, 288, .inl (fun _ => 0))), ((r 8), .inl (k 0, 2, .inl (fun _ => 0))), ((r 9), .inl (k 0, 48, .inl (fun _ => 0)))] H := hP
    have hD : va_D A [(h0, .inr (10, oX12 r (va_up fm 0 0))), ((r 2), .inl (k 1, 6, .inl (fun _ => 0))), ((r 3), .inl (k 0, 12, .inl (fun _ => 0))), ((r 4), .inl (k 0, 288, .inl (fun _ => 0))), ((r 8), .inl (k 0, 2, .inl (fun _ => 0))), ((r 9), .inl (k 0, 48, .inl (fun _ => 0)))] := hD
    refine lv_aload_n hx hb dX12_drop_14 rfl (lv_at hl 0 rfl) ?_
    refine lv_iload_n hx hb dX12_drop_15 rfl (lv_at hl 1 rfl) ?_
    refine afterV (wr := []) (xV (fr := 0) (lo := 0) (mc := 0) (ms := 0) (As := [.int p0]) (rest := []) (wc := [(h0, .inr (10, oX12 r (va_up fm 0 0))), ((r 2), .inl (k 1, 6, .inl (fun _ => 0))), ((r 3), .inl (k 0, 12, .inl (fun _ => 0))), ((r 4), .inl (k 0, 288, .inl (fun _ => 0))), ((r 8), .inl (k 0, 2, .inl (fun _ => 0))), ((r 9), .inl (k 0, 48, .inl (fun _ => 0)))]) ⟨hx, hb, hml, hown, ht⟩ (c_X12_keep l D k h0 r (va_up fm 0 0) p0 (by omega) (by omega) _) hK hN (hP.sub (ws' := [(h0, .inr (10, oX12 r (va_up fm 0 0))), ((r 2), .inl (k 1, 6, .inl (fun _ => 0))), ((r 3), .inl (k 0, 12, .inl (fun _ => 0))), ((r 4), .inl (k 0, 288, .inl (fun _ => 0))), ((r 8), .inl (k 0, 2, .inl (fun _ => 0))), ((r 9), .inl (k 0, 48, .inl (fun _ => 0)))]) [0, 1, 2, 3, 4, 5] rfl) (hD.sub (ws' := [(h0, .inr (10, oX12 r (va_up fm 0 0))), ((r 2), .inl (k 1, 6, .inl (fun _ => 0))), ((r 3), .inl (k 0, 12, .inl (fun _ => 0))), ((r 4), .inl (k 0, 288, .inl (fun _ => 0))), ((r 8), .inl (k 0, 2, .inl (fun _ => 0))), ((r 9), .inl (k 0, 48, .inl (fun _ => 0)))]) [0, 1, 2, 3, 4, 5] (by decide) rfl) 10 0 rfl rfl rfl q5_221 q5_223 qs_18 q1_6 q5_224 md_X12_keep ⟨by decide, by decide⟩ rfl hl.1 rfl (Nat.le_of_ble_eq_true rfl) dX12_drop_16 ⟨by decide, by decide⟩) hP hD hS hA [0, 1, 2, 3, 4, 5] [] rfl rfl rfl (by decide) (fun u_4 H locs h_5 hP hD hS => ?_)
    have hP : va_P D clsL [(h0, .inr (10, oX12 r (va_up (va_up (va_up (va_up fm 0 0) 5 1) 6 p0) 7 0))), ((r 2), .inl (k 1, 6, .inl (fun _ => 0))), ((r 3), .inl (k 0, 12, .inl (fun _ => 0))), ((r 4), .inl (k 0, 288, .inl (fun _ => 0)))] H := hP
    have hD : va_D A [(h0, .inr (10, oX12 r (va_up (va_up (va_up (va_up fm 0 0) 5 1) 6 p0) 7 0))), ((r 2), .inl (k 1, 6, .inl (fun _ => 0))), ((r 3), .inl (k 0, 12, .inl (fun _ => 0))), ((r 4), .inl (k 0, 288, .inl (fun _ => 0)))] := hD
    refine lv_aload_n hx hb dX12_drop_19 rfl (lv_at hl 0 rfl) ?_
    refine va_get (D := D) (ci := 10) (v := .ref (r 2)) (C := "TuneSchoolModel") (T := TX12) (N := 71) hx hb ht iX12 hown hK hP 0 rfl rfl 2 (by decide) (ht _ q4_234) (fun _ h9 => h9) rfl dX12_drop_20 ?_
    refine lv_iload_n hx hb dX12_drop_23 rfl (lv_at hl 1 rfl) ?_
    refine ldZ (v := 0) hx hb hK hP 1 rfl (vin (by omega) (by omega)) rfl dX12_drop_24 ?_
    refine lv_if_eq (tgt := 32) hx hb dX12_drop_25 (by decide) (fun _ => ?_) (fun c_ => absurd c_ (by decide))
    refine lv_iconst (v := 0) hx hb dX12_drop_32 (by decide) ?_
    refine lv_istore_n (lv' := [(2, .int 0), (0, .ref h0), (1, .int p0)]) hx hb dX12_drop_33 rfl hl (by decide) rfl (fun ls hl => ?_)
    refine lv_aload_n hx hb dX12_drop_34 rfl (lv_at hl 1 rfl) ?_
    refine va_get (D := D) (ci := 10) (v := .ref (r 2)) (C := "TuneSchoolModel") (T := TX12) (N := 71) hx hb ht iX12 hown hK hP 0 rfl rfl 2 (by decide) (ht _ q4_234) (fun _ h9 => h9) rfl dX12_drop_35 ?_
    refine lv_iload_n hx hb dX12_drop_38 rfl (lv_at hl 2 rfl) ?_
    refine lv_iconst (v := 0) hx hb dX12_drop_39 (by decide) ?_
    refine stZ hx hb hK hP hD hS 1 rfl (vin (by omega) (by omega)) dX12_drop_40 (fun H locs hP hD hS => ?_)
    have hP : va_P D clsL [(h0, .inr (10, oX12 r (va_up (va_up (va_up (va_up fm 0 0) 5 1) 6 p0) 7 0))), ((r 2), .inl (k 1, 6, .inl (upd (fun _ => 0) p0.toNatClampNeg (vp_nar .boolean 0)))), ((r 3), .inl (k 0, 12, .inl (fun _ => 0))), ((r 4), .inl (k 0, 288, .inl (fun _ => 0)))] H := hP
    have hD : va_D A [(h0, .inr (10, oX12 r (va_up (va_up (va_up (va_up fm 0 0) 5 1) 6 p0) 7 0))), ((r 2), .inl (k 1, 6, .inl (upd (fun _ => 0) p0.toNatClampNeg (vp_nar .boolean 0)))), ((r 3), .inl (k 0, 12, .inl (fun _ => 0))), ((r 4), .inl (k 0, 288, .inl (fun _ => 0)))] := hD
    refine lv_iload_n hx hb dX12_drop_41 rfl (lv_at hl 0 rfl) ?_
    exact W.iret (v := 0) hx hb hr (fun t ht hW => ⟨⟨0, (), rfl, (by first | (unfold an_drop; (repeat' split) <;> first | rfl | (exfalso; omega)) | rfl | decide), nilP, nilD⟩, hS.F ht⟩) hS.2.2 dX12_drop_42
  · skip
    refine lv_if_ne (tgt := 9) hx hb dX12_drop_4 (by decide) (fun c_ => absurd c_ (by decide)) (fun _ => ?_)
    refine lv_iconst (v := (-1)) hx hb dX12_drop_7 (by decide) ?_
    exact W.iret (v := (-1)) hx hb hr (fun t ht hW => ⟨⟨(-1), (), rfl, (by first | (unfold an_drop; (repeat' split) <;> first | rfl | (exfalso; omega)) | rfl | decide), nilP, nilD⟩, hS.F ht⟩) hS.2.2 dX12_drop_8
set_option maxHeartbeats 400000 in
set_option maxRecDepth 100000 in
theorem c_X12_count (l : Launch) (D : va_G) (k : Nat → ClassId) (h0 : Nat) (r : Nat → Nat) (p0 : Int32)  : CI l yX12_count cX12_count 4 (some .int) 0 0 0 0 D k [(h0, .inr (10, oX12 r fm)), ((r 2), .inl (k 1, 6, .inl (fun _ => 0))), ((r 22), .inl (k 0, 16, .inl (fun _ => 0)))] [.ref h0, .int p0] (S := Unit) (fun (r : Int32) (_ : Unit) => r = an_count p0) (fun _ => ([] : va_W)) := by
  intro sz
  refine mtX (Qc := fun A => va_Qi (S := Unit) (fun (r : Int32) (_ : Unit) => r = an_count p0) (fun u t => WX D A ((fun _ => ([] : va_W)) u) t) A) (free := fun A => A) (by decide) (Nat.le_of_ble_eq_true rfl) ?_
  intro p e s m below meth c ls A hB hl
  obtain ⟨hx, hb, hml, hr, hlocks, hnm, hown, ht, hK, hN, hA, hP, hD, hS⟩ := hB
  have hl : lv_has ls 4 [(0, .ref h0), (1, .int p0)] := hl
  refine lv_iconst (v := 0) hx hb dX12_count_0 (by decide) ?_
  refine lv_istore_n (lv' := [(2, .int 0), (0, .ref h0), (1, .int p0)]) hx hb dX12_count_1 rfl hl (by decide) rfl (fun ls hl => ?_)
  refine lv_iload_n hx hb dX12_count_2 rfl (lv_at hl 2 rfl) ?_
  rcases (show (p0.toInt < 0 ∨ 7 < p0.toInt) ∨ p0.toInt = 0 ∨ p0.toInt = 1 ∨ p0.toInt = 2 ∨ p0.toInt = 3 ∨ p0.toInt = 4 ∨ p0.toInt = 5 ∨ p0.toInt = 6 ∨ p0.toInt = 7 by omega) with c_1 | c_1 | c_1 | c_1 | c_1 | c_1 | c_1 | c_1 | c_1
  · skip
    refine lv_tableOut (tgt := 163) hx hb dX12_count_3 c_1 (by decide) ?_
    refine lv_iconst (v := (-1)) hx hb dX12_count_163 (by decide) ?_
    exact W.iret (v := (-1)) hx hb hr (fun t ht hW => ⟨⟨(-1), (), rfl, (by first | (unfold an_count; (repeat' split) <;> first | rfl | (exfalso; omega)) | rfl | decide), nilP, nilD⟩, hS.F ht⟩) hS.2.2 dX12_count_164
  · skip
    obtain rfl : p0 = 0 := eqI (by decide) c_1
    refine lv_tableIn (off := 45) (tgt := 48) hx hb dX12_count_3 (by decide) (by decide) (by decide) (by decide) ?_
    refine lv_aload_n hx hb dX12_count_48 rfl (lv_at hl 1 rfl) ?_
    refine va_get (D := D) (ci := 10) (v := .int 0) (C := "TuneSchoolModel") (T := TX12) (N := 71) hx hb ht iX12 hown hK hP 0 rfl rfl 30 (by decide) (ht _ q5_22) (fun _ h9 => h9) rfl dX12_count_49 ?_
    exact W.iret (v := 0) hx hb hr (fun t ht hW => ⟨⟨0, (), rfl, (by first | (unfold an_count; (repeat' split) <;> first | rfl | (exfalso; omega)) | rfl | decide), nilP, nilD⟩, hS.F ht⟩) hS.2.2 dX12_count_52
  · skip
    obtain rfl : p0 = 1 := eqI (by decide) c_1
    refine lv_tableIn (off := 50) (tgt := 53) hx hb dX12_count_3 (by decide) (by decide) (by decide) (by decide) ?_
    refine lv_aload_n hx hb dX12_count_53 rfl (lv_at hl 1 rfl) ?_
    refine va_get (D := D) (ci := 10) (v := .int 0) (C := "TuneSchoolModel") (T := TX12) (N := 71) hx hb ht iX12 hown hK hP 0 rfl rfl 1 (by decide) (ht _ q4_233) (fun _ h9 => h9) rfl dX12_count_54 ?_
    exact W.iret (v := 0) hx hb hr (fun t ht hW => ⟨⟨0, (), rfl, (by first | (unfold an_count; (repeat' split) <;> first | rfl | (exfalso; omega)) | rfl | decide), nilP, nilD⟩, hS.F ht⟩) hS.2.2 dX12_count_57
  · skip
    obtain rfl : p0 = 2 := eqI (by decide) c_1
    refine lv_tableIn (off := 55) (tgt := 58) hx hb dX12_count_3 (by decide) (by decide) (by decide) (by decide) ?_
    refine lv_aload_n hx hb dX12_count_58 rfl (lv_at hl 1 rfl) ?_
    refine va_get (D := D) (ci := 10) (v := .int 0) (C := "TuneSchoolModel") (T := TX12) (N := 71) hx hb ht iX12 hown hK hP 0 rfl rfl 28 (by decide) (ht _ q5_20) (fun _ h9 => h9) rfl dX12_count_59 ?_
    exact W.iret (v := 0) hx hb hr (fun t ht hW => ⟨⟨0, (), rfl, (by first | (unfold an_count; (repeat' split) <;> first | rfl | (exfalso; omega)) | rfl | decide), nilP, nilD⟩, hS.F ht⟩) hS.2.2 dX12_count_62
  · skip
    obtain rfl : p0 = 3 := eqI (by decide) c_1
    refine lv_tableIn (off := 60) (tgt := 63) hx hb dX12_count_3 (by decide) (by decide) (by decide) (by decide) ?_
    refine lv_iconst (v := 0) hx hb dX12_count_63 (by decide) ?_
    refine lv_istore_n (lv' := [(3, .int 0), (2, .int 0), (0, .ref h0), (1, .int 3)]) hx hb dX12_count_64 rfl hl (by decide) rfl (fun ls hl => ?_)
    refine lv_iload_n hx hb dX12_count_65 rfl (lv_at hl 0 rfl) ?_
    refine lv_bipush (v := 6) hx hb dX12_count_66 (by decide) ?_
    refine lv_icmp_ge (tgt := 94) hx hb dX12_count_68 (by decide) (fun c_ => absurd c_ (by decide)) (fun _ => ?_)
    refine lv_iload_n hx hb dX12_count_71 rfl (lv_at hl 1 rfl) ?_
    refine lv_aload_n hx hb dX12_count_72 rfl (lv_at hl 2 rfl) ?_
    refine va_get (D := D) (ci := 10) (v := .ref (r 2)) (C := "TuneSchoolModel") (T := TX12) (N := 71) hx hb ht iX12 hown hK hP 0 rfl rfl 2 (by decide) (ht _ q4_234) (fun _ h9 => h9) rfl dX12_count_73 ?_
    refine lv_iload_n hx hb dX12_count_76 rfl (lv_at hl 0 rfl) ?_
    refine ldZ (v := 0) hx hb hK hP 1 rfl (vin (by decide) (by decide)) rfl dX12_count_77 ?_
    refine lv_if_eq (tgt := 85) hx hb dX12_count_78 (by decide) (fun _ => ?_) (fun c_ => absurd c_ (by decide))
    refine lv_iconst (v := 0) hx hb dX12_count_85 (by decide) ?_
    refine ev_iadd (v := 0) hx hb dX12_count_86 (by decide) ?_
    refine lv_istore_n (lv' := [(2, .int 0), (3, .int 0), (0, .ref h0), (1, .int 3)]) hx hb dX12_count_87 rfl hl (by decide) rfl (fun ls hl => ?_)
    refine lv_iinc (v := 1) (lv' := [(3, .int 1), (2, .int 0), (0, .ref h0), (1, .int 3)]) hx hb dX12_count_88 hl (k := 1) rfl (by decide) (by decide) rfl (fun ls hl => ?_)
    refine lv_goto (tgt := 65) hx hb dX12_count_91 (by decide) ?_
    refine lv_iload_n hx hb dX12_count_65 rfl (lv_at hl 0 rfl) ?_
    refine lv_bipush (v := 6) hx hb dX12_count_66 (by decide) ?_
    refine lv_icmp_ge (tgt := 94) hx hb dX12_count_68 (by decide) (fun c_ => absurd c_ (by decide)) (fun _ => ?_)
    refine lv_iload_n hx hb dX12_count_71 rfl (lv_at hl 1 rfl) ?_
    refine lv_aload_n hx hb dX12_count_72 rfl (lv_at hl 2 rfl) ?_
    refine va_get (D := D) (ci := 10) (v := .ref (r 2)) (C := "TuneSchoolModel") (T := TX12) (N := 71) hx hb ht iX12 hown hK hP 0 rfl rfl 2 (by decide) (ht _ q4_234) (fun _ h9 => h9) rfl dX12_count_73 ?_
    refine lv_iload_n hx hb dX12_count_76 rfl (lv_at hl 0 rfl) ?_
    refine ldZ (v := 0) hx hb hK hP 1 rfl (vin (by decide) (by decide)) rfl dX12_count_77 ?_
    refine lv_if_eq (tgt := 85) hx hb dX12_count_78 (by decide) (fun _ => ?_) (fun c_ => absurd c_ (by decide))
    refine lv_iconst (v := 0) hx hb dX12_count_85 (by decide) ?_
    refine ev_iadd (v := 0) hx hb dX12_count_86 (by decide) ?_
    refine lv_istore_n (lv' := [(2, .int 0), (3, .int 1), (0, .ref h0), (1, .int 3)]) hx hb dX12_count_87 rfl hl (by decide) rfl (fun ls hl => ?_)
    refine lv_iinc (v := 2) (lv' := [(3, .int 2), (2, .int 0), (0, .ref h0), (1, .int 3)]) hx hb dX12_count_88 hl (k := 1) rfl (by decide) (by decide) rfl (fun ls hl => ?_)
    refine lv_goto (tgt := 65) hx hb dX12_count_91 (by decide) ?_
    refine lv_iload_n hx hb dX12_count_65 rfl (lv_at hl 0 rfl) ?_
    refine lv_bipush (v := 6) hx hb dX12_count_66 (by decide) ?_
    refine lv_icmp_ge (tgt := 94) hx hb dX12_count_68 (by decide) (fun c_ => absurd c_ (by decide)) (fun _ => ?_)
    refine lv_iload_n hx hb dX12_count_71 rfl (lv_at hl 1 rfl) ?_
    refine lv_aload_n hx hb dX12_count_72 rfl (lv_at hl 2 rfl) ?_
    refine va_get (D := D) (ci := 10) (v := .ref (r 2)) (C := "TuneSchoolModel") (T := TX12) (N := 71) hx hb ht iX12 hown hK hP 0 rfl rfl 2 (by decide) (ht _ q4_234) (fun _ h9 => h9) rfl dX12_count_73 ?_
    refine lv_iload_n hx hb dX12_count_76 rfl (lv_at hl 0 rfl) ?_
    refine ldZ (v := 0) hx hb hK hP 1 rfl (vin (by decide) (by decide)) rfl dX12_count_77 ?_
    refine lv_if_eq (tgt := 85) hx hb dX12_count_78 (by decide) (fun _ => ?_) (fun c_ => absurd c_ (by decide))
    refine lv_iconst (v := 0) hx hb dX12_count_85 (by decide) ?_
    refine ev_iadd (v := 0) hx hb dX12_count_86 (by decide) ?_
    refine lv_istore_n (lv' := [(2, .int 0), (3, .int 2), (0, .ref h0), (1, .int 3)]) hx hb dX12_count_87 rfl hl (by decide) rfl (fun ls hl => ?_)
    refine lv_iinc (v := 3) (lv' := [(3, .int 3), (2, .int 0), (0, .ref h0), (1, .int 3)]) hx hb dX12_count_88 hl (k := 1) rfl (by decide) (by decide) rfl (fun ls hl => ?_)
    refine lv_goto (tgt := 65) hx hb dX12_count_91 (by decide) ?_
    refine lv_iload_n hx hb dX12_count_65 rfl (lv_at hl 0 rfl) ?_
    refine lv_bipush (v := 6) hx hb dX12_count_66 (by decide) ?_
    refine lv_icmp_ge (tgt := 94) hx hb dX12_count_68 (by decide) (fun c_ => absurd c_ (by decide)) (fun _ => ?_)
    refine lv_iload_n hx hb dX12_count_71 rfl (lv_at hl 1 rfl) ?_
    refine lv_aload_n hx hb dX12_count_72 rfl (lv_at hl 2 rfl) ?_
    refine va_get (D := D) (ci := 10) (v := .ref (r 2)) (C := "TuneSchoolModel") (T := TX12) (N := 71) hx hb ht iX12 hown hK hP 0 rfl rfl 2 (by decide) (ht _ q4_234) (fun _ h9 => h9) rfl dX12_count_73 ?_
    refine lv_iload_n hx hb dX12_count_76 rfl (lv_at hl 0 rfl) ?_
    refine ldZ (v := 0) hx hb hK hP 1 rfl (vin (by decide) (by decide)) rfl dX12_count_77 ?_
    refine lv_if_eq (tgt := 85) hx hb dX12_count_78 (by decide) (fun _ => ?_) (fun c_ => absurd c_ (by decide))
    refine lv_iconst (v := 0) hx hb dX12_count_85 (by decide) ?_
    refine ev_iadd (v := 0) hx hb dX12_count_86 (by decide) ?_
    refine lv_istore_n (lv' := [(2, .int 0), (3, .int 3), (0, .ref h0), (1, .int 3)]) hx hb dX12_count_87 rfl hl (by decide) rfl (fun ls hl => ?_)
    refine lv_iinc (v := 4) (lv' := [(3, .int 4), (2, .int 0), (0, .ref h0), (1, .int 3)]) hx hb dX12_count_88 hl (k := 1) rfl (by decide) (by decide) rfl (fun ls hl => ?_)
    refine lv_goto (tgt := 65) hx hb dX12_count_91 (by decide) ?_
    refine lv_iload_n hx hb dX12_count_65 rfl (lv_at hl 0 rfl) ?_
    refine lv_bipush (v := 6) hx hb dX12_count_66 (by decide) ?_
    refine lv_icmp_ge (tgt := 94) hx hb dX12_count_68 (by decide) (fun c_ => absurd c_ (by decide)) (fun _ => ?_)
    refine lv_iload_n hx hb dX12_count_71 rfl (lv_at hl 1 rfl) ?_
    refine lv_aload_n hx hb dX12_count_72 rfl (lv_at hl 2 rfl) ?_
    refine va_get (D := D) (ci := 10) (v := .ref (r 2)) (C := "TuneSchoolModel") (T := TX12) (N := 71) hx hb ht iX12 hown hK hP 0 rfl rfl 2 (by decide) (ht _ q4_234) (fun _ h9 => h9) rfl dX12_count_73 ?_
    refine lv_iload_n hx hb dX12_count_76 rfl (lv_at hl 0 rfl) ?_
    refine ldZ (v := 0) hx hb hK hP 1 rfl (vin (by decide) (by decide)) rfl dX12_count_77 ?_
    refine lv_if_eq (tgt := 85) hx hb dX12_count_78 (by decide) (fun _ => ?_) (fun c_ => absurd c_ (by decide))
    refine lv_iconst (v := 0) hx hb dX12_count_85 (by decide) ?_
    refine ev_iadd (v := 0) hx hb dX12_count_86 (by decide) ?_
    refine lv_istore_n (lv' := [(2, .int 0), (3, .int 4), (0, .ref h0), (1, .int 3)]) hx hb dX12_count_87 rfl hl (by decide) rfl (fun ls hl => ?_)
    refine lv_iinc (v := 5) (lv' := [(3, .int 5), (2, .int 0), (0, .ref h0), (1, .int 3)]) hx hb dX12_count_88 hl (k := 1) rfl (by decide) (by decide) rfl (fun ls hl => ?_)
    refine lv_goto (tgt := 65) hx hb dX12_count_91 (by decide) ?_
    refine lv_iload_n hx hb dX12_count_65 rfl (lv_at hl 0 rfl) ?_
    refine lv_bipush (v := 6) hx hb dX12_count_66 (by decide) ?_
    refine lv_icmp_ge (tgt := 94) hx hb dX12_count_68 (by decide) (fun c_ => absurd c_ (by decide)) (fun _ => ?_)
    refine lv_iload_n hx hb dX12_count_71 rfl (lv_at hl 1 rfl) ?_
    refine lv_aload_n hx hb dX12_count_72 rfl (lv_at hl 2 rfl) ?_
    refine va_get (D := D) (ci := 10) (v := .ref (r 2)) (C := "TuneSchoolModel") (T := TX12) (N := 71) hx hb ht iX12 hown hK hP 0 rfl rfl 2 (by decide) (ht _ q4_234) (fun _ h9 => h9) rfl dX12_count_73 ?_
    refine lv_iload_n hx hb dX12_count_76 rfl (lv_at hl 0 rfl) ?_
    refine ldZ (v := 0) hx hb hK hP 1 rfl (vin (by decide) (by decide)) rfl dX12_count_77 ?_
    refine lv_if_eq (tgt := 85) hx hb dX12_count_78 (by decide) (fun _ => ?_) (fun c_ => absurd c_ (by decide))
    refine lv_iconst (v := 0) hx hb dX12_count_85 (by decide) ?_
    refine ev_iadd (v := 0) hx hb dX12_count_86 (by decide) ?_
    refine lv_istore_n (lv' := [(2, .int 0), (3, .int 5), (0, .ref h0), (1, .int 3)]) hx hb dX12_count_87 rfl hl (by decide) rfl (fun ls hl => ?_)
    refine lv_iinc (v := 6) (lv' := [(3, .int 6), (2, .int 0), (0, .ref h0), (1, .int 3)]) hx hb dX12_count_88 hl (k := 1) rfl (by decide) (by decide) rfl (fun ls hl => ?_)
    refine lv_goto (tgt := 65) hx hb dX12_count_91 (by decide) ?_
    refine lv_iload_n hx hb dX12_count_65 rfl (lv_at hl 0 rfl) ?_
    refine lv_bipush (v := 6) hx hb dX12_count_66 (by decide) ?_
    refine lv_icmp_ge (tgt := 94) hx hb dX12_count_68 (by decide) (fun _ => ?_) (fun c_ => absurd c_ (by decide))
    refine lv_iload_n hx hb dX12_count_94 rfl (lv_at hl 1 rfl) ?_
    exact W.iret (v := 0) hx hb hr (fun t ht hW => ⟨⟨0, (), rfl, (by first | (unfold an_count; (repeat' split) <;> first | rfl | (exfalso; omega)) | rfl | decide), nilP, nilD⟩, hS.F ht⟩) hS.2.2 dX12_count_95
  · skip
    obtain rfl : p0 = 4 := eqI (by decide) c_1
    refine lv_tableIn (off := 93) (tgt := 96) hx hb dX12_count_3 (by decide) (by decide) (by decide) (by decide) ?_
    refine lv_iconst (v := 0) hx hb dX12_count_96 (by decide) ?_
    refine lv_istore_n (lv' := [(3, .int 0), (2, .int 0), (0, .ref h0), (1, .int 4)]) hx hb dX12_count_97 rfl hl (by decide) rfl (fun ls hl => ?_)
    refine lv_iload_n hx hb dX12_count_98 rfl (lv_at hl 0 rfl) ?_
    refine lv_bipush (v := 16) hx hb dX12_count_99 (by decide) ?_
    refine lv_icmp_ge (tgt := 127) hx hb dX12_count_101 (by decide) (fun c_ => absurd c_ (by decide)) (fun _ => ?_)
    refine lv_iload_n hx hb dX12_count_104 rfl (lv_at hl 1 rfl) ?_
    refine lv_aload_n hx hb dX12_count_105 rfl (lv_at hl 2 rfl) ?_
    refine va_get (D := D) (ci := 10) (v := .ref (r 22)) (C := "TuneSchoolModel") (T := TX12) (N := 71) hx hb ht iX12 hown hK hP 0 rfl rfl 22 (by decide) (ht _ q5_14) (fun _ h9 => h9) rfl dX12_count_106 ?_
    refine lv_iload_n hx hb dX12_count_109 rfl (lv_at hl 0 rfl) ?_
    refine ldI (v := 0) hx hb hK hP 2 rfl (vin (by decide) (by decide)) rfl dX12_count_110 ?_
    refine lv_if_le (tgt := 118) hx hb dX12_count_111 (by decide) (fun _ => ?_) (fun c_ => absurd c_ (by decide))
    refine lv_iconst (v := 0) hx hb dX12_count_118 (by decide) ?_
    refine ev_iadd (v := 0) hx hb dX12_count_119 (by decide) ?_
    refine lv_istore_n (lv' := [(2, .int 0), (3, .int 0), (0, .ref h0), (1, .int 4)]) hx hb dX12_count_120 rfl hl (by decide) rfl (fun ls hl => ?_)
    refine lv_iinc (v := 1) (lv' := [(3, .int 1), (2, .int 0), (0, .ref h0), (1, .int 4)]) hx hb dX12_count_121 hl (k := 1) rfl (by decide) (by decide) rfl (fun ls hl => ?_)
    refine lv_goto (tgt := 98) hx hb dX12_count_124 (by decide) ?_
    refine lv_iload_n hx hb dX12_count_98 rfl (lv_at hl 0 rfl) ?_
    refine lv_bipush (v := 16) hx hb dX12_count_99 (by decide) ?_
    refine lv_icmp_ge (tgt := 127) hx hb dX12_count_101 (by decide) (fun c_ => absurd c_ (by decide)) (fun _ => ?_)
    refine lv_iload_n hx hb dX12_count_104 rfl (lv_at hl 1 rfl) ?_
    refine lv_aload_n hx hb dX12_count_105 rfl (lv_at hl 2 rfl) ?_
    refine va_get (D := D) (ci := 10) (v := .ref (r 22)) (C := "TuneSchoolModel") (T := TX12) (N := 71) hx hb ht iX12 hown hK hP 0 rfl rfl 22 (by decide) (ht _ q5_14) (fun _ h9 => h9) rfl dX12_count_106 ?_
    refine lv_iload_n hx hb dX12_count_109 rfl (lv_at hl 0 rfl) ?_
    refine ldI (v := 0) hx hb hK hP 2 rfl (vin (by decide) (by decide)) rfl dX12_count_110 ?_
    refine lv_if_le (tgt := 118) hx hb dX12_count_111 (by decide) (fun _ => ?_) (fun c_ => absurd c_ (by decide))
    refine lv_iconst (v := 0) hx hb dX12_count_118 (by decide) ?_
    refine ev_iadd (v := 0) hx hb dX12_count_119 (by decide) ?_
    refine lv_istore_n (lv' := [(2, .int 0), (3, .int 1), (0, .ref h0), (1, .int 4)]) hx hb dX12_count_120 rfl hl (by decide) rfl (fun ls hl => ?_)
    refine lv_iinc (v := 2) (lv' := [(3, .int 2), (2, .int 0), (0, .ref h0), (1, .int 4)]) hx hb dX12_count_121 hl (k := 1) rfl (by decide) (by decide) rfl (fun ls hl => ?_)
    refine lv_goto (tgt := 98) hx hb dX12_count_124 (by decide) ?_
    refine lv_iload_n hx hb dX12_count_98 rfl (lv_at hl 0 rfl) ?_
    refine lv_bipush (v := 16) hx hb dX12_count_99 (by decide) ?_
    refine lv_icmp_ge (tgt := 127) hx hb dX12_count_101 (by decide) (fun c_ => absurd c_ (by decide)) (fun _ => ?_)
    refine lv_iload_n hx hb dX12_count_104 rfl (lv_at hl 1 rfl) ?_
    refine lv_aload_n hx hb dX12_count_105 rfl (lv_at hl 2 rfl) ?_
    refine va_get (D := D) (ci := 10) (v := .ref (r 22)) (C := "TuneSchoolModel") (T := TX12) (N := 71) hx hb ht iX12 hown hK hP 0 rfl rfl 22 (by decide) (ht _ q5_14) (fun _ h9 => h9) rfl dX12_count_106 ?_
    refine lv_iload_n hx hb dX12_count_109 rfl (lv_at hl 0 rfl) ?_
    refine ldI (v := 0) hx hb hK hP 2 rfl (vin (by decide) (by decide)) rfl dX12_count_110 ?_
    refine lv_if_le (tgt := 118) hx hb dX12_count_111 (by decide) (fun _ => ?_) (fun c_ => absurd c_ (by decide))
    refine lv_iconst (v := 0) hx hb dX12_count_118 (by decide) ?_
    refine ev_iadd (v := 0) hx hb dX12_count_119 (by decide) ?_
    refine lv_istore_n (lv' := [(2, .int 0), (3, .int 2), (0, .ref h0), (1, .int 4)]) hx hb dX12_count_120 rfl hl (by decide) rfl (fun ls hl => ?_)
    refine lv_iinc (v := 3) (lv' := [(3, .int 3), (2, .int 0), (0, .ref h0), (1, .int 4)]) hx hb dX12_count_121 hl (k := 1) rfl (by decide) (by decide) rfl (fun ls hl => ?_)
    refine lv_goto (tgt := 98) hx hb dX12_count_124 (by decide) ?_
    refine lv_iload_n hx hb dX12_count_98 rfl (lv_at hl 0 rfl) ?_
    refine lv_bipush (v := 16) hx hb dX12_count_99 (by decide) ?_
    refine lv_icmp_ge (tgt := 127) hx hb dX12_count_101 (by decide) (fun c_ => absurd c_ (by decide)) (fun _ => ?_)
    refine lv_iload_n hx hb dX12_count_104 rfl (lv_at hl 1 rfl) ?_
    refine lv_aload_n hx hb dX12_count_105 rfl (lv_at hl 2 rfl) ?_
    refine va_get (D := D) (ci := 10) (v := .ref (r 22)) (C := "TuneSchoolModel") (T := TX12) (N := 71) hx hb ht iX12 hown hK hP 0 rfl rfl 22 (by decide) (ht _ q5_14) (fun _ h9 => h9) rfl dX12_count_106 ?_
    refine lv_iload_n hx hb dX12_count_109 rfl (lv_at hl 0 rfl) ?_
    refine ldI (v := 0) hx hb hK hP 2 rfl (vin (by decide) (by decide)) rfl dX12_count_110 ?_
    refine lv_if_le (tgt := 118) hx hb dX12_count_111 (by decide) (fun _ => ?_) (fun c_ => absurd c_ (by decide))
    refine lv_iconst (v := 0) hx hb dX12_count_118 (by decide) ?_
    refine ev_iadd (v := 0) hx hb dX12_count_119 (by decide) ?_
    refine lv_istore_n (lv' := [(2, .int 0), (3, .int 3), (0, .ref h0), (1, .int 4)]) hx hb dX12_count_120 rfl hl (by decide) rfl (fun ls hl => ?_)
    refine lv_iinc (v := 4) (lv' := [(3, .int 4), (2, .int 0), (0, .ref h0), (1, .int 4)]) hx hb dX12_count_121 hl (k := 1) rfl (by decide) (by decide) rfl (fun ls hl => ?_)
    refine lv_goto (tgt := 98) hx hb dX12_count_124 (by decide) ?_
    refine lv_iload_n hx hb dX12_count_98 rfl (lv_at hl 0 rfl) ?_
    refine lv_bipush (v := 16) hx hb dX12_count_99 (by decide) ?_
    refine lv_icmp_ge (tgt := 127) hx hb dX12_count_101 (by decide) (fun c_ => absurd c_ (by decide)) (fun _ => ?_)
    refine lv_iload_n hx hb dX12_count_104 rfl (lv_at hl 1 rfl) ?_
    refine lv_aload_n hx hb dX12_count_105 rfl (lv_at hl 2 rfl) ?_
    refine va_get (D := D) (ci := 10) (v := .ref (r 22)) (C := "TuneSchoolModel") (T := TX12) (N := 71) hx hb ht iX12 hown hK hP 0 rfl rfl 22 (by decide) (ht _ q5_14) (fun _ h9 => h9) rfl dX12_count_106 ?_
    refine lv_iload_n hx hb dX12_count_109 rfl (lv_at hl 0 rfl) ?_
    refine ldI (v := 0) hx hb hK hP 2 rfl (vin (by decide) (by decide)) rfl dX12_count_110 ?_
    refine lv_if_le (tgt := 118) hx hb dX12_count_111 (by decide) (fun _ => ?_) (fun c_ => absurd c_ (by decide))
    refine lv_iconst (v := 0) hx hb dX12_count_118 (by decide) ?_
    refine ev_iadd (v := 0) hx hb dX12_count_119 (by decide) ?_
    refine lv_istore_n (lv' := [(2, .int 0), (3, .int 4), (0, .ref h0), (1, .int 4)]) hx hb dX12_count_120 rfl hl (by decide) rfl (fun ls hl => ?_)
    refine lv_iinc (v := 5) (lv' := [(3, .int 5), (2, .int 0), (0, .ref h0), (1, .int 4)]) hx hb dX12_count_121 hl (k := 1) rfl (by decide) (by decide) rfl (fun ls hl => ?_)
    refine lv_goto (tgt := 98) hx hb dX12_count_124 (by decide) ?_
    refine lv_iload_n hx hb dX12_count_98 rfl (lv_at hl 0 rfl) ?_
    refine lv_bipush (v := 16) hx hb dX12_count_99 (by decide) ?_
    refine lv_icmp_ge (tgt := 127) hx hb dX12_count_101 (by decide) (fun c_ => absurd c_ (by decide)) (fun _ => ?_)
    refine lv_iload_n hx hb dX12_count_104 rfl (lv_at hl 1 rfl) ?_
    refine lv_aload_n hx hb dX12_count_105 rfl (lv_at hl 2 rfl) ?_
    refine va_get (D := D) (ci := 10) (v := .ref (r 22)) (C := "TuneSchoolModel") (T := TX12) (N := 71) hx hb ht iX12 hown hK hP 0 rfl rfl 22 (by decide) (ht _ q5_14) (fun _ h9 => h9) rfl dX12_count_106 ?_
    refine lv_iload_n hx hb dX12_count_109 rfl (lv_at hl 0 rfl) ?_
    refine ldI (v := 0) hx hb hK hP 2 rfl (vin (by decide) (by decide)) rfl dX12_count_110 ?_
    refine lv_if_le (tgt := 118) hx hb dX12_count_111 (by decide) (fun _ => ?_) (fun c_ => absurd c_ (by decide))
    refine lv_iconst (v := 0) hx hb dX12_count_118 (by decide) ?_
    refine ev_iadd (v := 0) hx hb dX12_count_119 (by decide) ?_
    refine lv_istore_n (lv' := [(2, .int 0), (3, .int 5), (0, .ref h0), (1, .int 4)]) hx hb dX12_count_120 rfl hl (by decide) rfl (fun ls hl => ?_)
    refine lv_iinc (v := 6) (lv' := [(3, .int 6), (2, .int 0), (0, .ref h0), (1, .int 4)]) hx hb dX12_count_121 hl (k := 1) rfl (by decide) (by decide) rfl (fun ls hl => ?_)
    refine lv_goto (tgt := 98) hx hb dX12_count_124 (by decide) ?_
    refine lv_iload_n hx hb dX12_count_98 rfl (lv_at hl 0 rfl) ?_
    refine lv_bipush (v := 16) hx hb dX12_count_99 (by decide) ?_
    refine lv_icmp_ge (tgt := 127) hx hb dX12_count_101 (by decide) (fun c_ => absurd c_ (by decide)) (fun _ => ?_)
    refine lv_iload_n hx hb dX12_count_104 rfl (lv_at hl 1 rfl) ?_
    refine lv_aload_n hx hb dX12_count_105 rfl (lv_at hl 2 rfl) ?_
    refine va_get (D := D) (ci := 10) (v := .ref (r 22)) (C := "TuneSchoolModel") (T := TX12) (N := 71) hx hb ht iX12 hown hK hP 0 rfl rfl 22 (by decide) (ht _ q5_14) (fun _ h9 => h9) rfl dX12_count_106 ?_
    refine lv_iload_n hx hb dX12_count_109 rfl (lv_at hl 0 rfl) ?_
    refine ldI (v := 0) hx hb hK hP 2 rfl (vin (by decide) (by decide)) rfl dX12_count_110 ?_
    refine lv_if_le (tgt := 118) hx hb dX12_count_111 (by decide) (fun _ => ?_) (fun c_ => absurd c_ (by decide))
    refine lv_iconst (v := 0) hx hb dX12_count_118 (by decide) ?_
    refine ev_iadd (v := 0) hx hb dX12_count_119 (by decide) ?_
    refine lv_istore_n (lv' := [(2, .int 0), (3, .int 6), (0, .ref h0), (1, .int 4)]) hx hb dX12_count_120 rfl hl (by decide) rfl (fun ls hl => ?_)
    refine lv_iinc (v := 7) (lv' := [(3, .int 7), (2, .int 0), (0, .ref h0), (1, .int 4)]) hx hb dX12_count_121 hl (k := 1) rfl (by decide) (by decide) rfl (fun ls hl => ?_)
    refine lv_goto (tgt := 98) hx hb dX12_count_124 (by decide) ?_
    refine lv_iload_n hx hb dX12_count_98 rfl (lv_at hl 0 rfl) ?_
    refine lv_bipush (v := 16) hx hb dX12_count_99 (by decide) ?_
    refine lv_icmp_ge (tgt := 127) hx hb dX12_count_101 (by decide) (fun c_ => absurd c_ (by decide)) (fun _ => ?_)
    refine lv_iload_n hx hb dX12_count_104 rfl (lv_at hl 1 rfl) ?_
    refine lv_aload_n hx hb dX12_count_105 rfl (lv_at hl 2 rfl) ?_
    refine va_get (D := D) (ci := 10) (v := .ref (r 22)) (C := "TuneSchoolModel") (T := TX12) (N := 71) hx hb ht iX12 hown hK hP 0 rfl rfl 22 (by decide) (ht _ q5_14) (fun _ h9 => h9) rfl dX12_count_106 ?_
    refine lv_iload_n hx hb dX12_count_109 rfl (lv_at hl 0 rfl) ?_
    refine ldI (v := 0) hx hb hK hP 2 rfl (vin (by decide) (by decide)) rfl dX12_count_110 ?_
    refine lv_if_le (tgt := 118) hx hb dX12_count_111 (by decide) (fun _ => ?_) (fun c_ => absurd c_ (by decide))
    refine lv_iconst (v := 0) hx hb dX12_count_118 (by decide) ?_
    refine ev_iadd (v := 0) hx hb dX12_count_119 (by decide) ?_
    refine lv_istore_n (lv' := [(2, .int 0), (3, .int 7), (0, .ref h0), (1, .int 4)]) hx hb dX12_count_120 rfl hl (by decide) rfl (fun ls hl => ?_)
    refine lv_iinc (v := 8) (lv' := [(3, .int 8), (2, .int 0), (0, .ref h0), (1, .int 4)]) hx hb dX12_count_121 hl (k := 1) rfl (by decide) (by decide) rfl (fun ls hl => ?_)
    refine lv_goto (tgt := 98) hx hb dX12_count_124 (by decide) ?_
    refine lv_iload_n hx hb dX12_count_98 rfl (lv_at hl 0 rfl) ?_
    refine lv_bipush (v := 16) hx hb dX12_count_99 (by decide) ?_
    refine lv_icmp_ge (tgt := 127) hx hb dX12_count_101 (by decide) (fun c_ => absurd c_ (by decide)) (fun _ => ?_)
    refine lv_iload_n hx hb dX12_count_104 rfl (lv_at hl 1 rfl) ?_
    refine lv_aload_n hx hb dX12_count_105 rfl (lv_at hl 2 rfl) ?_
    refine va_get (D := D) (ci := 10) (v := .ref (r 22)) (C := "TuneSchoolModel") (T := TX12) (N := 71) hx hb ht iX12 hown hK hP 0 rfl rfl 22 (by decide) (ht _ q5_14) (fun _ h9 => h9) rfl dX12_count_106 ?_
    refine lv_iload_n hx hb dX12_count_109 rfl (lv_at hl 0 rfl) ?_
    refine ldI (v := 0) hx hb hK hP 2 rfl (vin (by decide) (by decide)) rfl dX12_count_110 ?_
    refine lv_if_le (tgt := 118) hx hb dX12_count_111 (by decide) (fun _ => ?_) (fun c_ => absurd c_ (by decide))
    refine lv_iconst (v := 0) hx hb dX12_count_118 (by decide) ?_
    refine ev_iadd (v := 0) hx hb dX12_count_119 (by decide) ?_
    refine lv_istore_n (lv' := [(2, .int 0), (3, .int 8), (0, .ref h0), (1, .int 4)]) hx hb dX12_count_120 rfl hl (by decide) rfl (fun ls hl => ?_)
    refine lv_iinc (v := 9) (lv' := [(3, .int 9), (2, .int 0), (0, .ref h0), (1, .int 4)]) hx hb dX12_count_121 hl (k := 1) rfl (by decide) (by decide) rfl (fun ls hl => ?_)
    refine lv_goto (tgt := 98) hx hb dX12_count_124 (by decide) ?_
    refine lv_iload_n hx hb dX12_count_98 rfl (lv_at hl 0 rfl) ?_
    refine lv_bipush (v := 16) hx hb dX12_count_99 (by decide) ?_
    refine lv_icmp_ge (tgt := 127) hx hb dX12_count_101 (by decide) (fun c_ => absurd c_ (by decide)) (fun _ => ?_)
    refine lv_iload_n hx hb dX12_count_104 rfl (lv_at hl 1 rfl) ?_
    refine lv_aload_n hx hb dX12_count_105 rfl (lv_at hl 2 rfl) ?_
    refine va_get (D := D) (ci := 10) (v := .ref (r 22)) (C := "TuneSchoolModel") (T := TX12) (N := 71) hx hb ht iX12 hown hK hP 0 rfl rfl 22 (by decide) (ht _ q5_14) (fun _ h9 => h9) rfl dX12_count_106 ?_
    refine lv_iload_n hx hb dX12_count_109 rfl (lv_at hl 0 rfl) ?_
    refine ldI (v := 0) hx hb hK hP 2 rfl (vin (by decide) (by decide)) rfl dX12_count_110 ?_
    refine lv_if_le (tgt := 118) hx hb dX12_count_111 (by decide) (fun _ => ?_) (fun c_ => absurd c_ (by decide))
    refine lv_iconst (v := 0) hx hb dX12_count_118 (by decide) ?_
    refine ev_iadd (v := 0) hx hb dX12_count_119 (by decide) ?_
    refine lv_istore_n (lv' := [(2, .int 0), (3, .int 9), (0, .ref h0), (1, .int 4)]) hx hb dX12_count_120 rfl hl (by decide) rfl (fun ls hl => ?_)
    refine lv_iinc (v := 10) (lv' := [(3, .int 10), (2, .int 0), (0, .ref h0), (1, .int 4)]) hx hb dX12_count_121 hl (k := 1) rfl (by decide) (by decide) rfl (fun ls hl => ?_)
    refine lv_goto (tgt := 98) hx hb dX12_count_124 (by decide) ?_
    refine lv_iload_n hx hb dX12_count_98 rfl (lv_at hl 0 rfl) ?_
    refine lv_bipush (v := 16) hx hb dX12_count_99 (by decide) ?_
    refine lv_icmp_ge (tgt := 127) hx hb dX12_count_101 (by decide) (fun c_ => absurd c_ (by decide)) (fun _ => ?_)
    refine lv_iload_n hx hb dX12_count_104 rfl (lv_at hl 1 rfl) ?_
    refine lv_aload_n hx hb dX12_count_105 rfl (lv_at hl 2 rfl) ?_
    refine va_get (D := D) (ci := 10) (v := .ref (r 22)) (C := "TuneSchoolModel") (T := TX12) (N := 71) hx hb ht iX12 hown hK hP 0 rfl rfl 22 (by decide) (ht _ q5_14) (fun _ h9 => h9) rfl dX12_count_106 ?_
    refine lv_iload_n hx hb dX12_count_109 rfl (lv_at hl 0 rfl) ?_
    refine ldI (v := 0) hx hb hK hP 2 rfl (vin (by decide) (by decide)) rfl dX12_count_110 ?_
    refine lv_if_le (tgt := 118) hx hb dX12_count_111 (by decide) (fun _ => ?_) (fun c_ => absurd c_ (by decide))
    refine lv_iconst (v := 0) hx hb dX12_count_118 (by decide) ?_
    refine ev_iadd (v := 0) hx hb dX12_count_119 (by decide) ?_
    refine lv_istore_n (lv' := [(2, .int 0), (3, .int 10), (0, .ref h0), (1, .int 4)]) hx hb dX12_count_120 rfl hl (by decide) rfl (fun ls hl => ?_)
    refine lv_iinc (v := 11) (lv' := [(3, .int 11), (2, .int 0), (0, .ref h0), (1, .int 4)]) hx hb dX12_count_121 hl (k := 1) rfl (by decide) (by decide) rfl (fun ls hl => ?_)
    refine lv_goto (tgt := 98) hx hb dX12_count_124 (by decide) ?_
    refine lv_iload_n hx hb dX12_count_98 rfl (lv_at hl 0 rfl) ?_
    refine lv_bipush (v := 16) hx hb dX12_count_99 (by decide) ?_
    refine lv_icmp_ge (tgt := 127) hx hb dX12_count_101 (by decide) (fun c_ => absurd c_ (by decide)) (fun _ => ?_)
    refine lv_iload_n hx hb dX12_count_104 rfl (lv_at hl 1 rfl) ?_
    refine lv_aload_n hx hb dX12_count_105 rfl (lv_at hl 2 rfl) ?_
    refine va_get (D := D) (ci := 10) (v := .ref (r 22)) (C := "TuneSchoolModel") (T := TX12) (N := 71) hx hb ht iX12 hown hK hP 0 rfl rfl 22 (by decide) (ht _ q5_14) (fun _ h9 => h9) rfl dX12_count_106 ?_
    refine lv_iload_n hx hb dX12_count_109 rfl (lv_at hl 0 rfl) ?_
    refine ldI (v := 0) hx hb hK hP 2 rfl (vin (by decide) (by decide)) rfl dX12_count_110 ?_
    refine lv_if_le (tgt := 118) hx hb dX12_count_111 (by decide) (fun _ => ?_) (fun c_ => absurd c_ (by decide))
    refine lv_iconst (v := 0) hx hb dX12_count_118 (by decide) ?_
    refine ev_iadd (v := 0) hx hb dX12_count_119 (by decide) ?_
    refine lv_istore_n (lv' := [(2, .int 0), (3, .int 11), (0, .ref h0), (1, .int 4)]) hx hb dX12_count_120 rfl hl (by decide) rfl (fun ls hl => ?_)
    refine lv_iinc (v := 12) (lv' := [(3, .int 12), (2, .int 0), (0, .ref h0), (1, .int 4)]) hx hb dX12_count_121 hl (k := 1) rfl (by decide) (by decide) rfl (fun ls hl => ?_)
    refine lv_goto (tgt := 98) hx hb dX12_count_124 (by decide) ?_
    refine lv_iload_n hx hb dX12_count_98 rfl (lv_at hl 0 rfl) ?_
    refine lv_bipush (v := 16) hx hb dX12_count_99 (by decide) ?_
    refine lv_icmp_ge (tgt := 127) hx hb dX12_count_101 (by decide) (fun c_ => absurd c_ (by decide)) (fun _ => ?_)
    refine lv_iload_n hx hb dX12_count_104 rfl (lv_at hl 1 rfl) ?_
    refine lv_aload_n hx hb dX12_count_105 rfl (lv_at hl 2 rfl) ?_
    refine va_get (D := D) (ci := 10) (v := .ref (r 22)) (C := "TuneSchoolModel") (T := TX12) (N := 71) hx hb ht iX12 hown hK hP 0 rfl rfl 22 (by decide) (ht _ q5_14) (fun _ h9 => h9) rfl dX12_count_106 ?_
    refine lv_iload_n hx hb dX12_count_109 rfl (lv_at hl 0 rfl) ?_
    refine ldI (v := 0) hx hb hK hP 2 rfl (vin (by decide) (by decide)) rfl dX12_count_110 ?_
    refine lv_if_le (tgt := 118) hx hb dX12_count_111 (by decide) (fun _ => ?_) (fun c_ => absurd c_ (by decide))
    refine lv_iconst (v := 0) hx hb dX12_count_118 (by decide) ?_
    refine ev_iadd (v := 0) hx hb dX12_count_119 (by decide) ?_
    refine lv_istore_n (lv' := [(2, .int 0), (3, .int 12), (0, .ref h0), (1, .int 4)]) hx hb dX12_count_120 rfl hl (by decide) rfl (fun ls hl => ?_)
    refine lv_iinc (v := 13) (lv' := [(3, .int 13), (2, .int 0), (0, .ref h0), (1, .int 4)]) hx hb dX12_count_121 hl (k := 1) rfl (by decide) (by decide) rfl (fun ls hl => ?_)
    refine lv_goto (tgt := 98) hx hb dX12_count_124 (by decide) ?_
    refine lv_iload_n hx hb dX12_count_98 rfl (lv_at hl 0 rfl) ?_
    refine lv_bipush (v := 16) hx hb dX12_count_99 (by decide) ?_
    refine lv_icmp_ge (tgt := 127) hx hb dX12_count_101 (by decide) (fun c_ => absurd c_ (by decide)) (fun _ => ?_)
    refine lv_iload_n hx hb dX12_count_104 rfl (lv_at hl 1 rfl) ?_
    refine lv_aload_n hx hb dX12_count_105 rfl (lv_at hl 2 rfl) ?_
    refine va_get (D := D) (ci := 10) (v := .ref (r 22)) (C := "TuneSchoolModel") (T := TX12) (N := 71) hx hb ht iX12 hown hK hP 0 rfl rfl 22 (by decide) (ht _ q5_14) (fun _ h9 => h9) rfl dX12_count_106 ?_
    refine lv_iload_n hx hb dX12_count_109 rfl (lv_at hl 0 rfl) ?_
    refine ldI (v := 0) hx hb hK hP 2 rfl (vin (by decide) (by decide)) rfl dX12_count_110 ?_
    refine lv_if_le (tgt := 118) hx hb dX12_count_111 (by decide) (fun _ => ?_) (fun c_ => absurd c_ (by decide))
    refine lv_iconst (v := 0) hx hb dX12_count_118 (by decide) ?_
    refine ev_iadd (v := 0) hx hb dX12_count_119 (by decide) ?_
    refine lv_istore_n (lv' := [(2, .int 0), (3, .int 13), (0, .ref h0), (1, .int 4)]) hx hb dX12_count_120 rfl hl (by decide) rfl (fun ls hl => ?_)
    refine lv_iinc (v := 14) (lv' := [(3, .int 14), (2, .int 0), (0, .ref h0), (1, .int 4)]) hx hb dX12_count_121 hl (k := 1) rfl (by decide) (by decide) rfl (fun ls hl => ?_)
    refine lv_goto (tgt := 98) hx hb dX12_count_124 (by decide) ?_
    refine lv_iload_n hx hb dX12_count_98 rfl (lv_at hl 0 rfl) ?_
    refine lv_bipush (v := 16) hx hb dX12_count_99 (by decide) ?_
    refine lv_icmp_ge (tgt := 127) hx hb dX12_count_101 (by decide) (fun c_ => absurd c_ (by decide)) (fun _ => ?_)
    refine lv_iload_n hx hb dX12_count_104 rfl (lv_at hl 1 rfl) ?_
    refine lv_aload_n hx hb dX12_count_105 rfl (lv_at hl 2 rfl) ?_
    refine va_get (D := D) (ci := 10) (v := .ref (r 22)) (C := "TuneSchoolModel") (T := TX12) (N := 71) hx hb ht iX12 hown hK hP 0 rfl rfl 22 (by decide) (ht _ q5_14) (fun _ h9 => h9) rfl dX12_count_106 ?_
    refine lv_iload_n hx hb dX12_count_109 rfl (lv_at hl 0 rfl) ?_
    refine ldI (v := 0) hx hb hK hP 2 rfl (vin (by decide) (by decide)) rfl dX12_count_110 ?_
    refine lv_if_le (tgt := 118) hx hb dX12_count_111 (by decide) (fun _ => ?_) (fun c_ => absurd c_ (by decide))
    refine lv_iconst (v := 0) hx hb dX12_count_118 (by decide) ?_
    refine ev_iadd (v := 0) hx hb dX12_count_119 (by decide) ?_
    refine lv_istore_n (lv' := [(2, .int 0), (3, .int 14), (0, .ref h0), (1, .int 4)]) hx hb dX12_count_120 rfl hl (by decide) rfl (fun ls hl => ?_)
    refine lv_iinc (v := 15) (lv' := [(3, .int 15), (2, .int 0), (0, .ref h0), (1, .int 4)]) hx hb dX12_count_121 hl (k := 1) rfl (by decide) (by decide) rfl (fun ls hl => ?_)
    refine lv_goto (tgt := 98) hx hb dX12_count_124 (by decide) ?_
    refine lv_iload_n hx hb dX12_count_98 rfl (lv_at hl 0 rfl) ?_
    refine lv_bipush (v := 16) hx hb dX12_count_99 (by decide) ?_
    refine lv_icmp_ge (tgt := 127) hx hb dX12_count_101 (by decide) (fun c_ => absurd c_ (by decide)) (fun _ => ?_)
    refine lv_iload_n hx hb dX12_count_104 rfl (lv_at hl 1 rfl) ?_
    refine lv_aload_n hx hb dX12_count_105 rfl (lv_at hl 2 rfl) ?_
    refine va_get (D := D) (ci := 10) (v := .ref (r 22)) (C := "TuneSchoolModel") (T := TX12) (N := 71) hx hb ht iX12 hown hK hP 0 rfl rfl 22 (by decide) (ht _ q5_14) (fun _ h9 => h9) rfl dX12_count_106 ?_
    refine lv_iload_n hx hb dX12_count_109 rfl (lv_at hl 0 rfl) ?_
    refine ldI (v := 0) hx hb hK hP 2 rfl (vin (by decide) (by decide)) rfl dX12_count_110 ?_
    refine lv_if_le (tgt := 118) hx hb dX12_count_111 (by decide) (fun _ => ?_) (fun c_ => absurd c_ (by decide))
    refine lv_iconst (v := 0) hx hb dX12_count_118 (by decide) ?_
    refine ev_iadd (v := 0) hx hb dX12_count_119 (by decide) ?_
    refine lv_istore_n (lv' := [(2, .int 0), (3, .int 15), (0, .ref h0), (1, .int 4)]) hx hb dX12_count_120 rfl hl (by decide) rfl (fun ls hl => ?_)
    refine lv_iinc (v := 16) (lv' := [(3, .int 16), (2, .int 0), (0, .ref h0), (1, .int 4)]) hx hb dX12_count_121 hl (k := 1) rfl (by decide) (by decide) rfl (fun ls hl => ?_)
    refine lv_goto (tgt := 98) hx hb dX12_count_124 (by decide) ?_
    refine lv_iload_n hx hb dX12_count_98 rfl (lv_at hl 0 rfl) ?_
    refine lv_bipush (v := 16) hx hb dX12_count_99 (by decide) ?_
    refine lv_icmp_ge (tgt := 127) hx hb dX12_count_101 (by decide) (fun _ => ?_) (fun c_ => absurd c_ (by decide))
    refine lv_iload_n hx hb dX12_count_127 rfl (lv_at hl 1 rfl) ?_
    exact W.iret (v := 0) hx hb hr (fun t ht hW => ⟨⟨0, (), rfl, (by first | (unfold an_count; (repeat' split) <;> first | rfl | (exfalso; omega)) | rfl | decide), nilP, nilD⟩, hS.F ht⟩) hS.2.2 dX12_count_128
  · skip
    obtain rfl : p0 = 5 := eqI (by decide) c_1
    refine lv_tableIn (off := 126) (tgt := 129) hx hb dX12_count_3 (by decide) (by decide) (by decide) (by decide) ?_
    refine lv_aload_n hx hb dX12_count_129 rfl (lv_at hl 1 rfl) ?_
    refine va_get (D := D) (ci := 10) (v := .int 0) (C := "TuneSchoolModel") (T := TX12) (N := 71) hx hb ht iX12 hown hK hP 0 rfl rfl 44 (by decide) (ht _ q5_36) (fun _ h9 => h9) rfl dX12_count_130 ?_
    refine lv_if_eq (tgt := 143) hx hb dX12_count_133 (by decide) (fun _ => ?_) (fun c_ => absurd c_ (by decide))
    refine lv_iconst (v := 0) hx hb dX12_count_143 (by decide) ?_
    exact W.iret (v := 0) hx hb hr (fun t ht hW => ⟨⟨0, (), rfl, (by first | (unfold an_count; (repeat' split) <;> first | rfl | (exfalso; omega)) | rfl | decide), nilP, nilD⟩, hS.F ht⟩) hS.2.2 dX12_count_144
  · skip
    obtain rfl : p0 = 6 := eqI (by decide) c_1
    refine lv_tableIn (off := 142) (tgt := 145) hx hb dX12_count_3 (by decide) (by decide) (by decide) (by decide) ?_
    refine lv_aload_n hx hb dX12_count_145 rfl (lv_at hl 1 rfl) ?_
    refine va_get (D := D) (ci := 10) (v := .int 0) (C := "TuneSchoolModel") (T := TX12) (N := 71) hx hb ht iX12 hown hK hP 0 rfl rfl 10 (by decide) (ht _ q5_2) (fun _ h9 => h9) rfl dX12_count_146 ?_
    exact W.iret (v := 0) hx hb hr (fun t ht hW => ⟨⟨0, (), rfl, (by first | (unfold an_count; (repeat' split) <;> first | rfl | (exfalso; omega)) | rfl | decide), nilP, nilD⟩, hS.F ht⟩) hS.2.2 dX12_count_149
  · skip
    obtain rfl : p0 = 7 := eqI (by decide) c_1
    refine lv_tableIn (off := 147) (tgt := 150) hx hb dX12_count_3 (by decide) (by decide) (by decide) (by decide) ?_
    refine lv_aload_n hx hb dX12_count_150 rfl (lv_at hl 1 rfl) ?_
    refine va_get (D := D) (ci := 10) (v := .int 0) (C := "TuneSchoolModel") (T := TX12) (N := 71) hx hb ht iX12 hown hK hP 0 rfl rfl 5 (by decide) (ht _ q4_237) (fun _ h9 => h9) rfl dX12_count_151 ?_
    refine lv_if_eq (tgt := 161) hx hb dX12_count_154 (by decide) (fun _ => ?_) (fun c_ => absurd c_ (by decide))
    refine lv_iconst (v := 0) hx hb dX12_count_161 (by decide) ?_
    exact W.iret (v := 0) hx hb hr (fun t ht hW => ⟨⟨0, (), rfl, (by first | (unfold an_count; (repeat' split) <;> first | rfl | (exfalso; omega)) | rfl | decide), nilP, nilD⟩, hS.F ht⟩) hS.2.2 dX12_count_162
set_option maxHeartbeats 400000 in
set_option maxRecDepth 100000 in
theorem c_X12_read (l : Launch) (D : va_G) (k : Nat → ClassId) (h0 : Nat) (r : Nat → Nat) (p0 : Int32)  : CI l yX12_read cX12_read 4 (some .int) 2 42 0 0 D k [(h0, .inr (10, oX12 r fm)), ((r 2), .inl (k 1, 6, .inl (fun _ => 0))), ((r 3), .inl (k 0, 12, .inl (fun _ => 0))), ((r 4), .inl (k 0, 288, .inl (fun _ => 0))), ((r 8), .inl (k 0, 2, .inl (fun _ => 0))), ((r 9), .inl (k 0, 48, .inl (fun _ => 0)))] [.ref h0, .int p0] (S := Unit) (fun (r : Int32) (_ : Unit) => r = an_read p0) (fun _ => ([] : va_W)) := by
  intro sz
  refine mtX (Qc := fun A => va_Qi (S := Unit) (fun (r : Int32) (_ : Unit) => r = an_read p0) (fun u t => WX D A ((fun _ => ([] : va_W)) u) t) A) (free := fun A => A) (by decide) (Nat.le_of_ble_eq_true rfl) ?_
  intro p e s m below meth c ls A hB hl
  obtain ⟨hx, hb, hml, hr, hlocks, hnm, hown, ht, hK, hN, hA, hP, hD, hS⟩ := hB
  have hl : lv_has ls 4 [(0, .ref h0), (1, .int p0)] := hl
  refine lv_iload_n hx hb dX12_read_0 rfl (lv_at hl 1 rfl) ?_
  refine afterP (xS (fr := 1) (lo := 22) (mc := 0) (ms := 0) (As := [.int p0]) (rest := []) (wc := []) ⟨hx, hb, hml, hown, ht⟩ (c_X12_isVoice l D k p0 _) hK hN nilP (nilD (A := A)) q5_211 q5_212 q1_6 q5_213 md_X12_isVoice ⟨by decide, by decide⟩ rfl hl.1 rfl (Nat.le_of_ble_eq_true rfl) dX12_read_1 ⟨by decide, by decide⟩) (fun r_1 h_2 => ?_)
  rcases h_2 with ⟨rfl, h_2⟩ | ⟨rfl, h_2⟩
  · skip
    refine lv_if_ne (tgt := 9) hx hb dX12_read_4 (by decide) (fun _ => ?_) (fun c_ => absurd c_ (by decide))
    refine lv_aload_n hx hb dX12_read_9 rfl (lv_at hl 0 rfl) ?_
    refine lv_iconst (v := 0) hx hb dX12_read_10 (by decide) ?_
    refine va_put (D := D) (ci := 10) (v := .int 0) (ty := .int) (C := "TuneSchoolModel") (T := TX12) (N := 71) hx hb ht iX12 tyX12 tyX12_ok nmX12 hown hK hP hD hS 0 rfl rfl 0 (by decide) (ht _ q4_232) (fun _ h9 => h9) rfl (by decide +kernel) rfl rfl (Nat.le_of_ble_eq_true rfl) dX12_read_11 (fun H locs hP hD hS => ?_)
    have hP : va_P D clsL [(h0, .inr (10, oX12 r (va_up fm 0 0))), ((r 2), .inl (k 1, 6, .inl (fun _ => 0))), ((r 3), .inl (k 0, 12, .inl (fun _ => 0))), ((r 4), .inl (k 0, 288, .inl (fun _ => 0))), ((r 8), .inl (k 0, 2, .inl (fun _ => 0))), ((r 9), .inl (k 0, 48, .inl (fun _ => 0)))] H := hP
    have hD : va_D A [(h0, .inr (10, oX12 r (va_up fm 0 0))), ((r 2), .inl (k 1, 6, .inl (fun _ => 0))), ((r 3), .inl (k 0, 12, .inl (fun _ => 0))), ((r 4), .inl (k 0, 288, .inl (fun _ => 0))), ((r 8), .inl (k 0, 2, .inl (fun _ => 0))), ((r 9), .inl (k 0, 48, .inl (fun _ => 0)))] := hD
    refine lv_aload_n hx hb dX12_read_14 rfl (lv_at hl 0 rfl) ?_
    refine afterI (wr := [((r 2), .inl (k 1, 6, .inl (fun _ => 0))), ((r 3), .inl (k 0, 12, .inl (fun _ => 0))), ((r 4), .inl (k 0, 288, .inl (fun _ => 0))), ((r 8), .inl (k 0, 2, .inl (fun _ => 0))), ((r 9), .inl (k 0, 48, .inl (fun _ => 0)))]) (xV (fr := 0) (lo := 0) (mc := 0) (ms := 0) (As := []) (rest := []) (wc := [(h0, .inr (10, oX12 r (va_up fm 0 0)))]) ⟨hx, hb, hml, hown, ht⟩ (c_X12_wrongIn l D k h0 r _) hK hN (hP.sub (ws' := [(h0, .inr (10, oX12 r (va_up fm 0 0)))]) [0] rfl) (hD.sub (ws' := [(h0, .inr (10, oX12 r (va_up fm 0 0)))]) [0] (by decide) rfl) 10 0 rfl rfl rfl q7_61 q7_63 qs_61 q1_6 q7_64 md_X12_wrongIn ⟨by decide, by decide⟩ rfl hl.1 rfl (Nat.le_of_ble_eq_true rfl) dX12_read_15 ⟨by decide, by decide⟩) hP hD hS hA [0] [1, 2, 3, 4, 5] rfl rfl rfl (by decide) (fun r_3 u_4 H locs h_5 hP hD hS => ?_)
    obtain rfl := h_5
    have hP : va_P D clsL [((r 2), .inl (k 1, 6, .inl (fun _ => 0))), ((r 3), .inl (k 0, 12, .inl (fun _ => 0))), ((r 4), .inl (k 0, 288, .inl (fun _ => 0))), ((r 8), .inl (k 0, 2, .inl (fun _ => 0))), ((r 9), .inl (k 0, 48, .inl (fun _ => 0))), (h0, .inr (10, oX12 r (va_up (va_up fm 0 0) 70 0)))] H := hP
    have hD : va_D A [((r 2), .inl (k 1, 6, .inl (fun _ => 0))), ((r 3), .inl (k 0, 12, .inl (fun _ => 0))), ((r 4), .inl (k 0, 288, .inl (fun _ => 0))), ((r 8), .inl (k 0, 2, .inl (fun _ => 0))), ((r 9), .inl (k 0, 48, .inl (fun _ => 0))), (h0, .inr (10, oX12 r (va_up (va_up fm 0 0) 70 0)))] := hD
    refine lv_istore_n (lv' := [(2, .int (-1)), (0, .ref h0), (1, .int p0)]) hx hb dX12_read_18 rfl hl (by decide) rfl (fun ls hl => ?_)
    refine lv_iload_n hx hb dX12_read_19 rfl (lv_at hl 0 rfl) ?_
    refine lv_if_lt (tgt := 28) hx hb dX12_read_20 (by decide) (fun _ => ?_) (fun c_ => absurd c_ (by decide))
    refine lv_aload_n hx hb dX12_read_28 rfl (lv_at hl 1 rfl) ?_
    refine lv_iload_n hx hb dX12_read_29 rfl (lv_at hl 2 rfl) ?_
    refine afterV (wr := []) (xV (fr := 0) (lo := 0) (mc := 0) (ms := 0) (As := [.int p0]) (rest := []) (wc := [(h0, .inr (10, oX12 r (va_up (va_up fm 0 0) 70 0))), ((r 2), .inl (k 1, 6, .inl (fun _ => 0))), ((r 3), .inl (k 0, 12, .inl (fun _ => 0))), ((r 4), .inl (k 0, 288, .inl (fun _ => 0))), ((r 8), .inl (k 0, 2, .inl (fun _ => 0))), ((r 9), .inl (k 0, 48, .inl (fun _ => 0)))]) ⟨hx, hb, hml, hown, ht⟩ (c_X12_keep l D k h0 r (va_up (va_up fm 0 0) 70 0) p0 (by omega) (by omega) _) hK hN (hP.sub (ws' := [(h0, .inr (10, oX12 r (va_up (va_up fm 0 0) 70 0))), ((r 2), .inl (k 1, 6, .inl (fun _ => 0))), ((r 3), .inl (k 0, 12, .inl (fun _ => 0))), ((r 4), .inl (k 0, 288, .inl (fun _ => 0))), ((r 8), .inl (k 0, 2, .inl (fun _ => 0))), ((r 9), .inl (k 0, 48, .inl (fun _ => 0)))]) [5, 0, 1, 2, 3, 4] rfl) (hD.sub (ws' := [(h0, .inr (10, oX12 r (va_up (va_up fm 0 0) 70 0))), ((r 2), .inl (k 1, 6, .inl (fun _ => 0))), ((r 3), .inl (k 0, 12, .inl (fun _ => 0))), ((r 4), .inl (k 0, 288, .inl (fun _ => 0))), ((r 8), .inl (k 0, 2, .inl (fun _ => 0))), ((r 9), .inl (k 0, 48, .inl (fun _ => 0)))]) [5, 0, 1, 2, 3, 4] (by decide) rfl) 10 0 rfl rfl rfl q5_221 q5_223 qs_18 q1_6 q5_224 md_X12_keep ⟨by decide, by decide⟩ rfl hl.1 rfl (Nat.le_of_ble_eq_true rfl) dX12_read_30 ⟨by decide, by decide⟩) hP hD hS hA [5, 0, 1, 2, 3, 4] [] rfl rfl rfl (by decide) (fun u_7 H locs h_8 hP hD hS => ?_)
    have hP : va_P D clsL [(h0, .inr (10, oX12 r (va_up (va_up (va_up (va_up (va_up fm 0 0) 70 0) 5 1) 6 p0) 7 0))), ((r 2), .inl (k 1, 6, .inl (fun _ => 0))), ((r 3), .inl (k 0, 12, .inl (fun _ => 0))), ((r 4), .inl (k 0, 288, .inl (fun _ => 0)))] H := hP
    have hD : va_D A [(h0, .inr (10, oX12 r (va_up (va_up (va_up (va_up (va_up fm 0 0) 70 0) 5 1) 6 p0) 7 0))), ((r 2), .inl (k 1, 6, .inl (fun _ => 0))), ((r 3), .inl (k 0, 12, .inl (fun _ => 0))), ((r 4), .inl (k 0, 288, .inl (fun _ => 0)))] := hD
    obtain ⟨j, hj, rfl⟩ := vp_in_of (vin (n := 6) (i := p0) (by omega) (by omega)) (by decide)
    have hjt : (nI j).toInt = (j : Int) := nI_toInt (by omega)
    refine lv_aload_n hx hb dX12_read_33 rfl (lv_at hl 1 rfl) ?_
    refine va_get (D := D) (ci := 10) (v := .ref (r 2)) (C := "TuneSchoolModel") (T := TX12) (N := 71) hx hb ht iX12 hown hK hP 0 rfl rfl 2 (by decide) (ht _ q4_234) (fun _ h9 => h9) rfl dX12_read_34 ?_
    refine lv_iload_n hx hb dX12_read_37 rfl (lv_at hl 2 rfl) ?_
    refine lv_iconst (v := 1) hx hb dX12_read_38 (by decide) ?_
    refine stZ hx hb hK hP hD hS 1 rfl (vp_in_nI (by omega) (by decide)) dX12_read_39 (fun H locs hP hD hS => ?_)
    have hP : va_P D clsL [(h0, .inr (10, oX12 r (va_up (va_up (va_up (va_up (va_up fm 0 0) 70 0) 5 1) 6 (nI j)) 7 0))), ((r 2), .inl (k 1, 6, .inl (upd (fun _ => 0) (nI j).toNatClampNeg (vp_nar .boolean 1)))), ((r 3), .inl (k 0, 12, .inl (fun _ => 0))), ((r 4), .inl (k 0, 288, .inl (fun _ => 0)))] H := hP
    have hD : va_D A [(h0, .inr (10, oX12 r (va_up (va_up (va_up (va_up (va_up fm 0 0) 70 0) 5 1) 6 (nI j)) 7 0))), ((r 2), .inl (k 1, 6, .inl (upd (fun _ => 0) (nI j).toNatClampNeg (vp_nar .boolean 1)))), ((r 3), .inl (k 0, 12, .inl (fun _ => 0))), ((r 4), .inl (k 0, 288, .inl (fun _ => 0)))] := hD
    refine lv_aload_n hx hb dX12_read_40 rfl (lv_at hl 1 rfl) ?_
    refine va_get (D := D) (ci := 10) (v := .ref (r 3)) (C := "TuneSchoolModel") (T := TX12) (N := 71) hx hb ht iX12 hown hK hP 0 rfl rfl 3 (by decide) (ht _ q4_235) (fun _ h9 => h9) rfl dX12_read_41 ?_
    refine lv_iconst (v := 2) hx hb dX12_read_44 (by decide) ?_
    refine lv_iload_n hx hb dX12_read_45 rfl (lv_at hl 2 rfl) ?_
    refine ev_imul (v := (nI (2 * j))) hx hb dX12_read_46 (pk_mul 2 j) ?_
    refine lv_aload_n hx hb dX12_read_47 rfl (lv_at hl 1 rfl) ?_
    refine va_get (D := D) (ci := 10) (v := .int 0) (C := "TuneSchoolModel") (T := TX12) (N := 71) hx hb ht iX12 hown hK hP 0 rfl rfl 70 (by decide) (ht _ q5_62) (fun _ h9 => h9) rfl dX12_read_48 ?_
    refine stI hx hb hK hP hD hS 2 rfl (vp_in_nI (by omega) (by decide)) dX12_read_51 (fun H locs hP hD hS => ?_)
    have hP : va_P D clsL [(h0, .inr (10, oX12 r (va_up (va_up (va_up (va_up (va_up fm 0 0) 70 0) 5 1) 6 (nI j)) 7 0))), ((r 2), .inl (k 1, 6, .inl (upd (fun _ => 0) (nI j).toNatClampNeg (vp_nar .boolean 1)))), ((r 3), .inl (k 0, 12, .inl (upd (fun _ => 0) (nI (2 * j)).toNatClampNeg 0))), ((r 4), .inl (k 0, 288, .inl (fun _ => 0)))] H := hP
    have hD : va_D A [(h0, .inr (10, oX12 r (va_up (va_up (va_up (va_up (va_up fm 0 0) 70 0) 5 1) 6 (nI j)) 7 0))), ((r 2), .inl (k 1, 6, .inl (upd (fun _ => 0) (nI j).toNatClampNeg (vp_nar .boolean 1)))), ((r 3), .inl (k 0, 12, .inl (upd (fun _ => 0) (nI (2 * j)).toNatClampNeg 0))), ((r 4), .inl (k 0, 288, .inl (fun _ => 0)))] := hD
    refine lv_aload_n hx hb dX12_read_52 rfl (lv_at hl 1 rfl) ?_
    refine va_get (D := D) (ci := 10) (v := .ref (r 3)) (C := "TuneSchoolModel") (T := TX12) (N := 71) hx hb ht iX12 hown hK hP 0 rfl rfl 3 (by decide) (ht _ q4_235) (fun _ h9 => h9) rfl dX12_read_53 ?_
    refine lv_iconst (v := 2) hx hb dX12_read_56 (by decide) ?_
    refine lv_iload_n hx hb dX12_read_57 rfl (lv_at hl 2 rfl) ?_
    refine ev_imul (v := (nI (2 * j))) hx hb dX12_read_58 (pk_mul 2 j) ?_
    refine lv_iconst (v := 1) hx hb dX12_read_59 (by decide) ?_
    refine ev_iadd (v := (nI ((2 * j) + 1))) hx hb dX12_read_60 (nI_add (2 * j) 1) ?_
    refine lv_aload_n hx hb dX12_read_61 rfl (lv_at hl 1 rfl) ?_
    refine va_get (D := D) (ci := 10) (v := .int 0) (C := "TuneSchoolModel") (T := TX12) (N := 71) hx hb ht iX12 hown hK hP 0 rfl rfl 70 (by decide) (ht _ q5_62) (fun _ h9 => h9) rfl dX12_read_62 ?_
    refine stI hx hb hK hP hD hS 2 rfl (vp_in_nI (by omega) (by decide)) dX12_read_65 (fun H locs hP hD hS => ?_)
    have hP : va_P D clsL [(h0, .inr (10, oX12 r (va_up (va_up (va_up (va_up (va_up fm 0 0) 70 0) 5 1) 6 (nI j)) 7 0))), ((r 2), .inl (k 1, 6, .inl (upd (fun _ => 0) (nI j).toNatClampNeg (vp_nar .boolean 1)))), ((r 3), .inl (k 0, 12, .inl (upd (upd (fun _ => 0) (nI (2 * j)).toNatClampNeg 0) (nI ((2 * j) + 1)).toNatClampNeg 0))), ((r 4), .inl (k 0, 288, .inl (fun _ => 0)))] H := hP
    have hD : va_D A [(h0, .inr (10, oX12 r (va_up (va_up (va_up (va_up (va_up fm 0 0) 70 0) 5 1) 6 (nI j)) 7 0))), ((r 2), .inl (k 1, 6, .inl (upd (fun _ => 0) (nI j).toNatClampNeg (vp_nar .boolean 1)))), ((r 3), .inl (k 0, 12, .inl (upd (upd (fun _ => 0) (nI (2 * j)).toNatClampNeg 0) (nI ((2 * j) + 1)).toNatClampNeg 0))), ((r 4), .inl (k 0, 288, .inl (fun _ => 0)))] := hD
    refine lv_iconst (v := 0) hx hb dX12_read_66 (by decide) ?_
    refine lv_istore_n (lv' := [(3, .int 0), (2, .int (-1)), (0, .ref h0), (1, .int (nI j))]) hx hb dX12_read_67 rfl hl (by decide) rfl (fun ls hl => ?_)
    refine lv_iload_n hx hb dX12_read_68 rfl (lv_at hl 0 rfl) ?_
    refine lv_aload_n hx hb dX12_read_69 rfl (lv_at hl 2 rfl) ?_
    refine va_get (D := D) (ci := 10) (v := .int 0) (C := "TuneSchoolModel") (T := TX12) (N := 71) hx hb ht iX12 hown hK hP 0 rfl rfl 70 (by decide) (ht _ q5_62) (fun _ h9 => h9) rfl dX12_read_70 ?_
    refine lv_icmp_ge (tgt := 120) hx hb dX12_read_73 (by decide) (fun _ => ?_) (fun c_ => absurd c_ (by decide))
    refine lv_aload_n hx hb dX12_read_120 rfl (lv_at hl 2 rfl) ?_
    refine va_get (D := D) (ci := 10) (v := .int 0) (C := "TuneSchoolModel") (T := TX12) (N := 71) hx hb ht iX12 hown hK hP 0 rfl rfl 70 (by decide) (ht _ q5_62) (fun _ h9 => h9) rfl dX12_read_121 ?_
    exact W.iret (v := 0) hx hb hr (fun t ht hW => ⟨⟨0, (), rfl, (by first | (unfold an_read; (repeat' split) <;> first | rfl | (exfalso; omega)) | rfl | decide), nilP, nilD⟩, hS.F ht⟩) hS.2.2 dX12_read_124
  · skip
    refine lv_if_ne (tgt := 9) hx hb dX12_read_4 (by decide) (fun c_ => absurd c_ (by decide)) (fun _ => ?_)
    refine lv_iconst (v := (-1)) hx hb dX12_read_7 (by decide) ?_
    exact W.iret (v := (-1)) hx hb hr (fun t ht hW => ⟨⟨(-1), (), rfl, (by first | (unfold an_read; (repeat' split) <;> first | rfl | (exfalso; omega)) | rfl | decide), nilP, nilD⟩, hS.F ht⟩) hS.2.2 dX12_read_8
