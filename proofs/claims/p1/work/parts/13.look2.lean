set_option maxHeartbeats 4000000 in
set_option maxRecDepth 100000 in
theorem c_X11_clear (l : Launch) (D : va_G) (k : Nat → ClassId) (h0 : Nat) (r : Nat → Nat) (p0 : Int32)  : CI l yX11_clear cX11_clear 3 (some .int) 1 21 0 0 D k [(h0, .inr (9, oX11 r f9)), ((r 4), .inl (k 4, 16, .inr (.inr (.inr (.inr (fun _ => none))))))] [.ref h0, .int p0] (S := Unit) (fun (r : Int32) (_ : Unit) => r = an_clear p0) (fun _ => []) := by
  intro sz
  refine mtX (Qc := fun A => va_Qi (S := Unit) (fun (r : Int32) (_ : Unit) => r = an_clear p0) (fun u t => WX D A ((fun _ => []) u) t) A) (free := fun A => A) (by decide) (Nat.le_of_ble_eq_true rfl) ?_
  intro p e s m below meth c ls A hB hl
  obtain ⟨hx, hb, hml, hr, hlocks, hnm, hown, ht, hK, hN, hA, hP, hD, hS⟩ := hB
  have hl : lv_has ls 3 [(0, .ref h0), (1, .int p0)] := hl
  refine lv_iload_n hx hb dX11_clear_0 rfl (lv_at hl 1 rfl) ?_
  refine afterP (xS (As := [.int p0]) (rest := []) (wc := []) ⟨hx, hb, hml, hown, ht⟩ (c_X11_isPlace l D k p0 _) hK hN nilP (nilD (A := A)) q2_131 q2_132 q1_1 q2_133 md_X11_isPlace ⟨by decide, by decide⟩ rfl hl.1 rfl (Nat.le_of_ble_eq_true rfl) dX11_clear_1 ⟨by decide, by decide⟩) (fun r_1 h_2 => ?_)
  rcases h_2 with ⟨rfl, h_2⟩ | ⟨rfl, h_2⟩
  · skip
    refine lv_if_ne (tgt := 9) hx hb dX11_clear_4 (by decide) (fun _ => ?_) (fun c_ => absurd c_ (by decide))
    refine lv_aload_n hx hb dX11_clear_9 rfl (lv_at hl 0 rfl) ?_
    refine va_get (D := D) (ci := 9) (v := .ref (r 4)) (C := "TuneSchool") (T := TX11) (N := 17) hx hb ht iX11 hown hK hP 0 rfl rfl 4 (by decide) (ht _ q1_211) (fun _ h9 => h9) rfl dX11_clear_10 ?_
    refine lv_iload_n hx hb dX11_clear_13 rfl (lv_at hl 1 rfl) ?_
    refine ldN hx hb hK hP 1 4 rfl rfl (vin (by omega) (by omega)) rfl dX11_clear_14 ?_
    refine lv_ifnullN (tgt := 22) hx hb dX11_clear_15 (by decide) ?_
    refine lv_iconst (v := 0) hx hb dX11_clear_22 (by decide) ?_
    refine lv_istore_n (lv' := [(2, .int 0), (0, .ref h0), (1, .int p0)]) hx hb dX11_clear_23 rfl hl (by decide) rfl (fun ls hl => ?_)
    refine lv_aload_n hx hb dX11_clear_24 rfl (lv_at hl 1 rfl) ?_
    refine va_get (D := D) (ci := 9) (v := .ref (r 4)) (C := "TuneSchool") (T := TX11) (N := 17) hx hb ht iX11 hown hK hP 0 rfl rfl 4 (by decide) (ht _ q1_211) (fun _ h9 => h9) rfl dX11_clear_25 ?_
    refine lv_iload_n hx hb dX11_clear_28 rfl (lv_at hl 2 rfl) ?_
    refine lv_null hx hb dX11_clear_29 ?_
    refine va_astqN (D := D) hx hb hK hP hD hS 1 4 rfl rfl (vin (by omega) (by omega)) dX11_clear_30 (fun H locs hP hD hS => ?_)
    have hP : va_P D clsL [(h0, .inr (9, oX11 r f9)), ((r 4), .inl (k 4, 16, .inr (.inr (.inr (.inr (va_up (fun _ => none) p0.toNatClampNeg none))))))] H := hP
    have hD : va_D A [(h0, .inr (9, oX11 r f9)), ((r 4), .inl (k 4, 16, .inr (.inr (.inr (.inr (va_up (fun _ => none) p0.toNatClampNeg none))))))] := hD
    refine lv_aload_n hx hb dX11_clear_31 rfl (lv_at hl 1 rfl) ?_
    refine lv_iload_n hx hb dX11_clear_32 rfl (lv_at hl 0 rfl) ?_
    refine afterI (wr := [((r 4), .inl (k 4, 16, .inr (.inr (.inr (.inr (va_up (fun _ => none) p0.toNatClampNeg none))))))]) (xV (As := [.int 0]) (rest := []) (wc := [(h0, .inr (9, oX11 r f9))]) ⟨hx, hb, hml, hown, ht⟩ (c_X11_fine l D k h0 r f9 0 _) hK hN (hP.sub (ws' := [(h0, .inr (9, oX11 r f9))]) [0] rfl) (hD.sub (ws' := [(h0, .inr (9, oX11 r f9))]) [0] (by decide) rfl) 9 0 rfl rfl rfl q2_48 q2_50 qs_2 q1_1 q2_51 md_X11_fine ⟨by decide, by decide⟩ rfl hl.1 rfl (Nat.le_of_ble_eq_true rfl) dX11_clear_33 ⟨by decide, by decide⟩) hP hD hS hA [0] [1] rfl rfl rfl (by decide) (fun r_3 u_4 H locs h_5 hP hD hS => ?_)
    obtain rfl : r_3 = 0 := h_5.trans (by decide)
    have hP : va_P D clsL [((r 4), .inl (k 4, 16, .inr (.inr (.inr (.inr (va_up (fun _ => none) p0.toNatClampNeg none))))))] H := hP
    have hD : va_D A [((r 4), .inl (k 4, 16, .inr (.inr (.inr (.inr (va_up (fun _ => none) p0.toNatClampNeg none))))))] := hD
    exact W.iret (v := 0) hx hb hr (fun t ht hW => ⟨⟨0, (), rfl, (by first | (unfold an_clear; (repeat' split) <;> first | rfl | (exfalso; omega)) | rfl | decide), nilP, nilD⟩, hS.F ht⟩) hS.2.2 dX11_clear_36
  · skip
    refine lv_if_ne (tgt := 9) hx hb dX11_clear_4 (by decide) (fun c_ => absurd c_ (by decide)) (fun _ => ?_)
    refine lv_iconst (v := (-1)) hx hb dX11_clear_7 (by decide) ?_
    exact W.iret (v := (-1)) hx hb hr (fun t ht hW => ⟨⟨(-1), (), rfl, (by first | (unfold an_clear; (repeat' split) <;> first | rfl | (exfalso; omega)) | rfl | decide), nilP, nilD⟩, hS.F ht⟩) hS.2.2 dX11_clear_8
set_option maxHeartbeats 4000000 in
set_option maxRecDepth 100000 in
theorem c_X11_truth (l : Launch) (D : va_G) (k : Nat → ClassId) (h0 : Nat) (r : Nat → Nat) (p0 p1 p2 p3 : Int32)  : CI l yX11_truth cX11_truth 8 (some .int) 1 22 0 0 D k [(h0, .inr (9, oX11 r f9)), ((r 4), .inl (k 4, 16, .inr (.inr (.inr (.inr (fun _ => none))))))] [.ref h0, .int p0, .int p1, .int p2, .int p3] (S := Unit) (fun (r : Int32) (_ : Unit) => r = an_truth p0 p1 p2 p3) (fun _ => []) := by
  intro sz
  refine mtX (Qc := fun A => va_Qi (S := Unit) (fun (r : Int32) (_ : Unit) => r = an_truth p0 p1 p2 p3) (fun u t => WX D A ((fun _ => []) u) t) A) (free := fun A => A) (by decide) (Nat.le_of_ble_eq_true rfl) ?_
  intro p e s m below meth c ls A hB hl
  obtain ⟨hx, hb, hml, hr, hlocks, hnm, hown, ht, hK, hN, hA, hP, hD, hS⟩ := hB
  have hl : lv_has ls 8 [(0, .ref h0), (1, .int p0), (2, .int p1), (3, .int p2), (4, .int p3)] := hl
  refine lv_iload_n hx hb dX11_truth_0 rfl (lv_at hl 1 rfl) ?_
  refine afterP (xS (As := [.int p0]) (rest := []) (wc := []) ⟨hx, hb, hml, hown, ht⟩ (c_X11_isPlace l D k p0 _) hK hN nilP (nilD (A := A)) q2_131 q2_132 q1_1 q2_133 md_X11_isPlace ⟨by decide, by decide⟩ rfl hl.1 rfl (Nat.le_of_ble_eq_true rfl) dX11_truth_1 ⟨by decide, by decide⟩) (fun r_1 h_2 => ?_)
  rcases h_2 with ⟨rfl, h_2⟩ | ⟨rfl, h_2⟩
  · skip
    refine lv_if_eq (tgt := 16) hx hb dX11_truth_4 (by decide) (fun c_ => absurd c_ (by decide)) (fun _ => ?_)
    refine lv_iload_n hx hb dX11_truth_7 rfl (lv_at hl 2 rfl) ?_
    refine lv_iconst (v := 0) hx hb dX11_truth_8 (by decide) ?_
    refine lv_iconst (v := 2) hx hb dX11_truth_9 (by decide) ?_
    refine afterP (xS (As := [.int p1, .int 0, .int 2]) (rest := []) (wc := []) ⟨hx, hb, hml, hown, ht⟩ (c_X11_isWithin l D k p1 0 2 0 2 (by decide) (by decide) _) hK hN nilP (nilD (A := A)) q2_60 q2_61 q1_1 q2_62 md_X11_isWithin ⟨by decide, by decide⟩ rfl hl.1 rfl (Nat.le_of_ble_eq_true rfl) dX11_truth_10 ⟨by decide, by decide⟩) (fun r_3 h_4 => ?_)
    rcases h_4 with ⟨rfl, h_4⟩ | ⟨rfl, h_4⟩
    · skip
      refine lv_if_ne (tgt := 18) hx hb dX11_truth_13 (by decide) (fun _ => ?_) (fun c_ => absurd c_ (by decide))
      refine lv_aload_n hx hb dX11_truth_18 rfl (lv_at hl 0 rfl) ?_
      refine va_get (D := D) (ci := 9) (v := .ref (r 4)) (C := "TuneSchool") (T := TX11) (N := 17) hx hb ht iX11 hown hK hP 0 rfl rfl 4 (by decide) (ht _ q1_211) (fun _ h9 => h9) rfl dX11_truth_19 ?_
      refine lv_iload_n hx hb dX11_truth_22 rfl (lv_at hl 1 rfl) ?_
      refine ldN hx hb hK hP 1 4 rfl rfl (vin (by omega) (by omega)) rfl dX11_truth_23 ?_
      refine lv_astoreN (lv' := [(5, .null), (0, .ref h0), (1, .int p0), (2, .int p1), (3, .int p2), (4, .int p3)]) hx hb dX11_truth_24 hl (by decide) rfl (fun ls hl => ?_)
      refine lv_aloadN hx hb dX11_truth_26 (lv_at hl 0 rfl) ?_
      refine lv_ifnonnullN hx hb dX11_truth_28 ?_
      refine lv_aload_n hx hb dX11_truth_31 rfl (lv_at hl 1 rfl) ?_
      refine lv_iconst (v := 1) hx hb dX11_truth_32 (by decide) ?_
      refine afterI (wr := [((r 4), .inl (k 4, 16, .inr (.inr (.inr (.inr (fun _ => none))))))]) (xV (As := [.int 1]) (rest := []) (wc := [(h0, .inr (9, oX11 r f9))]) ⟨hx, hb, hml, hown, ht⟩ (c_X11_finding l D k h0 r f9 1 _) hK hN (hP.sub (ws' := [(h0, .inr (9, oX11 r f9))]) [0] rfl) (hD.sub (ws' := [(h0, .inr (9, oX11 r f9))]) [0] (by decide) rfl) 9 0 rfl rfl rfl q2_26 q2_28 qs_0 q1_1 q2_29 md_X11_finding ⟨by decide, by decide⟩ rfl hl.1 rfl (Nat.le_of_ble_eq_true rfl) dX11_truth_33 ⟨by decide, by decide⟩) hP hD hS hA [0] [1] rfl rfl rfl (by decide) (fun r_5 u_6 H locs h_7 hP hD hS => ?_)
      obtain rfl : r_5 = (-11) := h_7.trans (by decide)
      have hP : va_P D clsL [((r 4), .inl (k 4, 16, .inr (.inr (.inr (.inr (fun _ => none))))))] H := hP
      have hD : va_D A [((r 4), .inl (k 4, 16, .inr (.inr (.inr (.inr (fun _ => none))))))] := hD
      exact W.iret (v := (-11)) hx hb hr (fun t ht hW => ⟨⟨(-11), (), rfl, (by first | (unfold an_truth; (repeat' split) <;> first | rfl | (exfalso; omega)) | rfl | decide), nilP, nilD⟩, hS.F ht⟩) hS.2.2 dX11_truth_36
    · skip
      refine lv_if_ne (tgt := 18) hx hb dX11_truth_13 (by decide) (fun c_ => absurd c_ (by decide)) (fun _ => ?_)
      refine lv_iconst (v := (-1)) hx hb dX11_truth_16 (by decide) ?_
      exact W.iret (v := (-1)) hx hb hr (fun t ht hW => ⟨⟨(-1), (), rfl, (by first | (unfold an_truth; (repeat' split) <;> first | rfl | (exfalso; omega)) | rfl | decide), nilP, nilD⟩, hS.F ht⟩) hS.2.2 dX11_truth_17
  · skip
    refine lv_if_eq (tgt := 16) hx hb dX11_truth_4 (by decide) (fun _ => ?_) (fun c_ => absurd c_ (by decide))
    refine lv_iconst (v := (-1)) hx hb dX11_truth_16 (by decide) ?_
    exact W.iret (v := (-1)) hx hb hr (fun t ht hW => ⟨⟨(-1), (), rfl, (by first | (unfold an_truth; (repeat' split) <;> first | rfl | (exfalso; omega)) | rfl | decide), nilP, nilD⟩, hS.F ht⟩) hS.2.2 dX11_truth_17
set_option maxHeartbeats 4000000 in
set_option maxRecDepth 100000 in
theorem c_X11_is (l : Launch) (D : va_G) (k : Nat → ClassId) (h0 : Nat) (r : Nat → Nat) (p0 p1 : Int32)  : CI l yX11_is cX11_is 3 (some .int) 1 22 0 0 D k [(h0, .inr (9, oX11 r f9)), ((r 4), .inl (k 4, 16, .inr (.inr (.inr (.inr (fun _ => none))))))] [.ref h0, .int p0, .int p1] (S := Unit) (fun (r : Int32) (_ : Unit) => r = an_is p0 p1) (fun _ => []) := by
  intro sz
  refine mtX (Qc := fun A => va_Qi (S := Unit) (fun (r : Int32) (_ : Unit) => r = an_is p0 p1) (fun u t => WX D A ((fun _ => []) u) t) A) (free := fun A => A) (by decide) (Nat.le_of_ble_eq_true rfl) ?_
  intro p e s m below meth c ls A hB hl
  obtain ⟨hx, hb, hml, hr, hlocks, hnm, hown, ht, hK, hN, hA, hP, hD, hS⟩ := hB
  have hl : lv_has ls 3 [(0, .ref h0), (1, .int p0), (2, .int p1)] := hl
  refine lv_iload_n hx hb dX11_is_0 rfl (lv_at hl 1 rfl) ?_
  refine afterP (xS (As := [.int p0]) (rest := []) (wc := []) ⟨hx, hb, hml, hown, ht⟩ (c_X11_isPlace l D k p0 _) hK hN nilP (nilD (A := A)) q2_131 q2_132 q1_1 q2_133 md_X11_isPlace ⟨by decide, by decide⟩ rfl hl.1 rfl (Nat.le_of_ble_eq_true rfl) dX11_is_1 ⟨by decide, by decide⟩) (fun r_1 h_2 => ?_)
  rcases h_2 with ⟨rfl, h_2⟩ | ⟨rfl, h_2⟩
  · skip
    refine lv_if_eq (tgt := 16) hx hb dX11_is_4 (by decide) (fun c_ => absurd c_ (by decide)) (fun _ => ?_)
    refine lv_iload_n hx hb dX11_is_7 rfl (lv_at hl 2 rfl) ?_
    refine lv_iconst (v := 0) hx hb dX11_is_8 (by decide) ?_
    refine lv_iconst (v := 4) hx hb dX11_is_9 (by decide) ?_
    refine afterP (xS (As := [.int p1, .int 0, .int 4]) (rest := []) (wc := []) ⟨hx, hb, hml, hown, ht⟩ (c_X11_isWithin l D k p1 0 4 0 4 (by decide) (by decide) _) hK hN nilP (nilD (A := A)) q2_60 q2_61 q1_1 q2_62 md_X11_isWithin ⟨by decide, by decide⟩ rfl hl.1 rfl (Nat.le_of_ble_eq_true rfl) dX11_is_10 ⟨by decide, by decide⟩) (fun r_3 h_4 => ?_)
    rcases h_4 with ⟨rfl, h_4⟩ | ⟨rfl, h_4⟩
    · skip
      refine lv_if_ne (tgt := 18) hx hb dX11_is_13 (by decide) (fun _ => ?_) (fun c_ => absurd c_ (by decide))
      refine lv_aload_n hx hb dX11_is_18 rfl (lv_at hl 0 rfl) ?_
      refine lv_aload_n hx hb dX11_is_19 rfl (lv_at hl 0 rfl) ?_
      refine va_get (D := D) (ci := 9) (v := .ref (r 4)) (C := "TuneSchool") (T := TX11) (N := 17) hx hb ht iX11 hown hK hP 0 rfl rfl 4 (by decide) (ht _ q1_211) (fun _ h9 => h9) rfl dX11_is_20 ?_
      refine lv_iload_n hx hb dX11_is_23 rfl (lv_at hl 1 rfl) ?_
      refine ldN hx hb hK hP 1 4 rfl rfl (vin (by omega) (by omega)) rfl dX11_is_24 ?_
      refine lv_iload_n hx hb dX11_is_25 rfl (lv_at hl 2 rfl) ?_
      refine afterP (xS (As := [.null, .int p1]) (rest := [.ref h0]) (wc := []) ⟨hx, hb, hml, hown, ht⟩ (c_X11_standsAs l D k p1 _) hK hN nilP (nilD (A := A)) q2_205 q2_206 q1_1 q2_207 md_X11_standsAs ⟨by decide, by decide⟩ rfl hl.1 rfl (Nat.le_of_ble_eq_true rfl) dX11_is_26 ⟨by decide, by decide⟩) (fun r_5 h_6 => ?_)
      obtain rfl := h_6
      refine lv_if_eq (tgt := 36) hx hb dX11_is_29 (by decide) (fun _ => ?_) (fun c_ => absurd c_ (by decide))
      refine lv_iconst (v := 0) hx hb dX11_is_36 (by decide) ?_
      refine afterI (wr := [((r 4), .inl (k 4, 16, .inr (.inr (.inr (.inr (fun _ => none))))))]) (xV (As := [.int 0]) (rest := []) (wc := [(h0, .inr (9, oX11 r f9))]) ⟨hx, hb, hml, hown, ht⟩ (c_X11_fine l D k h0 r f9 0 _) hK hN (hP.sub (ws' := [(h0, .inr (9, oX11 r f9))]) [0] rfl) (hD.sub (ws' := [(h0, .inr (9, oX11 r f9))]) [0] (by decide) rfl) 9 0 rfl rfl rfl q2_48 q2_50 qs_2 q1_1 q2_51 md_X11_fine ⟨by decide, by decide⟩ rfl hl.1 rfl (Nat.le_of_ble_eq_true rfl) dX11_is_37 ⟨by decide, by decide⟩) hP hD hS hA [0] [1] rfl rfl rfl (by decide) (fun r_7 u_8 H locs h_9 hP hD hS => ?_)
      obtain rfl : r_7 = 0 := h_9.trans (by decide)
      have hP : va_P D clsL [((r 4), .inl (k 4, 16, .inr (.inr (.inr (.inr (fun _ => none))))))] H := hP
      have hD : va_D A [((r 4), .inl (k 4, 16, .inr (.inr (.inr (.inr (fun _ => none))))))] := hD
      exact W.iret (v := 0) hx hb hr (fun t ht hW => ⟨⟨0, (), rfl, (by first | (unfold an_is; (repeat' split) <;> first | rfl | (exfalso; omega)) | rfl | decide), nilP, nilD⟩, hS.F ht⟩) hS.2.2 dX11_is_40
    · skip
      refine lv_if_ne (tgt := 18) hx hb dX11_is_13 (by decide) (fun c_ => absurd c_ (by decide)) (fun _ => ?_)
      refine lv_iconst (v := (-1)) hx hb dX11_is_16 (by decide) ?_
      exact W.iret (v := (-1)) hx hb hr (fun t ht hW => ⟨⟨(-1), (), rfl, (by first | (unfold an_is; (repeat' split) <;> first | rfl | (exfalso; omega)) | rfl | decide), nilP, nilD⟩, hS.F ht⟩) hS.2.2 dX11_is_17
  · skip
    refine lv_if_eq (tgt := 16) hx hb dX11_is_4 (by decide) (fun _ => ?_) (fun c_ => absurd c_ (by decide))
    refine lv_iconst (v := (-1)) hx hb dX11_is_16 (by decide) ?_
    exact W.iret (v := (-1)) hx hb hr (fun t ht hW => ⟨⟨(-1), (), rfl, (by first | (unfold an_is; (repeat' split) <;> first | rfl | (exfalso; omega)) | rfl | decide), nilP, nilD⟩, hS.F ht⟩) hS.2.2 dX11_is_17
set_option maxHeartbeats 4000000 in
set_option maxRecDepth 100000 in
theorem c_X11_seat (l : Launch) (D : va_G) (k : Nat → ClassId) (h0 : Nat) (r : Nat → Nat) (p0 p1 p2 : Int32)  : CI l yX11_seat cX11_seat 7 (some .int) 1 21 0 0 D k [(h0, .inr (9, oX11 r f9)), ((r 4), .inl (k 4, 16, .inr (.inr (.inr (.inr (fun _ => none))))))] [.ref h0, .int p0, .int p1, .int p2] (S := Unit) (fun (r : Int32) (_ : Unit) => r = an_seat p0 p1 p2) (fun _ => []) := by
  intro sz
  refine mtX (Qc := fun A => va_Qi (S := Unit) (fun (r : Int32) (_ : Unit) => r = an_seat p0 p1 p2) (fun u t => WX D A ((fun _ => []) u) t) A) (free := fun A => A) (by decide) (Nat.le_of_ble_eq_true rfl) ?_
  intro p e s m below meth c ls A hB hl
  obtain ⟨hx, hb, hml, hr, hlocks, hnm, hown, ht, hK, hN, hA, hP, hD, hS⟩ := hB
  have hl : lv_has ls 7 [(0, .ref h0), (1, .int p0), (2, .int p1), (3, .int p2)] := hl
  refine lv_iload_n hx hb dX11_seat_0 rfl (lv_at hl 1 rfl) ?_
  refine afterP (xS (As := [.int p0]) (rest := []) (wc := []) ⟨hx, hb, hml, hown, ht⟩ (c_X11_isPlace l D k p0 _) hK hN nilP (nilD (A := A)) q2_131 q2_132 q1_1 q2_133 md_X11_isPlace ⟨by decide, by decide⟩ rfl hl.1 rfl (Nat.le_of_ble_eq_true rfl) dX11_seat_1 ⟨by decide, by decide⟩) (fun r_1 h_2 => ?_)
  rcases h_2 with ⟨rfl, h_2⟩ | ⟨rfl, h_2⟩
  · skip
    refine lv_if_eq (tgt := 14) hx hb dX11_seat_4 (by decide) (fun c_ => absurd c_ (by decide)) (fun _ => ?_)
    refine lv_iload_n hx hb dX11_seat_7 rfl (lv_at hl 3 rfl) ?_
    refine afterP (xS (As := [.int p2]) (rest := []) (wc := []) ⟨hx, hb, hml, hown, ht⟩ (c_X11_isPlace l D k p2 _) hK hN nilP (nilD (A := A)) q2_131 q2_132 q1_1 q2_133 md_X11_isPlace ⟨by decide, by decide⟩ rfl hl.1 rfl (Nat.le_of_ble_eq_true rfl) dX11_seat_8 ⟨by decide, by decide⟩) (fun r_3 h_4 => ?_)
    rcases h_4 with ⟨rfl, h_4⟩ | ⟨rfl, h_4⟩
    · skip
      refine lv_if_ne (tgt := 16) hx hb dX11_seat_11 (by decide) (fun _ => ?_) (fun c_ => absurd c_ (by decide))
      refine lv_aload_n hx hb dX11_seat_16 rfl (lv_at hl 0 rfl) ?_
      refine va_get (D := D) (ci := 9) (v := .ref (r 4)) (C := "TuneSchool") (T := TX11) (N := 17) hx hb ht iX11 hown hK hP 0 rfl rfl 4 (by decide) (ht _ q1_211) (fun _ h9 => h9) rfl dX11_seat_17 ?_
      refine lv_iload_n hx hb dX11_seat_20 rfl (lv_at hl 1 rfl) ?_
      refine ldN hx hb hK hP 1 4 rfl rfl (vin (by omega) (by omega)) rfl dX11_seat_21 ?_
      refine lv_astoreN (lv' := [(4, .null), (0, .ref h0), (1, .int p0), (2, .int p1), (3, .int p2)]) hx hb dX11_seat_22 hl (by decide) rfl (fun ls hl => ?_)
      refine lv_aload_n hx hb dX11_seat_24 rfl (lv_at hl 1 rfl) ?_
      refine va_get (D := D) (ci := 9) (v := .ref (r 4)) (C := "TuneSchool") (T := TX11) (N := 17) hx hb ht iX11 hown hK hP 0 rfl rfl 4 (by decide) (ht _ q1_211) (fun _ h9 => h9) rfl dX11_seat_25 ?_
      refine lv_iload_n hx hb dX11_seat_28 rfl (lv_at hl 4 rfl) ?_
      refine ldN hx hb hK hP 1 4 rfl rfl (vin (by omega) (by omega)) rfl dX11_seat_29 ?_
      refine lv_astoreN (lv' := [(5, .null), (4, .null), (0, .ref h0), (1, .int p0), (2, .int p1), (3, .int p2)]) hx hb dX11_seat_30 hl (by decide) rfl (fun ls hl => ?_)
      refine lv_aloadN hx hb dX11_seat_32 (lv_at hl 1 rfl) ?_
      refine lv_instN hx hb dX11_seat_34 ?_
      refine lv_if_ne (tgt := 48) hx hb dX11_seat_37 (by decide) (fun c_ => absurd c_ (by decide)) (fun _ => ?_)
      refine lv_aloadN hx hb dX11_seat_40 (lv_at hl 0 rfl) ?_
      refine lv_instN hx hb dX11_seat_42 ?_
      refine lv_if_eq (tgt := 54) hx hb dX11_seat_45 (by decide) (fun _ => ?_) (fun c_ => absurd c_ (by decide))
      refine lv_aloadN hx hb dX11_seat_54 (lv_at hl 1 rfl) ?_
      refine lv_instN hx hb dX11_seat_56 ?_
      refine lv_if_ne (tgt := 68) hx hb dX11_seat_59 (by decide) (fun c_ => absurd c_ (by decide)) (fun _ => ?_)
      refine lv_aload_n hx hb dX11_seat_62 rfl (lv_at hl 2 rfl) ?_
      refine lv_iconst (v := 1) hx hb dX11_seat_63 (by decide) ?_
      refine afterI (wr := [((r 4), .inl (k 4, 16, .inr (.inr (.inr (.inr (fun _ => none))))))]) (xV (As := [.int 1]) (rest := []) (wc := [(h0, .inr (9, oX11 r f9))]) ⟨hx, hb, hml, hown, ht⟩ (c_X11_finding l D k h0 r f9 1 _) hK hN (hP.sub (ws' := [(h0, .inr (9, oX11 r f9))]) [0] rfl) (hD.sub (ws' := [(h0, .inr (9, oX11 r f9))]) [0] (by decide) rfl) 9 0 rfl rfl rfl q2_26 q2_28 qs_0 q1_1 q2_29 md_X11_finding ⟨by decide, by decide⟩ rfl hl.1 rfl (Nat.le_of_ble_eq_true rfl) dX11_seat_64 ⟨by decide, by decide⟩) hP hD hS hA [0] [1] rfl rfl rfl (by decide) (fun r_5 u_6 H locs h_7 hP hD hS => ?_)
      obtain rfl : r_5 = (-11) := h_7.trans (by decide)
      have hP : va_P D clsL [((r 4), .inl (k 4, 16, .inr (.inr (.inr (.inr (fun _ => none))))))] H := hP
      have hD : va_D A [((r 4), .inl (k 4, 16, .inr (.inr (.inr (.inr (fun _ => none))))))] := hD
      exact W.iret (v := (-11)) hx hb hr (fun t ht hW => ⟨⟨(-11), (), rfl, (by first | (unfold an_seat; (repeat' split) <;> first | rfl | (exfalso; omega)) | rfl | decide), nilP, nilD⟩, hS.F ht⟩) hS.2.2 dX11_seat_67
    · skip
      refine lv_if_ne (tgt := 16) hx hb dX11_seat_11 (by decide) (fun c_ => absurd c_ (by decide)) (fun _ => ?_)
      refine lv_iconst (v := (-1)) hx hb dX11_seat_14 (by decide) ?_
      exact W.iret (v := (-1)) hx hb hr (fun t ht hW => ⟨⟨(-1), (), rfl, (by first | (unfold an_seat; (repeat' split) <;> first | rfl | (exfalso; omega)) | rfl | decide), nilP, nilD⟩, hS.F ht⟩) hS.2.2 dX11_seat_15
  · skip
    refine lv_if_eq (tgt := 14) hx hb dX11_seat_4 (by decide) (fun _ => ?_) (fun c_ => absurd c_ (by decide))
    refine lv_iconst (v := (-1)) hx hb dX11_seat_14 (by decide) ?_
    exact W.iret (v := (-1)) hx hb hr (fun t ht hW => ⟨⟨(-1), (), rfl, (by first | (unfold an_seat; (repeat' split) <;> first | rfl | (exfalso; omega)) | rfl | decide), nilP, nilD⟩, hS.F ht⟩) hS.2.2 dX11_seat_15
set_option maxHeartbeats 4000000 in
set_option maxRecDepth 100000 in
theorem c_X11_seated (l : Launch) (D : va_G) (k : Nat → ClassId) (h0 : Nat) (r : Nat → Nat) (p0 p1 : Int32)  : CI l yX11_seated cX11_seated 5 (some .int) 1 21 0 0 D k [(h0, .inr (9, oX11 r f9)), ((r 4), .inl (k 4, 16, .inr (.inr (.inr (.inr (fun _ => none))))))] [.ref h0, .int p0, .int p1] (S := Unit) (fun (r : Int32) (_ : Unit) => r = an_seated p0 p1) (fun _ => []) := by
  intro sz
  refine mtX (Qc := fun A => va_Qi (S := Unit) (fun (r : Int32) (_ : Unit) => r = an_seated p0 p1) (fun u t => WX D A ((fun _ => []) u) t) A) (free := fun A => A) (by decide) (Nat.le_of_ble_eq_true rfl) ?_
  intro p e s m below meth c ls A hB hl
  obtain ⟨hx, hb, hml, hr, hlocks, hnm, hown, ht, hK, hN, hA, hP, hD, hS⟩ := hB
  have hl : lv_has ls 5 [(0, .ref h0), (1, .int p0), (2, .int p1)] := hl
  refine lv_iload_n hx hb dX11_seated_0 rfl (lv_at hl 1 rfl) ?_
  refine afterP (xS (As := [.int p0]) (rest := []) (wc := []) ⟨hx, hb, hml, hown, ht⟩ (c_X11_isPlace l D k p0 _) hK hN nilP (nilD (A := A)) q2_131 q2_132 q1_1 q2_133 md_X11_isPlace ⟨by decide, by decide⟩ rfl hl.1 rfl (Nat.le_of_ble_eq_true rfl) dX11_seated_1 ⟨by decide, by decide⟩) (fun r_1 h_2 => ?_)
  rcases h_2 with ⟨rfl, h_2⟩ | ⟨rfl, h_2⟩
  · skip
    refine lv_if_ne (tgt := 9) hx hb dX11_seated_4 (by decide) (fun _ => ?_) (fun c_ => absurd c_ (by decide))
    refine lv_aload_n hx hb dX11_seated_9 rfl (lv_at hl 0 rfl) ?_
    refine va_get (D := D) (ci := 9) (v := .ref (r 4)) (C := "TuneSchool") (T := TX11) (N := 17) hx hb ht iX11 hown hK hP 0 rfl rfl 4 (by decide) (ht _ q1_211) (fun _ h9 => h9) rfl dX11_seated_10 ?_
    refine lv_iload_n hx hb dX11_seated_13 rfl (lv_at hl 1 rfl) ?_
    refine ldN hx hb hK hP 1 4 rfl rfl (vin (by omega) (by omega)) rfl dX11_seated_14 ?_
    refine lv_ifnonnullN hx hb dX11_seated_15 ?_
    refine lv_aload_n hx hb dX11_seated_18 rfl (lv_at hl 0 rfl) ?_
    refine lv_iconst (v := 1) hx hb dX11_seated_19 (by decide) ?_
    refine afterI (wr := [((r 4), .inl (k 4, 16, .inr (.inr (.inr (.inr (fun _ => none))))))]) (xV (As := [.int 1]) (rest := []) (wc := [(h0, .inr (9, oX11 r f9))]) ⟨hx, hb, hml, hown, ht⟩ (c_X11_finding l D k h0 r f9 1 _) hK hN (hP.sub (ws' := [(h0, .inr (9, oX11 r f9))]) [0] rfl) (hD.sub (ws' := [(h0, .inr (9, oX11 r f9))]) [0] (by decide) rfl) 9 0 rfl rfl rfl q2_26 q2_28 qs_0 q1_1 q2_29 md_X11_finding ⟨by decide, by decide⟩ rfl hl.1 rfl (Nat.le_of_ble_eq_true rfl) dX11_seated_20 ⟨by decide, by decide⟩) hP hD hS hA [0] [1] rfl rfl rfl (by decide) (fun r_3 u_4 H locs h_5 hP hD hS => ?_)
    obtain rfl : r_3 = (-11) := h_5.trans (by decide)
    have hP : va_P D clsL [((r 4), .inl (k 4, 16, .inr (.inr (.inr (.inr (fun _ => none))))))] H := hP
    have hD : va_D A [((r 4), .inl (k 4, 16, .inr (.inr (.inr (.inr (fun _ => none))))))] := hD
    exact W.iret (v := (-11)) hx hb hr (fun t ht hW => ⟨⟨(-11), (), rfl, (by first | (unfold an_seated; (repeat' split) <;> first | rfl | (exfalso; omega)) | rfl | decide), nilP, nilD⟩, hS.F ht⟩) hS.2.2 dX11_seated_23
  · skip
    refine lv_if_ne (tgt := 9) hx hb dX11_seated_4 (by decide) (fun c_ => absurd c_ (by decide)) (fun _ => ?_)
    refine lv_iconst (v := (-1)) hx hb dX11_seated_7 (by decide) ?_
    exact W.iret (v := (-1)) hx hb hr (fun t ht hW => ⟨⟨(-1), (), rfl, (by first | (unfold an_seated; (repeat' split) <;> first | rfl | (exfalso; omega)) | rfl | decide), nilP, nilD⟩, hS.F ht⟩) hS.2.2 dX11_seated_8
set_option maxHeartbeats 4000000 in
set_option maxRecDepth 100000 in
theorem c_X11_strong (l : Launch) (D : va_G) (k : Nat → ClassId) (h0 : Nat) (r : Nat → Nat) (rm : Nat → Nat) (p0 : Int32)  : CI l yX11_strong cX11_strong 3 (some .int) 1 22 0 0 D k [(h0, .inr (9, oX11 r f9)), ((r 5), .inr (5, oX5 rm f5))] [.ref h0, .int p0] (S := Unit) (fun (r : Int32) (_ : Unit) => r = an_strong p0) (fun _ => []) := by
  intro sz
  refine mtX (Qc := fun A => va_Qi (S := Unit) (fun (r : Int32) (_ : Unit) => r = an_strong p0) (fun u t => WX D A ((fun _ => []) u) t) A) (free := fun A => A) (by decide) (Nat.le_of_ble_eq_true rfl) ?_
  intro p e s m below meth c ls A hB hl
  obtain ⟨hx, hb, hml, hr, hlocks, hnm, hown, ht, hK, hN, hA, hP, hD, hS⟩ := hB
  have hl : lv_has ls 3 [(0, .ref h0), (1, .int p0)] := hl
  refine lv_iload_n hx hb dX11_strong_0 rfl (lv_at hl 1 rfl) ?_
  refine lv_iconst (v := 1) hx hb dX11_strong_1 (by decide) ?_
  refine lv_bipush (v := 16) hx hb dX11_strong_2 (by decide) ?_
  refine afterP (xS (As := [.int p0, .int 1, .int 16]) (rest := []) (wc := []) ⟨hx, hb, hml, hown, ht⟩ (c_X11_isWithin l D k p0 1 16 1 16 (by decide) (by decide) _) hK hN nilP (nilD (A := A)) q2_60 q2_61 q1_1 q2_62 md_X11_isWithin ⟨by decide, by decide⟩ rfl hl.1 rfl (Nat.le_of_ble_eq_true rfl) dX11_strong_4 ⟨by decide, by decide⟩) (fun r_1 h_2 => ?_)
  rcases h_2 with ⟨rfl, h_2⟩ | ⟨rfl, h_2⟩
  · skip
    refine lv_if_ne (tgt := 12) hx hb dX11_strong_7 (by decide) (fun _ => ?_) (fun c_ => absurd c_ (by decide))
    refine lv_aload_n hx hb dX11_strong_12 rfl (lv_at hl 0 rfl) ?_
    refine va_get (D := D) (ci := 9) (v := .ref (r 5)) (C := "TuneSchool") (T := TX11) (N := 17) hx hb ht iX11 hown hK hP 0 rfl rfl 5 (by decide) (ht _ q1_212) (fun _ h9 => h9) rfl dX11_strong_13 ?_
    refine va_get (D := D) (ci := 5) (v := .int 4) (C := "TuneSchool$Moment") (T := TX5) (N := 11) hx hb ht iX5 hown hK hP 1 rfl rfl 3 (by decide) (ht _ q1_74) (fun _ h9 => h9) rfl dX11_strong_16 ?_
    refine lv_istore_n (lv' := [(2, .int 4), (0, .ref h0), (1, .int p0)]) hx hb dX11_strong_19 rfl hl (by decide) rfl (fun ls hl => ?_)
    refine lv_aload_n hx hb dX11_strong_20 rfl (lv_at hl 1 rfl) ?_
    refine va_get (D := D) (ci := 9) (v := .ref (r 5)) (C := "TuneSchool") (T := TX11) (N := 17) hx hb ht iX11 hown hK hP 0 rfl rfl 5 (by decide) (ht _ q1_212) (fun _ h9 => h9) rfl dX11_strong_21 ?_
    refine lv_iload_n hx hb dX11_strong_24 rfl (lv_at hl 2 rfl) ?_
    refine va_put (D := D) (ci := 5) (v := .int p0) (ty := .int) (C := "TuneSchool$Moment") (T := TX5) (N := 11) hx hb ht iX5 tyX5 tyX5_ok nmX5 hown hK hP hD hS 1 rfl rfl 3 (by decide) (ht _ q1_74) (fun _ h9 => h9) rfl (by decide +kernel) rfl rfl (Nat.le_of_ble_eq_true rfl) dX11_strong_25 (fun H locs hP hD hS => ?_)
    have hP : va_P D clsL [(h0, .inr (9, oX11 r f9)), ((r 5), .inr (5, oX5 rm (va_up f5 3 p0)))] H := hP
    have hD : va_D A [(h0, .inr (9, oX11 r f9)), ((r 5), .inr (5, oX5 rm (va_up f5 3 p0)))] := hD
    refine lv_aload_n hx hb dX11_strong_28 rfl (lv_at hl 1 rfl) ?_
    refine lv_iload_n hx hb dX11_strong_29 rfl (lv_at hl 0 rfl) ?_
    refine afterI (wr := [((r 5), .inr (5, oX5 rm (va_up f5 3 p0)))]) (xV (As := [.int 4]) (rest := []) (wc := [(h0, .inr (9, oX11 r f9))]) ⟨hx, hb, hml, hown, ht⟩ (c_X11_fine l D k h0 r f9 4 _) hK hN (hP.sub (ws' := [(h0, .inr (9, oX11 r f9))]) [0] rfl) (hD.sub (ws' := [(h0, .inr (9, oX11 r f9))]) [0] (by decide) rfl) 9 0 rfl rfl rfl q2_48 q2_50 qs_2 q1_1 q2_51 md_X11_fine ⟨by decide, by decide⟩ rfl hl.1 rfl (Nat.le_of_ble_eq_true rfl) dX11_strong_30 ⟨by decide, by decide⟩) hP hD hS hA [0] [1] rfl rfl rfl (by decide) (fun r_3 u_4 H locs h_5 hP hD hS => ?_)
    obtain rfl : r_3 = 4 := h_5.trans (by decide)
    have hP : va_P D clsL [((r 5), .inr (5, oX5 rm (va_up f5 3 p0)))] H := hP
    have hD : va_D A [((r 5), .inr (5, oX5 rm (va_up f5 3 p0)))] := hD
    exact W.iret (v := 4) hx hb hr (fun t ht hW => ⟨⟨4, (), rfl, (by first | (unfold an_strong; (repeat' split) <;> first | rfl | (exfalso; omega)) | rfl | decide), nilP, nilD⟩, hS.F ht⟩) hS.2.2 dX11_strong_33
  · skip
    refine lv_if_ne (tgt := 12) hx hb dX11_strong_7 (by decide) (fun c_ => absurd c_ (by decide)) (fun _ => ?_)
    refine lv_iconst (v := (-1)) hx hb dX11_strong_10 (by decide) ?_
    exact W.iret (v := (-1)) hx hb hr (fun t ht hW => ⟨⟨(-1), (), rfl, (by first | (unfold an_strong; (repeat' split) <;> first | rfl | (exfalso; omega)) | rfl | decide), nilP, nilD⟩, hS.F ht⟩) hS.2.2 dX11_strong_11
set_option maxHeartbeats 4000000 in
set_option maxRecDepth 100000 in
theorem c_X11_key (l : Launch) (D : va_G) (k : Nat → ClassId) (h0 : Nat) (r : Nat → Nat) (rd : Nat → Nat) (p0 : Int32)  : CI l yX11_key cX11_key 3 (some .int) 1 22 0 0 D k [(h0, .inr (9, oX11 r f9)), ((r 6), .inr (1, oX1 rd f1))] [.ref h0, .int p0] (S := Unit) (fun (r : Int32) (_ : Unit) => r = an_key p0) (fun _ => []) := by
  intro sz
  refine mtX (Qc := fun A => va_Qi (S := Unit) (fun (r : Int32) (_ : Unit) => r = an_key p0) (fun u t => WX D A ((fun _ => []) u) t) A) (free := fun A => A) (by decide) (Nat.le_of_ble_eq_true rfl) ?_
  intro p e s m below meth c ls A hB hl
  obtain ⟨hx, hb, hml, hr, hlocks, hnm, hown, ht, hK, hN, hA, hP, hD, hS⟩ := hB
  have hl : lv_has ls 3 [(0, .ref h0), (1, .int p0)] := hl
  refine lv_iload_n hx hb dX11_key_0 rfl (lv_at hl 1 rfl) ?_
  refine lv_iconst (v := 0) hx hb dX11_key_1 (by decide) ?_
  refine lv_sipush (v := 4095) hx hb dX11_key_2 (by decide) ?_
  refine afterP (xS (As := [.int p0, .int 0, .int 4095]) (rest := []) (wc := []) ⟨hx, hb, hml, hown, ht⟩ (c_X11_isWithin l D k p0 0 4095 0 4095 (by decide) (by decide) _) hK hN nilP (nilD (A := A)) q2_60 q2_61 q1_1 q2_62 md_X11_isWithin ⟨by decide, by decide⟩ rfl hl.1 rfl (Nat.le_of_ble_eq_true rfl) dX11_key_5 ⟨by decide, by decide⟩) (fun r_1 h_2 => ?_)
  rcases h_2 with ⟨rfl, h_2⟩ | ⟨rfl, h_2⟩
  · skip
    refine lv_if_ne (tgt := 13) hx hb dX11_key_8 (by decide) (fun _ => ?_) (fun c_ => absurd c_ (by decide))
    refine lv_aload_n hx hb dX11_key_13 rfl (lv_at hl 0 rfl) ?_
    refine va_get (D := D) (ci := 9) (v := .ref (r 6)) (C := "TuneSchool") (T := TX11) (N := 17) hx hb ht iX11 hown hK hP 0 rfl rfl 6 (by decide) (ht _ q1_213) (fun _ h9 => h9) rfl dX11_key_14 ?_
    refine va_get (D := D) (ci := 1) (v := .int 4095) (C := "TuneSchool$Desk") (T := TX1) (N := 17) hx hb ht iX1 hown hK hP 1 rfl rfl 2 (by decide) (ht _ q1_133) (fun _ h9 => h9) rfl dX11_key_17 ?_
    refine lv_istore_n (lv' := [(2, .int 4095), (0, .ref h0), (1, .int p0)]) hx hb dX11_key_20 rfl hl (by decide) rfl (fun ls hl => ?_)
    refine lv_aload_n hx hb dX11_key_21 rfl (lv_at hl 1 rfl) ?_
    refine va_get (D := D) (ci := 9) (v := .ref (r 6)) (C := "TuneSchool") (T := TX11) (N := 17) hx hb ht iX11 hown hK hP 0 rfl rfl 6 (by decide) (ht _ q1_213) (fun _ h9 => h9) rfl dX11_key_22 ?_
    refine lv_iload_n hx hb dX11_key_25 rfl (lv_at hl 2 rfl) ?_
    refine va_put (D := D) (ci := 1) (v := .int p0) (ty := .int) (C := "TuneSchool$Desk") (T := TX1) (N := 17) hx hb ht iX1 tyX1 tyX1_ok nmX1 hown hK hP hD hS 1 rfl rfl 2 (by decide) (ht _ q1_133) (fun _ h9 => h9) rfl (by decide +kernel) rfl rfl (Nat.le_of_ble_eq_true rfl) dX11_key_26 (fun H locs hP hD hS => ?_)
    have hP : va_P D clsL [(h0, .inr (9, oX11 r f9)), ((r 6), .inr (1, oX1 rd (va_up f1 2 p0)))] H := hP
    have hD : va_D A [(h0, .inr (9, oX11 r f9)), ((r 6), .inr (1, oX1 rd (va_up f1 2 p0)))] := hD
    refine lv_aload_n hx hb dX11_key_29 rfl (lv_at hl 1 rfl) ?_
    refine lv_iload_n hx hb dX11_key_30 rfl (lv_at hl 0 rfl) ?_
    refine afterI (wr := [((r 6), .inr (1, oX1 rd (va_up f1 2 p0)))]) (xV (As := [.int 4095]) (rest := []) (wc := [(h0, .inr (9, oX11 r f9))]) ⟨hx, hb, hml, hown, ht⟩ (c_X11_fine l D k h0 r f9 4095 _) hK hN (hP.sub (ws' := [(h0, .inr (9, oX11 r f9))]) [0] rfl) (hD.sub (ws' := [(h0, .inr (9, oX11 r f9))]) [0] (by decide) rfl) 9 0 rfl rfl rfl q2_48 q2_50 qs_2 q1_1 q2_51 md_X11_fine ⟨by decide, by decide⟩ rfl hl.1 rfl (Nat.le_of_ble_eq_true rfl) dX11_key_31 ⟨by decide, by decide⟩) hP hD hS hA [0] [1] rfl rfl rfl (by decide) (fun r_3 u_4 H locs h_5 hP hD hS => ?_)
    obtain rfl : r_3 = 4095 := h_5.trans (by decide)
    have hP : va_P D clsL [((r 6), .inr (1, oX1 rd (va_up f1 2 p0)))] H := hP
    have hD : va_D A [((r 6), .inr (1, oX1 rd (va_up f1 2 p0)))] := hD
    exact W.iret (v := 4095) hx hb hr (fun t ht hW => ⟨⟨4095, (), rfl, (by first | (unfold an_key; (repeat' split) <;> first | rfl | (exfalso; omega)) | rfl | decide), nilP, nilD⟩, hS.F ht⟩) hS.2.2 dX11_key_34
  · skip
    refine lv_if_ne (tgt := 13) hx hb dX11_key_8 (by decide) (fun c_ => absurd c_ (by decide)) (fun _ => ?_)
    refine lv_iconst (v := (-1)) hx hb dX11_key_11 (by decide) ?_
    exact W.iret (v := (-1)) hx hb hr (fun t ht hW => ⟨⟨(-1), (), rfl, (by first | (unfold an_key; (repeat' split) <;> first | rfl | (exfalso; omega)) | rfl | decide), nilP, nilD⟩, hS.F ht⟩) hS.2.2 dX11_key_12
set_option maxHeartbeats 4000000 in
set_option maxRecDepth 100000 in
theorem c_X11_fault (l : Launch) (D : va_G) (k : Nat → ClassId) (h0 : Nat) (r : Nat → Nat) (p0 p1 : Int32)  : CI l yX11_fault cX11_fault 3 (some .int) 1 22 0 0 D k [(h0, .inr (9, oX11 r f9))] [.ref h0, .int p0, .int p1] (S := Unit) (fun (r : Int32) (_ : Unit) => r = an_fault p0 p1) (fun _ => []) := by
  intro sz
  refine mtX (Qc := fun A => va_Qi (S := Unit) (fun (r : Int32) (_ : Unit) => r = an_fault p0 p1) (fun u t => WX D A ((fun _ => []) u) t) A) (free := fun A => A) (by decide) (Nat.le_of_ble_eq_true rfl) ?_
  intro p e s m below meth c ls A hB hl
  obtain ⟨hx, hb, hml, hr, hlocks, hnm, hown, ht, hK, hN, hA, hP, hD, hS⟩ := hB
  have hl : lv_has ls 3 [(0, .ref h0), (1, .int p0), (2, .int p1)] := hl
  refine lv_iload_n hx hb dX11_fault_0 rfl (lv_at hl 2 rfl) ?_
  refine lv_iconst (v := 0) hx hb dX11_fault_1 (by decide) ?_
  refine lv_iconst (v := 3) hx hb dX11_fault_2 (by decide) ?_
  refine afterP (xS (As := [.int p1, .int 0, .int 3]) (rest := []) (wc := []) ⟨hx, hb, hml, hown, ht⟩ (c_X11_isWithin l D k p1 0 3 0 3 (by decide) (by decide) _) hK hN nilP (nilD (A := A)) q2_60 q2_61 q1_1 q2_62 md_X11_isWithin ⟨by decide, by decide⟩ rfl hl.1 rfl (Nat.le_of_ble_eq_true rfl) dX11_fault_3 ⟨by decide, by decide⟩) (fun r_1 h_2 => ?_)
  rcases h_2 with ⟨rfl, h_2⟩ | ⟨rfl, h_2⟩
  · skip
    refine lv_if_ne (tgt := 11) hx hb dX11_fault_6 (by decide) (fun _ => ?_) (fun c_ => absurd c_ (by decide))
    refine lv_iload_n hx hb dX11_fault_11 rfl (lv_at hl 1 rfl) ?_
    refine lv_iconst (v := 0) hx hb dX11_fault_12 (by decide) ?_
    refine lv_aload_n hx hb dX11_fault_13 rfl (lv_at hl 0 rfl) ?_
    refine va_get (D := D) (ci := 9) (v := .int 0) (C := "TuneSchool") (T := TX11) (N := 17) hx hb ht iX11 hown hK hP 0 rfl rfl 11 (by decide) (ht _ q1_218) (fun _ h9 => h9) rfl dX11_fault_14 ?_
    refine lv_iconst (v := 1) hx hb dX11_fault_17 (by decide) ?_
    refine ev_isub (v := (-1)) hx hb dX11_fault_18 (by decide) ?_
    refine afterP (xS (As := [.int p0, .int 0, .int (-1)]) (rest := []) (wc := []) ⟨hx, hb, hml, hown, ht⟩ (c_X11_isWithin l D k p0 0 (-1) 0 (-1) (by decide) (by decide) _) hK hN nilP (nilD (A := A)) q2_60 q2_61 q1_1 q2_62 md_X11_isWithin ⟨by decide, by decide⟩ rfl hl.1 rfl (Nat.le_of_ble_eq_true rfl) dX11_fault_19 ⟨by decide, by decide⟩) (fun r_3 h_4 => ?_)
    rcases h_4 with ⟨rfl, h_4⟩ | ⟨rfl, h_4⟩
    · exact absurd h_4 (by first | decide | omega)
    · skip
      refine lv_if_eq (tgt := 34) hx hb dX11_fault_22 (by decide) (fun _ => ?_) (fun c_ => absurd c_ (by decide))
      refine lv_bipush (v := (-2)) hx hb dX11_fault_34 (by decide) ?_
      exact W.iret (v := (-2)) hx hb hr (fun t ht hW => ⟨⟨(-2), (), rfl, (by first | (unfold an_fault; (repeat' split) <;> first | rfl | (exfalso; omega)) | rfl | decide), nilP, nilD⟩, hS.F ht⟩) hS.2.2 dX11_fault_36
  · skip
    refine lv_if_ne (tgt := 11) hx hb dX11_fault_6 (by decide) (fun c_ => absurd c_ (by decide)) (fun _ => ?_)
    refine lv_iconst (v := (-1)) hx hb dX11_fault_9 (by decide) ?_
    exact W.iret (v := (-1)) hx hb hr (fun t ht hW => ⟨⟨(-1), (), rfl, (by first | (unfold an_fault; (repeat' split) <;> first | rfl | (exfalso; omega)) | rfl | decide), nilP, nilD⟩, hS.F ht⟩) hS.2.2 dX11_fault_10
set_option maxHeartbeats 4000000 in
set_option maxRecDepth 100000 in
theorem c_X11_mend (l : Launch) (D : va_G) (k : Nat → ClassId) (h0 : Nat) (r : Nat → Nat) (rm : Nat → Nat) (p0 : Int32)  : CI l yX11_mend cX11_mend 5 (some .int) 1 22 0 0 D k [(h0, .inr (9, oX11 r f9)), ((r 5), .inr (5, oX5 rm f5))] [.ref h0, .int p0] (S := Unit) (fun (r : Int32) (_ : Unit) => r = an_mend p0) (fun _ => []) := by
  intro sz
  refine mtX (Qc := fun A => va_Qi (S := Unit) (fun (r : Int32) (_ : Unit) => r = an_mend p0) (fun u t => WX D A ((fun _ => []) u) t) A) (free := fun A => A) (by decide) (Nat.le_of_ble_eq_true rfl) ?_
  intro p e s m below meth c ls A hB hl
  obtain ⟨hx, hb, hml, hr, hlocks, hnm, hown, ht, hK, hN, hA, hP, hD, hS⟩ := hB
  have hl : lv_has ls 5 [(0, .ref h0), (1, .int p0)] := hl
  refine lv_aload_n hx hb dX11_mend_0 rfl (lv_at hl 0 rfl) ?_
  refine va_get (D := D) (ci := 9) (v := .ref (r 5)) (C := "TuneSchool") (T := TX11) (N := 17) hx hb ht iX11 hown hK hP 0 rfl rfl 5 (by decide) (ht _ q1_212) (fun _ h9 => h9) rfl dX11_mend_1 ?_
  refine afterV (wr := [(h0, .inr (9, oX11 r f9))]) (xV (As := []) (rest := []) (wc := [((r 5), .inr (5, oX5 rm f5))]) ⟨hx, hb, hml, hown, ht⟩ (c_X5_openTrace l D k (r 5) rm _) hK hN (hP.sub (ws' := [((r 5), .inr (5, oX5 rm f5))]) [1] rfl) (hD.sub (ws' := [((r 5), .inr (5, oX5 rm f5))]) [1] (by decide) rfl) 5 0 rfl rfl rfl q3_36 q3_37 q3_38 q1_3 q3_39 md_X5_openTrace ⟨by decide, by decide⟩ rfl hl.1 rfl (Nat.le_of_ble_eq_true rfl) dX11_mend_4 ⟨by decide, by decide⟩) hP hD hS hA [1] [0] rfl rfl rfl (by decide) (fun u_2 H locs h_3 hP hD hS => ?_)
  have hP : va_P D clsL [(h0, .inr (9, oX11 r f9))] H := hP
  have hD : va_D A [(h0, .inr (9, oX11 r f9))] := hD
  refine lv_iload_n hx hb dX11_mend_7 rfl (lv_at hl 1 rfl) ?_
  refine lv_iconst (v := 0) hx hb dX11_mend_8 (by decide) ?_
  refine lv_aload_n hx hb dX11_mend_9 rfl (lv_at hl 0 rfl) ?_
  refine va_get (D := D) (ci := 9) (v := .int 0) (C := "TuneSchool") (T := TX11) (N := 17) hx hb ht iX11 hown hK hP 0 rfl rfl 11 (by decide) (ht _ q1_218) (fun _ h9 => h9) rfl dX11_mend_10 ?_
  refine lv_iconst (v := 1) hx hb dX11_mend_13 (by decide) ?_
  refine ev_isub (v := (-1)) hx hb dX11_mend_14 (by decide) ?_
  refine afterP (xS (As := [.int p0, .int 0, .int (-1)]) (rest := []) (wc := []) ⟨hx, hb, hml, hown, ht⟩ (c_X11_isWithin l D k p0 0 (-1) 0 (-1) (by decide) (by decide) _) hK hN nilP (nilD (A := A)) q2_60 q2_61 q1_1 q2_62 md_X11_isWithin ⟨by decide, by decide⟩ rfl hl.1 rfl (Nat.le_of_ble_eq_true rfl) dX11_mend_15 ⟨by decide, by decide⟩) (fun r_4 h_5 => ?_)
  rcases h_5 with ⟨rfl, h_5⟩ | ⟨rfl, h_5⟩
  · exact absurd h_5 (by first | decide | omega)
  · skip
    refine lv_if_ne (tgt := 28) hx hb dX11_mend_18 (by decide) (fun c_ => absurd c_ (by decide)) (fun _ => ?_)
    refine lv_aload_n hx hb dX11_mend_21 rfl (lv_at hl 0 rfl) ?_
    refine lv_bipush (v := (-2)) hx hb dX11_mend_22 (by decide) ?_
    refine afterI (wr := []) (xV (As := [.int (-2)]) (rest := []) (wc := [(h0, .inr (9, oX11 r f9))]) ⟨hx, hb, hml, hown, ht⟩ (c_X11_fine l D k h0 r f9 (-2) _) hK hN (hP.sub (ws' := [(h0, .inr (9, oX11 r f9))]) [0] rfl) (hD.sub (ws' := [(h0, .inr (9, oX11 r f9))]) [0] (by decide) rfl) 9 0 rfl rfl rfl q2_48 q2_50 qs_2 q1_1 q2_51 md_X11_fine ⟨by decide, by decide⟩ rfl hl.1 rfl (Nat.le_of_ble_eq_true rfl) dX11_mend_24 ⟨by decide, by decide⟩) hP hD hS hA [0] [] rfl rfl rfl (by decide) (fun r_6 u_7 H locs h_8 hP hD hS => ?_)
    obtain rfl : r_6 = (-2) := h_8.trans (by decide)
    have hP : va_P D clsL [] H := hP
    have hD : va_D A [] := hD
    exact W.iret (v := (-2)) hx hb hr (fun t ht hW => ⟨⟨(-2), (), rfl, (by first | (unfold an_mend; (repeat' split) <;> first | rfl | (exfalso; omega)) | rfl | decide), nilP, nilD⟩, hS.F ht⟩) hS.2.2 dX11_mend_27
set_option maxHeartbeats 4000000 in
set_option maxRecDepth 100000 in
theorem c_X11_canon (l : Launch) (D : va_G) (k : Nat → ClassId) (h0 : Nat) (r : Nat → Nat) (vf : Nat → Option Nat) (hv : Nat) (rv : Nat → Nat) (rm : Nat → Nat) (p0 p1 p2 p3 p4 : Int32) (hvf : 0 ≤ p0.toInt → p0.toInt < 6 → vf p0.toNatClampNeg = some hv) : CI l yX11_canon cX11_canon 7 (some .int) 2 44 0 0 D k [(h0, .inr (9, oX11 r f9)), ((r 0), .inl (k 3, 6, .inr (.inr (.inr (.inr vf))))), (hv, .inr (8, oX10 rv f0)), ((r 5), .inr (5, oX5 rm f5))] [.ref h0, .int p0, .int p1, .int p2, .int p3, .int p4] (S := Unit) (fun (r : Int32) (_ : Unit) => r = an_canon p0 p1 p2 p3 p4) (fun _ => []) := by
  intro sz
  refine mtX (Qc := fun A => va_Qi (S := Unit) (fun (r : Int32) (_ : Unit) => r = an_canon p0 p1 p2 p3 p4) (fun u t => WX D A ((fun _ => []) u) t) A) (free := fun A => A) (by decide) (Nat.le_of_ble_eq_true rfl) ?_
  intro p e s m below meth c ls A hB hl
  obtain ⟨hx, hb, hml, hr, hlocks, hnm, hown, ht, hK, hN, hA, hP, hD, hS⟩ := hB
  have hl : lv_has ls 7 [(0, .ref h0), (1, .int p0), (2, .int p1), (3, .int p2), (4, .int p3), (5, .int p4)] := hl
  refine lv_iload_n hx hb dX11_canon_0 rfl (lv_at hl 1 rfl) ?_
  refine afterP (xS (As := [.int p0]) (rest := []) (wc := []) ⟨hx, hb, hml, hown, ht⟩ (c_X11_isVoice l D k p0 _) hK hN nilP (nilD (A := A)) q2_23 q2_24 q1_1 q2_25 md_X11_isVoice ⟨by decide, by decide⟩ rfl hl.1 rfl (Nat.le_of_ble_eq_true rfl) dX11_canon_1 ⟨by decide, by decide⟩) (fun r_1 h_2 => ?_)
  rcases h_2 with ⟨rfl, h_2⟩ | ⟨rfl, h_2⟩
  · skip
    refine lv_if_eq (tgt := 25) hx hb dX11_canon_4 (by decide) (fun c_ => absurd c_ (by decide)) (fun _ => ?_)
    refine lv_iload_n hx hb dX11_canon_7 rfl (lv_at hl 2 rfl) ?_
    refine afterP (xS (As := [.int p1]) (rest := []) (wc := []) ⟨hx, hb, hml, hown, ht⟩ (c_X11_isPlace l D k p1 _) hK hN nilP (nilD (A := A)) q2_131 q2_132 q1_1 q2_133 md_X11_isPlace ⟨by decide, by decide⟩ rfl hl.1 rfl (Nat.le_of_ble_eq_true rfl) dX11_canon_8 ⟨by decide, by decide⟩) (fun r_3 h_4 => ?_)
    rcases h_4 with ⟨rfl, h_4⟩ | ⟨rfl, h_4⟩
    · skip
      refine lv_if_eq (tgt := 25) hx hb dX11_canon_11 (by decide) (fun c_ => absurd c_ (by decide)) (fun _ => ?_)
      refine lv_iload_n hx hb dX11_canon_14 rfl (lv_at hl 3 rfl) ?_
      refine lv_iload hx hb dX11_canon_15 (lv_at hl 4 rfl) ?_
      refine lv_iload hx hb dX11_canon_17 (lv_at hl 5 rfl) ?_
      refine afterP (xS (As := [.int p2, .int p3, .int p4]) (rest := []) (wc := []) ⟨hx, hb, hml, hown, ht⟩ (c_X11_isFollower l D k p2 p3 p4 _) hK hN nilP (nilD (A := A)) q3_205 q3_206 q1_1 q3_207 md_X11_isFollower ⟨by decide, by decide⟩ rfl hl.1 rfl (Nat.le_of_ble_eq_true rfl) dX11_canon_19 ⟨by decide, by decide⟩) (fun r_5 h_6 => ?_)
      rcases h_6 with ⟨rfl, h_6⟩ | ⟨rfl, h_6⟩
      · skip
        refine lv_if_ne (tgt := 27) hx hb dX11_canon_22 (by decide) (fun _ => ?_) (fun c_ => absurd c_ (by decide))
        refine lv_aload_n hx hb dX11_canon_27 rfl (lv_at hl 0 rfl) ?_
        refine va_get (D := D) (ci := 9) (v := .ref (r 5)) (C := "TuneSchool") (T := TX11) (N := 17) hx hb ht iX11 hown hK hP 0 rfl rfl 5 (by decide) (ht _ q1_212) (fun _ h9 => h9) rfl dX11_canon_28 ?_
        refine afterV (wr := [(h0, .inr (9, oX11 r f9)), ((r 0), .inl (k 3, 6, .inr (.inr (.inr (.inr vf))))), (hv, .inr (8, oX10 rv f0))]) (xV (As := []) (rest := []) (wc := [((r 5), .inr (5, oX5 rm f5))]) ⟨hx, hb, hml, hown, ht⟩ (c_X5_openTrace l D k (r 5) rm _) hK hN (hP.sub (ws' := [((r 5), .inr (5, oX5 rm f5))]) [3] rfl) (hD.sub (ws' := [((r 5), .inr (5, oX5 rm f5))]) [3] (by decide) rfl) 5 0 rfl rfl rfl q3_36 q3_37 q3_38 q1_3 q3_39 md_X5_openTrace ⟨by decide, by decide⟩ rfl hl.1 rfl (Nat.le_of_ble_eq_true rfl) dX11_canon_31 ⟨by decide, by decide⟩) hP hD hS hA [3] [0, 1, 2] rfl rfl rfl (by decide) (fun u_8 H locs h_9 hP hD hS => ?_)
        have hP : va_P D clsL [(h0, .inr (9, oX11 r f9)), ((r 0), .inl (k 3, 6, .inr (.inr (.inr (.inr vf))))), (hv, .inr (8, oX10 rv f0))] H := hP
        have hD : va_D A [(h0, .inr (9, oX11 r f9)), ((r 0), .inl (k 3, 6, .inr (.inr (.inr (.inr vf))))), (hv, .inr (8, oX10 rv f0))] := hD
        refine lv_aload_n hx hb dX11_canon_34 rfl (lv_at hl 0 rfl) ?_
        refine va_get (D := D) (ci := 9) (v := .ref (r 0)) (C := "TuneSchool") (T := TX11) (N := 17) hx hb ht iX11 hown hK hP 0 rfl rfl 0 (by decide) (ht _ q1_207) (fun _ h9 => h9) rfl dX11_canon_35 ?_
        refine lv_iload_n hx hb dX11_canon_38 rfl (lv_at hl 1 rfl) ?_
        refine ldQ (w := hv) hx hb hK hP 1 3 rfl rfl (vin (by omega) (by omega)) (hvf (by omega) (by omega)) dX11_canon_39 ?_
        refine afterP (xS (As := [.ref hv]) (rest := []) (wc := [(hv, .inr (8, oX10 rv f0))]) ⟨hx, hb, hml, hown, ht⟩ (c_X11_goThrough l D k hv rv _) hK hN (hP.sub (ws' := [(hv, .inr (8, oX10 rv f0))]) [2] rfl) (hD.sub (ws' := [(hv, .inr (8, oX10 rv f0))]) [2] (by decide) rfl) q2_86 q2_87 q1_1 q2_88 md_X11_goThrough ⟨by decide, by decide⟩ rfl hl.1 rfl (Nat.le_of_ble_eq_true rfl) dX11_canon_40 ⟨by decide, by decide⟩) (fun r_10 h_11 => ?_)
        obtain rfl := h_11
        refine lv_istore (lv' := [(6, .int 1), (0, .ref h0), (1, .int p0), (2, .int p1), (3, .int p2), (4, .int p3), (5, .int p4)]) hx hb dX11_canon_43 hl (by decide) rfl (fun ls hl => ?_)
        refine lv_iload hx hb dX11_canon_45 (lv_at hl 0 rfl) ?_
        refine lv_if_eq (tgt := 57) hx hb dX11_canon_47 (by decide) (fun c_ => absurd c_ (by decide)) (fun _ => ?_)
        refine lv_aload_n hx hb dX11_canon_50 rfl (lv_at hl 1 rfl) ?_
        refine lv_iload hx hb dX11_canon_51 (lv_at hl 0 rfl) ?_
        refine afterI (wr := [((r 0), .inl (k 3, 6, .inr (.inr (.inr (.inr vf))))), (hv, .inr (8, oX10 rv f0))]) (xV (As := [.int 1]) (rest := []) (wc := [(h0, .inr (9, oX11 r f9))]) ⟨hx, hb, hml, hown, ht⟩ (c_X11_finding l D k h0 r f9 1 _) hK hN (hP.sub (ws' := [(h0, .inr (9, oX11 r f9))]) [0] rfl) (hD.sub (ws' := [(h0, .inr (9, oX11 r f9))]) [0] (by decide) rfl) 9 0 rfl rfl rfl q2_26 q2_28 qs_0 q1_1 q2_29 md_X11_finding ⟨by decide, by decide⟩ rfl hl.1 rfl (Nat.le_of_ble_eq_true rfl) dX11_canon_53 ⟨by decide, by decide⟩) hP hD hS hA [0] [1, 2] rfl rfl rfl (by decide) (fun r_12 u_13 H locs h_14 hP hD hS => ?_)
        obtain rfl : r_12 = (-11) := h_14.trans (by decide)
        have hP : va_P D clsL [((r 0), .inl (k 3, 6, .inr (.inr (.inr (.inr vf))))), (hv, .inr (8, oX10 rv f0))] H := hP
        have hD : va_D A [((r 0), .inl (k 3, 6, .inr (.inr (.inr (.inr vf))))), (hv, .inr (8, oX10 rv f0))] := hD
        exact W.iret (v := (-11)) hx hb hr (fun t ht hW => ⟨⟨(-11), (), rfl, (by first | (unfold an_canon; (repeat' split) <;> first | rfl | (exfalso; omega)) | rfl | decide), nilP, nilD⟩, hS.F ht⟩) hS.2.2 dX11_canon_56
      · skip
        refine lv_if_ne (tgt := 27) hx hb dX11_canon_22 (by decide) (fun c_ => absurd c_ (by decide)) (fun _ => ?_)
        refine lv_iconst (v := (-1)) hx hb dX11_canon_25 (by decide) ?_
        exact W.iret (v := (-1)) hx hb hr (fun t ht hW => ⟨⟨(-1), (), rfl, (by first | (unfold an_canon; (repeat' split) <;> first | rfl | (exfalso; omega)) | rfl | decide), nilP, nilD⟩, hS.F ht⟩) hS.2.2 dX11_canon_26
    · skip
      refine lv_if_eq (tgt := 25) hx hb dX11_canon_11 (by decide) (fun _ => ?_) (fun c_ => absurd c_ (by decide))
      refine lv_iconst (v := (-1)) hx hb dX11_canon_25 (by decide) ?_
      exact W.iret (v := (-1)) hx hb hr (fun t ht hW => ⟨⟨(-1), (), rfl, (by first | (unfold an_canon; (repeat' split) <;> first | rfl | (exfalso; omega)) | rfl | decide), nilP, nilD⟩, hS.F ht⟩) hS.2.2 dX11_canon_26
  · skip
    refine lv_if_eq (tgt := 25) hx hb dX11_canon_4 (by decide) (fun _ => ?_) (fun c_ => absurd c_ (by decide))
    refine lv_iconst (v := (-1)) hx hb dX11_canon_25 (by decide) ?_
    exact W.iret (v := (-1)) hx hb hr (fun t ht hW => ⟨⟨(-1), (), rfl, (by first | (unfold an_canon; (repeat' split) <;> first | rfl | (exfalso; omega)) | rfl | decide), nilP, nilD⟩, hS.F ht⟩) hS.2.2 dX11_canon_26
set_option maxHeartbeats 4000000 in
set_option maxRecDepth 100000 in
theorem c_X11_canons (l : Launch) (D : va_G) (k : Nat → ClassId) (h0 : Nat) (r : Nat → Nat) (vf : Nat → Option Nat) (hv : Nat) (rv : Nat → Nat) (rm : Nat → Nat) (p0 p1 p2 p3 : Int32) (hvf : 0 ≤ p0.toInt → p0.toInt < 6 → vf p0.toNatClampNeg = some hv) : CI l yX11_canons cX11_canons 8 (some .int) 2 44 0 0 D k [(h0, .inr (9, oX11 r f9)), ((r 0), .inl (k 3, 6, .inr (.inr (.inr (.inr vf))))), (hv, .inr (8, oX10 rv f0)), ((r 5), .inr (5, oX5 rm f5))] [.ref h0, .int p0, .int p1, .int p2, .int p3] (S := Unit) (fun (r : Int32) (_ : Unit) => r = an_canons p0 p1 p2 p3) (fun _ => []) := by
  intro sz
  refine mtX (Qc := fun A => va_Qi (S := Unit) (fun (r : Int32) (_ : Unit) => r = an_canons p0 p1 p2 p3) (fun u t => WX D A ((fun _ => []) u) t) A) (free := fun A => A) (by decide) (Nat.le_of_ble_eq_true rfl) ?_
  intro p e s m below meth c ls A hB hl
  obtain ⟨hx, hb, hml, hr, hlocks, hnm, hown, ht, hK, hN, hA, hP, hD, hS⟩ := hB
  have hl : lv_has ls 8 [(0, .ref h0), (1, .int p0), (2, .int p1), (3, .int p2), (4, .int p3)] := hl
  refine lv_iload_n hx hb dX11_canons_0 rfl (lv_at hl 1 rfl) ?_
  refine afterP (xS (As := [.int p0]) (rest := []) (wc := []) ⟨hx, hb, hml, hown, ht⟩ (c_X11_isVoice l D k p0 _) hK hN nilP (nilD (A := A)) q2_23 q2_24 q1_1 q2_25 md_X11_isVoice ⟨by decide, by decide⟩ rfl hl.1 rfl (Nat.le_of_ble_eq_true rfl) dX11_canons_1 ⟨by decide, by decide⟩) (fun r_1 h_2 => ?_)
  rcases h_2 with ⟨rfl, h_2⟩ | ⟨rfl, h_2⟩
  · skip
    refine lv_if_eq (tgt := 24) hx hb dX11_canons_4 (by decide) (fun c_ => absurd c_ (by decide)) (fun _ => ?_)
    refine lv_iload_n hx hb dX11_canons_7 rfl (lv_at hl 2 rfl) ?_
    refine afterP (xS (As := [.int p1]) (rest := []) (wc := []) ⟨hx, hb, hml, hown, ht⟩ (c_X11_isPlace l D k p1 _) hK hN nilP (nilD (A := A)) q2_131 q2_132 q1_1 q2_133 md_X11_isPlace ⟨by decide, by decide⟩ rfl hl.1 rfl (Nat.le_of_ble_eq_true rfl) dX11_canons_8 ⟨by decide, by decide⟩) (fun r_3 h_4 => ?_)
    rcases h_4 with ⟨rfl, h_4⟩ | ⟨rfl, h_4⟩
    · skip
      refine lv_if_eq (tgt := 24) hx hb dX11_canons_11 (by decide) (fun c_ => absurd c_ (by decide)) (fun _ => ?_)
      refine lv_iconst (v := 0) hx hb dX11_canons_14 (by decide) ?_
      refine lv_iload_n hx hb dX11_canons_15 rfl (lv_at hl 3 rfl) ?_
      refine lv_iload hx hb dX11_canons_16 (lv_at hl 4 rfl) ?_
      refine afterP (xS (As := [.int 0, .int p2, .int p3]) (rest := []) (wc := []) ⟨hx, hb, hml, hown, ht⟩ (c_X11_isFollower l D k 0 p2 p3 _) hK hN nilP (nilD (A := A)) q3_205 q3_206 q1_1 q3_207 md_X11_isFollower ⟨by decide, by decide⟩ rfl hl.1 rfl (Nat.le_of_ble_eq_true rfl) dX11_canons_18 ⟨by decide, by decide⟩) (fun r_5 h_6 => ?_)
      rcases h_6 with ⟨rfl, h_6⟩ | ⟨rfl, h_6⟩
      · skip
        have z_ : (0 : Int32).toInt = 0 := by decide
        refine lv_if_ne (tgt := 26) hx hb dX11_canons_21 (by decide) (fun _ => ?_) (fun c_ => absurd c_ (by decide))
        refine lv_aload_n hx hb dX11_canons_26 rfl (lv_at hl 0 rfl) ?_
        refine va_get (D := D) (ci := 9) (v := .ref (r 5)) (C := "TuneSchool") (T := TX11) (N := 17) hx hb ht iX11 hown hK hP 0 rfl rfl 5 (by decide) (ht _ q1_212) (fun _ h9 => h9) rfl dX11_canons_27 ?_
        refine afterV (wr := [(h0, .inr (9, oX11 r f9)), ((r 0), .inl (k 3, 6, .inr (.inr (.inr (.inr vf))))), (hv, .inr (8, oX10 rv f0))]) (xV (As := []) (rest := []) (wc := [((r 5), .inr (5, oX5 rm f5))]) ⟨hx, hb, hml, hown, ht⟩ (c_X5_openTrace l D k (r 5) rm _) hK hN (hP.sub (ws' := [((r 5), .inr (5, oX5 rm f5))]) [3] rfl) (hD.sub (ws' := [((r 5), .inr (5, oX5 rm f5))]) [3] (by decide) rfl) 5 0 rfl rfl rfl q3_36 q3_37 q3_38 q1_3 q3_39 md_X5_openTrace ⟨by decide, by decide⟩ rfl hl.1 rfl (Nat.le_of_ble_eq_true rfl) dX11_canons_30 ⟨by decide, by decide⟩) hP hD hS hA [3] [0, 1, 2] rfl rfl rfl (by decide) (fun u_8 H locs h_9 hP hD hS => ?_)
        have hP : va_P D clsL [(h0, .inr (9, oX11 r f9)), ((r 0), .inl (k 3, 6, .inr (.inr (.inr (.inr vf))))), (hv, .inr (8, oX10 rv f0))] H := hP
        have hD : va_D A [(h0, .inr (9, oX11 r f9)), ((r 0), .inl (k 3, 6, .inr (.inr (.inr (.inr vf))))), (hv, .inr (8, oX10 rv f0))] := hD
        refine lv_aload_n hx hb dX11_canons_33 rfl (lv_at hl 0 rfl) ?_
        refine va_get (D := D) (ci := 9) (v := .ref (r 0)) (C := "TuneSchool") (T := TX11) (N := 17) hx hb ht iX11 hown hK hP 0 rfl rfl 0 (by decide) (ht _ q1_207) (fun _ h9 => h9) rfl dX11_canons_34 ?_
        refine lv_iload_n hx hb dX11_canons_37 rfl (lv_at hl 1 rfl) ?_
        refine ldQ (w := hv) hx hb hK hP 1 3 rfl rfl (vin (by omega) (by omega)) (hvf (by omega) (by omega)) dX11_canons_38 ?_
        refine afterP (xS (As := [.ref hv]) (rest := []) (wc := [(hv, .inr (8, oX10 rv f0))]) ⟨hx, hb, hml, hown, ht⟩ (c_X11_goThrough l D k hv rv _) hK hN (hP.sub (ws' := [(hv, .inr (8, oX10 rv f0))]) [2] rfl) (hD.sub (ws' := [(hv, .inr (8, oX10 rv f0))]) [2] (by decide) rfl) q2_86 q2_87 q1_1 q2_88 md_X11_goThrough ⟨by decide, by decide⟩ rfl hl.1 rfl (Nat.le_of_ble_eq_true rfl) dX11_canons_39 ⟨by decide, by decide⟩) (fun r_10 h_11 => ?_)
        obtain rfl := h_11
        refine lv_istore (lv' := [(5, .int 1), (0, .ref h0), (1, .int p0), (2, .int p1), (3, .int p2), (4, .int p3)]) hx hb dX11_canons_42 hl (by decide) rfl (fun ls hl => ?_)
        refine lv_iload hx hb dX11_canons_44 (lv_at hl 0 rfl) ?_
        refine lv_if_eq (tgt := 56) hx hb dX11_canons_46 (by decide) (fun c_ => absurd c_ (by decide)) (fun _ => ?_)
        refine lv_aload_n hx hb dX11_canons_49 rfl (lv_at hl 1 rfl) ?_
        refine lv_iload hx hb dX11_canons_50 (lv_at hl 0 rfl) ?_
        refine afterI (wr := [((r 0), .inl (k 3, 6, .inr (.inr (.inr (.inr vf))))), (hv, .inr (8, oX10 rv f0))]) (xV (As := [.int 1]) (rest := []) (wc := [(h0, .inr (9, oX11 r f9))]) ⟨hx, hb, hml, hown, ht⟩ (c_X11_finding l D k h0 r f9 1 _) hK hN (hP.sub (ws' := [(h0, .inr (9, oX11 r f9))]) [0] rfl) (hD.sub (ws' := [(h0, .inr (9, oX11 r f9))]) [0] (by decide) rfl) 9 0 rfl rfl rfl q2_26 q2_28 qs_0 q1_1 q2_29 md_X11_finding ⟨by decide, by decide⟩ rfl hl.1 rfl (Nat.le_of_ble_eq_true rfl) dX11_canons_52 ⟨by decide, by decide⟩) hP hD hS hA [0] [1, 2] rfl rfl rfl (by decide) (fun r_12 u_13 H locs h_14 hP hD hS => ?_)
        obtain rfl : r_12 = (-11) := h_14.trans (by decide)
        have hP : va_P D clsL [((r 0), .inl (k 3, 6, .inr (.inr (.inr (.inr vf))))), (hv, .inr (8, oX10 rv f0))] H := hP
        have hD : va_D A [((r 0), .inl (k 3, 6, .inr (.inr (.inr (.inr vf))))), (hv, .inr (8, oX10 rv f0))] := hD
        exact W.iret (v := (-11)) hx hb hr (fun t ht hW => ⟨⟨(-11), (), rfl, (by first | (unfold an_canons; (repeat' split) <;> first | rfl | (exfalso; omega)) | rfl | decide), nilP, nilD⟩, hS.F ht⟩) hS.2.2 dX11_canons_55
      · skip
        have z_ : (0 : Int32).toInt = 0 := by decide
        refine lv_if_ne (tgt := 26) hx hb dX11_canons_21 (by decide) (fun c_ => absurd c_ (by decide)) (fun _ => ?_)
        refine lv_iconst (v := (-1)) hx hb dX11_canons_24 (by decide) ?_
        exact W.iret (v := (-1)) hx hb hr (fun t ht hW => ⟨⟨(-1), (), rfl, (by first | (unfold an_canons; (repeat' split) <;> first | rfl | (exfalso; omega)) | rfl | decide), nilP, nilD⟩, hS.F ht⟩) hS.2.2 dX11_canons_25
    · skip
      refine lv_if_eq (tgt := 24) hx hb dX11_canons_11 (by decide) (fun _ => ?_) (fun c_ => absurd c_ (by decide))
      refine lv_iconst (v := (-1)) hx hb dX11_canons_24 (by decide) ?_
      exact W.iret (v := (-1)) hx hb hr (fun t ht hW => ⟨⟨(-1), (), rfl, (by first | (unfold an_canons; (repeat' split) <;> first | rfl | (exfalso; omega)) | rfl | decide), nilP, nilD⟩, hS.F ht⟩) hS.2.2 dX11_canons_25
  · skip
    refine lv_if_eq (tgt := 24) hx hb dX11_canons_4 (by decide) (fun _ => ?_) (fun c_ => absurd c_ (by decide))
    refine lv_iconst (v := (-1)) hx hb dX11_canons_24 (by decide) ?_
    exact W.iret (v := (-1)) hx hb hr (fun t ht hW => ⟨⟨(-1), (), rfl, (by first | (unfold an_canons; (repeat' split) <;> first | rfl | (exfalso; omega)) | rfl | decide), nilP, nilD⟩, hS.F ht⟩) hS.2.2 dX11_canons_25
set_option maxHeartbeats 4000000 in
set_option maxRecDepth 100000 in
theorem c_X11_goOn (l : Launch) (D : va_G) (k : Nat → ClassId) (h0 : Nat) (r : Nat → Nat) (rd : Nat → Nat) (p0 : Int32)  : CI l yX11_goOn cX11_goOn 2 (some .int) 1 22 0 0 D k [(h0, .inr (9, oX11 r f9)), ((r 6), .inr (1, oX1 rd f1))] [.ref h0, .int p0] (S := Unit) (fun (r : Int32) (_ : Unit) => r = an_goOn p0) (fun _ => []) := by
  intro sz
  refine mtX (Qc := fun A => va_Qi (S := Unit) (fun (r : Int32) (_ : Unit) => r = an_goOn p0) (fun u t => WX D A ((fun _ => []) u) t) A) (free := fun A => A) (by decide) (Nat.le_of_ble_eq_true rfl) ?_
  intro p e s m below meth c ls A hB hl
  obtain ⟨hx, hb, hml, hr, hlocks, hnm, hown, ht, hK, hN, hA, hP, hD, hS⟩ := hB
  have hl : lv_has ls 2 [(0, .ref h0), (1, .int p0)] := hl
  refine lv_iload_n hx hb dX11_goOn_0 rfl (lv_at hl 1 rfl) ?_
  refine lv_iconst (v := 0) hx hb dX11_goOn_1 (by decide) ?_
  refine lv_bipush (v := 30) hx hb dX11_goOn_2 (by decide) ?_
  refine afterP (xS (As := [.int p0, .int 0, .int 30]) (rest := []) (wc := []) ⟨hx, hb, hml, hown, ht⟩ (c_X11_isWithin l D k p0 0 30 0 30 (by decide) (by decide) _) hK hN nilP (nilD (A := A)) q2_60 q2_61 q1_1 q2_62 md_X11_isWithin ⟨by decide, by decide⟩ rfl hl.1 rfl (Nat.le_of_ble_eq_true rfl) dX11_goOn_4 ⟨by decide, by decide⟩) (fun r_1 h_2 => ?_)
  rcases h_2 with ⟨rfl, h_2⟩ | ⟨rfl, h_2⟩
  · skip
    refine lv_if_ne (tgt := 12) hx hb dX11_goOn_7 (by decide) (fun _ => ?_) (fun c_ => absurd c_ (by decide))
    refine lv_aload_n hx hb dX11_goOn_12 rfl (lv_at hl 0 rfl) ?_
    refine va_get (D := D) (ci := 9) (v := .ref (r 6)) (C := "TuneSchool") (T := TX11) (N := 17) hx hb ht iX11 hown hK hP 0 rfl rfl 6 (by decide) (ht _ q1_213) (fun _ h9 => h9) rfl dX11_goOn_13 ?_
    refine va_get (D := D) (ci := 1) (v := .int 0) (C := "TuneSchool$Desk") (T := TX1) (N := 17) hx hb ht iX1 hown hK hP 1 rfl rfl 3 (by decide) (ht _ q1_135) (fun _ h9 => h9) rfl dX11_goOn_16 ?_
    refine lv_if_eq (tgt := 40) hx hb dX11_goOn_19 (by decide) (fun _ => ?_) (fun c_ => absurd c_ (by decide))
    refine lv_aload_n hx hb dX11_goOn_40 rfl (lv_at hl 0 rfl) ?_
    refine lv_bipush (v := 7) hx hb dX11_goOn_41 (by decide) ?_
    refine afterI (wr := [((r 6), .inr (1, oX1 rd f1))]) (xV (As := [.int 7]) (rest := []) (wc := [(h0, .inr (9, oX11 r f9))]) ⟨hx, hb, hml, hown, ht⟩ (c_X11_finding l D k h0 r f9 7 _) hK hN (hP.sub (ws' := [(h0, .inr (9, oX11 r f9))]) [0] rfl) (hD.sub (ws' := [(h0, .inr (9, oX11 r f9))]) [0] (by decide) rfl) 9 0 rfl rfl rfl q2_26 q2_28 qs_0 q1_1 q2_29 md_X11_finding ⟨by decide, by decide⟩ rfl hl.1 rfl (Nat.le_of_ble_eq_true rfl) dX11_goOn_43 ⟨by decide, by decide⟩) hP hD hS hA [0] [1] rfl rfl rfl (by decide) (fun r_3 u_4 H locs h_5 hP hD hS => ?_)
    obtain rfl : r_3 = (-17) := h_5.trans (by decide)
    have hP : va_P D clsL [((r 6), .inr (1, oX1 rd f1))] H := hP
    have hD : va_D A [((r 6), .inr (1, oX1 rd f1))] := hD
    exact W.iret (v := (-17)) hx hb hr (fun t ht hW => ⟨⟨(-17), (), rfl, (by first | (unfold an_goOn; (repeat' split) <;> first | rfl | (exfalso; omega)) | rfl | decide), nilP, nilD⟩, hS.F ht⟩) hS.2.2 dX11_goOn_46
  · skip
    refine lv_if_ne (tgt := 12) hx hb dX11_goOn_7 (by decide) (fun c_ => absurd c_ (by decide)) (fun _ => ?_)
    refine lv_iconst (v := (-1)) hx hb dX11_goOn_10 (by decide) ?_
    exact W.iret (v := (-1)) hx hb hr (fun t ht hW => ⟨⟨(-1), (), rfl, (by first | (unfold an_goOn; (repeat' split) <;> first | rfl | (exfalso; omega)) | rfl | decide), nilP, nilD⟩, hS.F ht⟩) hS.2.2 dX11_goOn_11
set_option maxHeartbeats 4000000 in
set_option maxRecDepth 100000 in
theorem c_X11_least (l : Launch) (D : va_G) (k : Nat → ClassId) (h0 : Nat) (r : Nat → Nat) (rd : Nat → Nat)   : CI l yX11_least cX11_least 1 (some .int) 1 20 0 0 D k [(h0, .inr (9, oX11 r f9)), ((r 6), .inr (1, oX1 rd f1))] [.ref h0] (S := Unit) (fun (r : Int32) (_ : Unit) => r = an_least ) (fun _ => []) := by
  intro sz
  refine mtX (Qc := fun A => va_Qi (S := Unit) (fun (r : Int32) (_ : Unit) => r = an_least ) (fun u t => WX D A ((fun _ => []) u) t) A) (free := fun A => A) (by decide) (Nat.le_of_ble_eq_true rfl) ?_
  intro p e s m below meth c ls A hB hl
  obtain ⟨hx, hb, hml, hr, hlocks, hnm, hown, ht, hK, hN, hA, hP, hD, hS⟩ := hB
  have hl : lv_has ls 1 [(0, .ref h0)] := hl
  refine lv_aload_n hx hb dX11_least_0 rfl (lv_at hl 0 rfl) ?_
  refine va_get (D := D) (ci := 9) (v := .ref (r 6)) (C := "TuneSchool") (T := TX11) (N := 17) hx hb ht iX11 hown hK hP 0 rfl rfl 6 (by decide) (ht _ q1_213) (fun _ h9 => h9) rfl dX11_least_1 ?_
  refine afterP (xV (As := []) (rest := []) (wc := [((r 6), .inr (1, oX1 rd f1))]) ⟨hx, hb, hml, hown, ht⟩ (c_X1_isWorked l D k (r 6) rd _) hK hN (hP.sub (ws' := [((r 6), .inr (1, oX1 rd f1))]) [1] rfl) (hD.sub (ws' := [((r 6), .inr (1, oX1 rd f1))]) [1] (by decide) rfl) 1 0 rfl rfl rfl q4_82 q4_83 q4_84 q1_4 q4_85 md_X1_isWorked ⟨by decide, by decide⟩ rfl hl.1 rfl (Nat.le_of_ble_eq_true rfl) dX11_least_4 ⟨by decide, by decide⟩) (fun r_1 h_2 => ?_)
  obtain rfl := h_2
  refine lv_if_eq (tgt := 30) hx hb dX11_least_7 (by decide) (fun _ => ?_) (fun c_ => absurd c_ (by decide))
  refine lv_bipush (v := (-2)) hx hb dX11_least_30 (by decide) ?_
  exact W.iret (v := (-2)) hx hb hr (fun t ht hW => ⟨⟨(-2), (), rfl, (by first | (unfold an_least; (repeat' split) <;> first | rfl | (exfalso; omega)) | rfl | decide), nilP, nilD⟩, hS.F ht⟩) hS.2.2 dX11_least_32
set_option maxHeartbeats 4000000 in
set_option maxRecDepth 100000 in
theorem c_X11_many (l : Launch) (D : va_G) (k : Nat → ClassId) (h0 : Nat) (r : Nat → Nat) (rd : Nat → Nat)   : CI l yX11_many cX11_many 1 (some .int) 1 20 0 0 D k [(h0, .inr (9, oX11 r f9)), ((r 6), .inr (1, oX1 rd f1))] [.ref h0] (S := Unit) (fun (r : Int32) (_ : Unit) => r = an_many ) (fun _ => []) := by
  intro sz
  refine mtX (Qc := fun A => va_Qi (S := Unit) (fun (r : Int32) (_ : Unit) => r = an_many ) (fun u t => WX D A ((fun _ => []) u) t) A) (free := fun A => A) (by decide) (Nat.le_of_ble_eq_true rfl) ?_
  intro p e s m below meth c ls A hB hl
  obtain ⟨hx, hb, hml, hr, hlocks, hnm, hown, ht, hK, hN, hA, hP, hD, hS⟩ := hB
  have hl : lv_has ls 1 [(0, .ref h0)] := hl
  refine lv_aload_n hx hb dX11_many_0 rfl (lv_at hl 0 rfl) ?_
  refine va_get (D := D) (ci := 9) (v := .ref (r 6)) (C := "TuneSchool") (T := TX11) (N := 17) hx hb ht iX11 hown hK hP 0 rfl rfl 6 (by decide) (ht _ q1_213) (fun _ h9 => h9) rfl dX11_many_1 ?_
  refine afterP (xV (As := []) (rest := []) (wc := [((r 6), .inr (1, oX1 rd f1))]) ⟨hx, hb, hml, hown, ht⟩ (c_X1_isWorked l D k (r 6) rd _) hK hN (hP.sub (ws' := [((r 6), .inr (1, oX1 rd f1))]) [1] rfl) (hD.sub (ws' := [((r 6), .inr (1, oX1 rd f1))]) [1] (by decide) rfl) 1 0 rfl rfl rfl q4_82 q4_83 q4_84 q1_4 q4_85 md_X1_isWorked ⟨by decide, by decide⟩ rfl hl.1 rfl (Nat.le_of_ble_eq_true rfl) dX11_many_4 ⟨by decide, by decide⟩) (fun r_1 h_2 => ?_)
  obtain rfl := h_2
  refine lv_if_eq (tgt := 20) hx hb dX11_many_7 (by decide) (fun _ => ?_) (fun c_ => absurd c_ (by decide))
  refine lv_bipush (v := (-2)) hx hb dX11_many_20 (by decide) ?_
  exact W.iret (v := (-2)) hx hb hr (fun t ht hW => ⟨⟨(-2), (), rfl, (by first | (unfold an_many; (repeat' split) <;> first | rfl | (exfalso; omega)) | rfl | decide), nilP, nilD⟩, hS.F ht⟩) hS.2.2 dX11_many_22
set_option maxHeartbeats 4000000 in
set_option maxRecDepth 100000 in
theorem c_X11_row (l : Launch) (D : va_G) (k : Nat → ClassId) (h0 : Nat) (r : Nat → Nat) (rd : Nat → Nat) (p0 p1 p2 : Int32)  : CI l yX11_row cX11_row 4 (some .int) 0 0 0 0 D k [(h0, .inr (9, oX11 r f9)), ((r 6), .inr (1, oX1 rd f1))] [.ref h0, .int p0, .int p1, .int p2] (S := Unit) (fun (r : Int32) (_ : Unit) => r = an_row p0 p1 p2) (fun _ => []) := by
  intro sz
  refine mtX (Qc := fun A => va_Qi (S := Unit) (fun (r : Int32) (_ : Unit) => r = an_row p0 p1 p2) (fun u t => WX D A ((fun _ => []) u) t) A) (free := fun A => A) (by decide) (Nat.le_of_ble_eq_true rfl) ?_
  intro p e s m below meth c ls A hB hl
  obtain ⟨hx, hb, hml, hr, hlocks, hnm, hown, ht, hK, hN, hA, hP, hD, hS⟩ := hB
  have hl : lv_has ls 4 [(0, .ref h0), (1, .int p0), (2, .int p1), (3, .int p2)] := hl
  refine lv_aload_n hx hb dX11_row_0 rfl (lv_at hl 0 rfl) ?_
  refine va_get (D := D) (ci := 9) (v := .ref (r 6)) (C := "TuneSchool") (T := TX11) (N := 17) hx hb ht iX11 hown hK hP 0 rfl rfl 6 (by decide) (ht _ q1_213) (fun _ h9 => h9) rfl dX11_row_1 ?_
  refine va_get (D := D) (ci := 1) (v := .int 0) (C := "TuneSchool$Desk") (T := TX1) (N := 17) hx hb ht iX1 hown hK hP 1 rfl rfl 3 (by decide) (ht _ q1_135) (fun _ h9 => h9) rfl dX11_row_4 ?_
  refine lv_if_ne (tgt := 13) hx hb dX11_row_7 (by decide) (fun c_ => absurd c_ (by decide)) (fun _ => ?_)
  refine lv_bipush (v := (-2)) hx hb dX11_row_10 (by decide) ?_
  exact W.iret (v := (-2)) hx hb hr (fun t ht hW => ⟨⟨(-2), (), rfl, (by first | (unfold an_row; (repeat' split) <;> first | rfl | (exfalso; omega)) | rfl | decide), nilP, nilD⟩, hS.F ht⟩) hS.2.2 dX11_row_12
set_option maxHeartbeats 4000000 in
set_option maxRecDepth 100000 in
theorem c_X11_spoil (l : Launch) (D : va_G) (k : Nat → ClassId) (h0 : Nat) (r : Nat → Nat) (rd : Nat → Nat) (p0 p1 p2 p3 : Int32)  : CI l yX11_spoil cX11_spoil 7 (some .int) 0 0 0 0 D k [(h0, .inr (9, oX11 r f9)), ((r 6), .inr (1, oX1 rd f1))] [.ref h0, .int p0, .int p1, .int p2, .int p3] (S := Unit) (fun (r : Int32) (_ : Unit) => r = an_spoil p0 p1 p2 p3) (fun _ => []) := by
  intro sz
  refine mtX (Qc := fun A => va_Qi (S := Unit) (fun (r : Int32) (_ : Unit) => r = an_spoil p0 p1 p2 p3) (fun u t => WX D A ((fun _ => []) u) t) A) (free := fun A => A) (by decide) (Nat.le_of_ble_eq_true rfl) ?_
  intro p e s m below meth c ls A hB hl
  obtain ⟨hx, hb, hml, hr, hlocks, hnm, hown, ht, hK, hN, hA, hP, hD, hS⟩ := hB
  have hl : lv_has ls 7 [(0, .ref h0), (1, .int p0), (2, .int p1), (3, .int p2), (4, .int p3)] := hl
  refine lv_aload_n hx hb dX11_spoil_0 rfl (lv_at hl 0 rfl) ?_
  refine va_get (D := D) (ci := 9) (v := .ref (r 6)) (C := "TuneSchool") (T := TX11) (N := 17) hx hb ht iX11 hown hK hP 0 rfl rfl 6 (by decide) (ht _ q1_213) (fun _ h9 => h9) rfl dX11_spoil_1 ?_
  refine va_get (D := D) (ci := 1) (v := .int 0) (C := "TuneSchool$Desk") (T := TX1) (N := 17) hx hb ht iX1 hown hK hP 1 rfl rfl 3 (by decide) (ht _ q1_135) (fun _ h9 => h9) rfl dX11_spoil_4 ?_
  refine lv_if_ne (tgt := 13) hx hb dX11_spoil_7 (by decide) (fun c_ => absurd c_ (by decide)) (fun _ => ?_)
  refine lv_bipush (v := (-2)) hx hb dX11_spoil_10 (by decide) ?_
  exact W.iret (v := (-2)) hx hb hr (fun t ht hW => ⟨⟨(-2), (), rfl, (by first | (unfold an_spoil; (repeat' split) <;> first | rfl | (exfalso; omega)) | rfl | decide), nilP, nilD⟩, hS.F ht⟩) hS.2.2 dX11_spoil_12
set_option maxHeartbeats 4000000 in
set_option maxRecDepth 100000 in
theorem c_X11_check (l : Launch) (D : va_G) (k : Nat → ClassId) (h0 : Nat) (r : Nat → Nat) (rd : Nat → Nat)   : CI l yX11_check cX11_check 2 (some .int) 1 21 0 0 D k [(h0, .inr (9, oX11 r f9)), ((r 6), .inr (1, oX1 rd f1))] [.ref h0] (S := Unit) (fun (r : Int32) (_ : Unit) => r = an_check ) (fun _ => []) := by
  intro sz
  refine mtX (Qc := fun A => va_Qi (S := Unit) (fun (r : Int32) (_ : Unit) => r = an_check ) (fun u t => WX D A ((fun _ => []) u) t) A) (free := fun A => A) (by decide) (Nat.le_of_ble_eq_true rfl) ?_
  intro p e s m below meth c ls A hB hl
  obtain ⟨hx, hb, hml, hr, hlocks, hnm, hown, ht, hK, hN, hA, hP, hD, hS⟩ := hB
  have hl : lv_has ls 2 [(0, .ref h0)] := hl
  refine lv_aload_n hx hb dX11_check_0 rfl (lv_at hl 0 rfl) ?_
  refine va_get (D := D) (ci := 9) (v := .ref (r 6)) (C := "TuneSchool") (T := TX11) (N := 17) hx hb ht iX11 hown hK hP 0 rfl rfl 6 (by decide) (ht _ q1_213) (fun _ h9 => h9) rfl dX11_check_1 ?_
  refine afterP (xV (As := []) (rest := []) (wc := [((r 6), .inr (1, oX1 rd f1))]) ⟨hx, hb, hml, hown, ht⟩ (c_X1_isWorked l D k (r 6) rd _) hK hN (hP.sub (ws' := [((r 6), .inr (1, oX1 rd f1))]) [1] rfl) (hD.sub (ws' := [((r 6), .inr (1, oX1 rd f1))]) [1] (by decide) rfl) 1 0 rfl rfl rfl q4_82 q4_83 q4_84 q1_4 q4_85 md_X1_isWorked ⟨by decide, by decide⟩ rfl hl.1 rfl (Nat.le_of_ble_eq_true rfl) dX11_check_4 ⟨by decide, by decide⟩) (fun r_1 h_2 => ?_)
  obtain rfl := h_2
  refine lv_if_ne (tgt := 17) hx hb dX11_check_7 (by decide) (fun c_ => absurd c_ (by decide)) (fun _ => ?_)
  refine lv_aload_n hx hb dX11_check_10 rfl (lv_at hl 0 rfl) ?_
  refine lv_bipush (v := (-2)) hx hb dX11_check_11 (by decide) ?_
  refine afterI (wr := [((r 6), .inr (1, oX1 rd f1))]) (xV (As := [.int (-2)]) (rest := []) (wc := [(h0, .inr (9, oX11 r f9))]) ⟨hx, hb, hml, hown, ht⟩ (c_X11_fine l D k h0 r f9 (-2) _) hK hN (hP.sub (ws' := [(h0, .inr (9, oX11 r f9))]) [0] rfl) (hD.sub (ws' := [(h0, .inr (9, oX11 r f9))]) [0] (by decide) rfl) 9 0 rfl rfl rfl q2_48 q2_50 qs_2 q1_1 q2_51 md_X11_fine ⟨by decide, by decide⟩ rfl hl.1 rfl (Nat.le_of_ble_eq_true rfl) dX11_check_13 ⟨by decide, by decide⟩) hP hD hS hA [0] [1] rfl rfl rfl (by decide) (fun r_3 u_4 H locs h_5 hP hD hS => ?_)
  obtain rfl : r_3 = (-2) := h_5.trans (by decide)
  have hP : va_P D clsL [((r 6), .inr (1, oX1 rd f1))] H := hP
  have hD : va_D A [((r 6), .inr (1, oX1 rd f1))] := hD
  exact W.iret (v := (-2)) hx hb hr (fun t ht hW => ⟨⟨(-2), (), rfl, (by first | (unfold an_check; (repeat' split) <;> first | rfl | (exfalso; omega)) | rfl | decide), nilP, nilD⟩, hS.F ht⟩) hS.2.2 dX11_check_16
set_option maxHeartbeats 4000000 in
set_option maxRecDepth 100000 in
theorem c_X11_cutLine (l : Launch) (D : va_G) (k : Nat → ClassId) (h0 : Nat) (r : Nat → Nat) (rl : Nat → Nat) (p0 : Int32)  : CI l yX11_cutLine cX11_cutLine 3 (some .int) 1 22 0 0 D k [(h0, .inr (9, oX11 r f9)), ((r 7), .inr (4, oX4 rl f0))] [.ref h0, .int p0] (S := Unit) (fun (r : Int32) (_ : Unit) => r = an_cutLine p0) (fun _ => []) := by
  intro sz
  refine mtX (Qc := fun A => va_Qi (S := Unit) (fun (r : Int32) (_ : Unit) => r = an_cutLine p0) (fun u t => WX D A ((fun _ => []) u) t) A) (free := fun A => A) (by decide) (Nat.le_of_ble_eq_true rfl) ?_
  intro p e s m below meth c ls A hB hl
  obtain ⟨hx, hb, hml, hr, hlocks, hnm, hown, ht, hK, hN, hA, hP, hD, hS⟩ := hB
  have hl : lv_has ls 3 [(0, .ref h0), (1, .int p0)] := hl
  refine lv_iload_n hx hb dX11_cutLine_0 rfl (lv_at hl 1 rfl) ?_
  refine lv_iconst (v := 0) hx hb dX11_cutLine_1 (by decide) ?_
  refine lv_aload_n hx hb dX11_cutLine_2 rfl (lv_at hl 0 rfl) ?_
  refine va_get (D := D) (ci := 9) (v := .ref (r 7)) (C := "TuneSchool") (T := TX11) (N := 17) hx hb ht iX11 hown hK hP 0 rfl rfl 7 (by decide) (ht _ q1_214) (fun _ h9 => h9) rfl dX11_cutLine_3 ?_
  refine va_get (D := D) (ci := 4) (v := .int 0) (C := "TuneSchool$Line") (T := TX4) (N := 3) hx hb ht iX4 hown hK hP 1 rfl rfl 1 (by decide) (ht _ q1_196) (fun _ h9 => h9) rfl dX11_cutLine_6 ?_
  refine afterP (xS (As := [.int p0, .int 0, .int 0]) (rest := []) (wc := []) ⟨hx, hb, hml, hown, ht⟩ (c_X11_isWithin l D k p0 0 0 0 0 (by decide) (by decide) _) hK hN nilP (nilD (A := A)) q2_60 q2_61 q1_1 q2_62 md_X11_isWithin ⟨by decide, by decide⟩ rfl hl.1 rfl (Nat.le_of_ble_eq_true rfl) dX11_cutLine_9 ⟨by decide, by decide⟩) (fun r_1 h_2 => ?_)
  rcases h_2 with ⟨rfl, h_2⟩ | ⟨rfl, h_2⟩
  · skip
    refine lv_if_ne (tgt := 17) hx hb dX11_cutLine_12 (by decide) (fun _ => ?_) (fun c_ => absurd c_ (by decide))
    refine lv_aload_n hx hb dX11_cutLine_17 rfl (lv_at hl 0 rfl) ?_
    refine va_get (D := D) (ci := 9) (v := .ref (r 7)) (C := "TuneSchool") (T := TX11) (N := 17) hx hb ht iX11 hown hK hP 0 rfl rfl 7 (by decide) (ht _ q1_214) (fun _ h9 => h9) rfl dX11_cutLine_18 ?_
    refine va_get (D := D) (ci := 4) (v := .int 0) (C := "TuneSchool$Line") (T := TX4) (N := 3) hx hb ht iX4 hown hK hP 1 rfl rfl 1 (by decide) (ht _ q1_196) (fun _ h9 => h9) rfl dX11_cutLine_21 ?_
    refine lv_istore_n (lv' := [(2, .int 0), (0, .ref h0), (1, .int p0)]) hx hb dX11_cutLine_24 rfl hl (by decide) rfl (fun ls hl => ?_)
    refine lv_aload_n hx hb dX11_cutLine_25 rfl (lv_at hl 1 rfl) ?_
    refine va_get (D := D) (ci := 9) (v := .ref (r 7)) (C := "TuneSchool") (T := TX11) (N := 17) hx hb ht iX11 hown hK hP 0 rfl rfl 7 (by decide) (ht _ q1_214) (fun _ h9 => h9) rfl dX11_cutLine_26 ?_
    refine lv_iload_n hx hb dX11_cutLine_29 rfl (lv_at hl 2 rfl) ?_
    refine va_put (D := D) (ci := 4) (v := .int p0) (ty := .int) (C := "TuneSchool$Line") (T := TX4) (N := 3) hx hb ht iX4 tyX4 tyX4_ok nmX4 hown hK hP hD hS 1 rfl rfl 1 (by decide) (ht _ q1_196) (fun _ h9 => h9) rfl (by decide +kernel) rfl rfl (Nat.le_of_ble_eq_true rfl) dX11_cutLine_30 (fun H locs hP hD hS => ?_)
    have hP : va_P D clsL [(h0, .inr (9, oX11 r f9)), ((r 7), .inr (4, oX4 rl (va_up f0 1 p0)))] H := hP
    have hD : va_D A [(h0, .inr (9, oX11 r f9)), ((r 7), .inr (4, oX4 rl (va_up f0 1 p0)))] := hD
    refine lv_iload_n hx hb dX11_cutLine_33 rfl (lv_at hl 0 rfl) ?_
    exact W.iret (v := 0) hx hb hr (fun t ht hW => ⟨⟨0, (), rfl, (by first | (unfold an_cutLine; (repeat' split) <;> first | rfl | (exfalso; omega)) | rfl | decide), nilP, nilD⟩, hS.F ht⟩) hS.2.2 dX11_cutLine_34
  · skip
    refine lv_if_ne (tgt := 17) hx hb dX11_cutLine_12 (by decide) (fun c_ => absurd c_ (by decide)) (fun _ => ?_)
    refine lv_iconst (v := (-1)) hx hb dX11_cutLine_15 (by decide) ?_
    exact W.iret (v := (-1)) hx hb hr (fun t ht hW => ⟨⟨(-1), (), rfl, (by first | (unfold an_cutLine; (repeat' split) <;> first | rfl | (exfalso; omega)) | rfl | decide), nilP, nilD⟩, hS.F ht⟩) hS.2.2 dX11_cutLine_16
set_option maxHeartbeats 4000000 in
set_option maxRecDepth 100000 in
theorem c_X11_character (l : Launch) (D : va_G) (k : Nat → ClassId) (h0 : Nat) (r : Nat → Nat) (rl : Nat → Nat) (p0 : Int32)  : CI l yX11_character cX11_character 2 (some .int) 1 22 0 0 D k [(h0, .inr (9, oX11 r f9)), ((r 7), .inr (4, oX4 rl f0))] [.ref h0, .int p0] (S := Unit) (fun (r : Int32) (_ : Unit) => r = an_character p0) (fun _ => []) := by
  intro sz
  refine mtX (Qc := fun A => va_Qi (S := Unit) (fun (r : Int32) (_ : Unit) => r = an_character p0) (fun u t => WX D A ((fun _ => []) u) t) A) (free := fun A => A) (by decide) (Nat.le_of_ble_eq_true rfl) ?_
  intro p e s m below meth c ls A hB hl
  obtain ⟨hx, hb, hml, hr, hlocks, hnm, hown, ht, hK, hN, hA, hP, hD, hS⟩ := hB
  have hl : lv_has ls 2 [(0, .ref h0), (1, .int p0)] := hl
  refine lv_iload_n hx hb dX11_character_0 rfl (lv_at hl 1 rfl) ?_
  refine lv_iconst (v := 0) hx hb dX11_character_1 (by decide) ?_
  refine lv_aload_n hx hb dX11_character_2 rfl (lv_at hl 0 rfl) ?_
  refine va_get (D := D) (ci := 9) (v := .ref (r 7)) (C := "TuneSchool") (T := TX11) (N := 17) hx hb ht iX11 hown hK hP 0 rfl rfl 7 (by decide) (ht _ q1_214) (fun _ h9 => h9) rfl dX11_character_3 ?_
  refine va_get (D := D) (ci := 4) (v := .int 0) (C := "TuneSchool$Line") (T := TX4) (N := 3) hx hb ht iX4 hown hK hP 1 rfl rfl 1 (by decide) (ht _ q1_196) (fun _ h9 => h9) rfl dX11_character_6 ?_
  refine lv_iconst (v := 1) hx hb dX11_character_9 (by decide) ?_
  refine ev_isub (v := (-1)) hx hb dX11_character_10 (by decide) ?_
  refine afterP (xS (As := [.int p0, .int 0, .int (-1)]) (rest := []) (wc := []) ⟨hx, hb, hml, hown, ht⟩ (c_X11_isWithin l D k p0 0 (-1) 0 (-1) (by decide) (by decide) _) hK hN nilP (nilD (A := A)) q2_60 q2_61 q1_1 q2_62 md_X11_isWithin ⟨by decide, by decide⟩ rfl hl.1 rfl (Nat.le_of_ble_eq_true rfl) dX11_character_11 ⟨by decide, by decide⟩) (fun r_1 h_2 => ?_)
  rcases h_2 with ⟨rfl, h_2⟩ | ⟨rfl, h_2⟩
  · exact absurd h_2 (by first | decide | omega)
  · skip
    refine lv_if_eq (tgt := 29) hx hb dX11_character_14 (by decide) (fun _ => ?_) (fun c_ => absurd c_ (by decide))
    refine lv_bipush (v := (-2)) hx hb dX11_character_29 (by decide) ?_
    exact W.iret (v := (-2)) hx hb hr (fun t ht hW => ⟨⟨(-2), (), rfl, (by first | (unfold an_character; (repeat' split) <;> first | rfl | (exfalso; omega)) | rfl | decide), nilP, nilD⟩, hS.F ht⟩) hS.2.2 dX11_character_31
set_option maxHeartbeats 4000000 in
set_option maxRecDepth 100000 in
theorem c_X11_status (l : Launch) (D : va_G) (k : Nat → ClassId) (h0 : Nat) (r : Nat → Nat)   : CI l yX11_status cX11_status 1 (some .int) 0 0 0 0 D k [(h0, .inr (9, oX11 r f9))] [.ref h0] (S := Unit) (fun (r : Int32) (_ : Unit) => r = an_status ) (fun _ => []) := by
  intro sz
  refine mtX (Qc := fun A => va_Qi (S := Unit) (fun (r : Int32) (_ : Unit) => r = an_status ) (fun u t => WX D A ((fun _ => []) u) t) A) (free := fun A => A) (by decide) (Nat.le_of_ble_eq_true rfl) ?_
  intro p e s m below meth c ls A hB hl
  obtain ⟨hx, hb, hml, hr, hlocks, hnm, hown, ht, hK, hN, hA, hP, hD, hS⟩ := hB
  have hl : lv_has ls 1 [(0, .ref h0)] := hl
  refine lv_aload_n hx hb dX11_status_0 rfl (lv_at hl 0 rfl) ?_
  refine va_get (D := D) (ci := 9) (v := .int 0) (C := "TuneSchool") (T := TX11) (N := 17) hx hb ht iX11 hown hK hP 0 rfl rfl 14 (by decide) (ht _ q1_221) (fun _ h9 => h9) rfl dX11_status_1 ?_
  exact W.iret (v := 0) hx hb hr (fun t ht hW => ⟨⟨0, (), rfl, (by first | (unfold an_status; (repeat' split) <;> first | rfl | (exfalso; omega)) | rfl | decide), nilP, nilD⟩, hS.F ht⟩) hS.2.2 dX11_status_4
set_option maxHeartbeats 4000000 in
set_option maxRecDepth 100000 in
theorem c_X11_trace (l : Launch) (D : va_G) (k : Nat → ClassId) (h0 : Nat) (r : Nat → Nat) (rm : Nat → Nat) (p0 : Int32)  : CI l yX11_trace cX11_trace 2 (some .int) 1 22 0 0 D k [(h0, .inr (9, oX11 r f9)), ((r 5), .inr (5, oX5 rm f5))] [.ref h0, .int p0] (S := Unit) (fun (r : Int32) (_ : Unit) => r = an_trace p0) (fun _ => []) := by
  intro sz
  refine mtX (Qc := fun A => va_Qi (S := Unit) (fun (r : Int32) (_ : Unit) => r = an_trace p0) (fun u t => WX D A ((fun _ => []) u) t) A) (free := fun A => A) (by decide) (Nat.le_of_ble_eq_true rfl) ?_
  intro p e s m below meth c ls A hB hl
  obtain ⟨hx, hb, hml, hr, hlocks, hnm, hown, ht, hK, hN, hA, hP, hD, hS⟩ := hB
  have hl : lv_has ls 2 [(0, .ref h0), (1, .int p0)] := hl
  refine lv_iload_n hx hb dX11_trace_0 rfl (lv_at hl 1 rfl) ?_
  refine lv_iconst (v := 0) hx hb dX11_trace_1 (by decide) ?_
  refine lv_aload_n hx hb dX11_trace_2 rfl (lv_at hl 0 rfl) ?_
  refine va_get (D := D) (ci := 9) (v := .ref (r 5)) (C := "TuneSchool") (T := TX11) (N := 17) hx hb ht iX11 hown hK hP 0 rfl rfl 5 (by decide) (ht _ q1_212) (fun _ h9 => h9) rfl dX11_trace_3 ?_
  refine va_get (D := D) (ci := 5) (v := .int 0) (C := "TuneSchool$Moment") (T := TX5) (N := 11) hx hb ht iX5 hown hK hP 1 rfl rfl 1 (by decide) (ht _ q1_70) (fun _ h9 => h9) rfl dX11_trace_6 ?_
  refine lv_bipush (v := 60) hx hb dX11_trace_9 (by decide) ?_
  refine va_mmin hx hb (by rw [hml]; exact hl.1.symm) hown (ht _ q4_213) (ht _ q3_157) (ht _ q1_16) (ht _ q3_158) (by decide) (Nat.le_of_ble_eq_true rfl) (by decide) (by decide) dX11_trace_11 ?_
  refine W.eq (g2 := F0 m 14 ls [.int 0, .int 0, .int p0]) rfl ?_
  refine lv_iconst (v := 1) hx hb dX11_trace_14 (by decide) ?_
  refine ev_isub (v := (-1)) hx hb dX11_trace_15 (by decide) ?_
  refine afterP (xS (As := [.int p0, .int 0, .int (-1)]) (rest := []) (wc := []) ⟨hx, hb, hml, hown, ht⟩ (c_X11_isWithin l D k p0 0 (-1) 0 (-1) (by decide) (by decide) _) hK hN nilP (nilD (A := A)) q2_60 q2_61 q1_1 q2_62 md_X11_isWithin ⟨by decide, by decide⟩ rfl hl.1 rfl (Nat.le_of_ble_eq_true rfl) dX11_trace_16 ⟨by decide, by decide⟩) (fun r_1 h_2 => ?_)
  rcases h_2 with ⟨rfl, h_2⟩ | ⟨rfl, h_2⟩
  · exact absurd h_2 (by first | decide | omega)
  · skip
    refine lv_if_eq (tgt := 34) hx hb dX11_trace_19 (by decide) (fun _ => ?_) (fun c_ => absurd c_ (by decide))
    refine lv_bipush (v := (-2)) hx hb dX11_trace_34 (by decide) ?_
    exact W.iret (v := (-2)) hx hb hr (fun t ht hW => ⟨⟨(-2), (), rfl, (by first | (unfold an_trace; (repeat' split) <;> first | rfl | (exfalso; omega)) | rfl | decide), nilP, nilD⟩, hS.F ht⟩) hS.2.2 dX11_trace_36
