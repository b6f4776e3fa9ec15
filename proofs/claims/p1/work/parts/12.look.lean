set_option maxHeartbeats 4000000 in
set_option maxRecDepth 100000 in
theorem c_X11_note (l : Launch) (D : va_G) (k : Nat → ClassId) (h0 : Nat) (r : Nat → Nat) (vf : Nat → Option Nat) (hv : Nat) (rv : Nat → Nat) (p0 p1 p2 p3 : Int32) (hvf : 0 ≤ p0.toInt → p0.toInt < 6 → vf p0.toNatClampNeg = some hv) : CI l yX11_note cX11_note 6 (some .int) 1 22 0 0 D k [(h0, .inr (9, oX11 r f9)), ((r 0), .inl (k 3, 6, .inr (.inr (.inr (.inr vf))))), (hv, .inr (8, oX10 rv f0))] [.ref h0, .int p0, .int p1, .int p2, .int p3] (S := Unit) (fun (r : Int32) (_ : Unit) => r = an_note p0 p1 p2 p3) (fun _ => []) := by
  intro sz
  refine mtX (Qc := fun A => va_Qi (S := Unit) (fun (r : Int32) (_ : Unit) => r = an_note p0 p1 p2 p3) (fun u t => WX D A ((fun _ => []) u) t) A) (free := fun A => A) (by decide) (Nat.le_of_ble_eq_true rfl) ?_
  intro p e s m below meth c ls A hB hl
  obtain ⟨hx, hb, hml, hr, hlocks, hnm, hown, ht, hK, hN, hA, hP, hD, hS⟩ := hB
  have hl : lv_has ls 6 [(0, .ref h0), (1, .int p0), (2, .int p1), (3, .int p2), (4, .int p3)] := hl
  refine lv_iload_n hx hb dX11_note_0 rfl (lv_at hl 1 rfl) ?_
  refine afterP (xS (As := [.int p0]) (rest := []) (wc := []) ⟨hx, hb, hml, hown, ht⟩ (c_X11_isVoice l D k p0 _) hK hN nilP (nilD (A := A)) q2_23 q2_24 q1_1 q2_25 md_X11_isVoice ⟨by decide, by decide⟩ rfl hl.1 rfl (Nat.le_of_ble_eq_true rfl) dX11_note_1 ⟨by decide, by decide⟩) (fun r_1 h_2 => ?_)
  rcases h_2 with ⟨rfl, h_2⟩ | ⟨rfl, h_2⟩
  · skip
    refine lv_if_eq (tgt := 28) hx hb dX11_note_4 (by decide) (fun c_ => absurd c_ (by decide)) (fun _ => ?_)
    refine lv_iload_n hx hb dX11_note_7 rfl (lv_at hl 3 rfl) ?_
    refine lv_iconst (v := 0) hx hb dX11_note_8 (by decide) ?_
    refine lv_bipush (v := 120) hx hb dX11_note_9 (by decide) ?_
    refine afterP (xS (As := [.int p2, .int 0, .int 120]) (rest := []) (wc := []) ⟨hx, hb, hml, hown, ht⟩ (c_X11_isWithin l D k p2 0 120 0 120 (by decide) (by decide) _) hK hN nilP (nilD (A := A)) q2_60 q2_61 q1_1 q2_62 md_X11_isWithin ⟨by decide, by decide⟩ rfl hl.1 rfl (Nat.le_of_ble_eq_true rfl) dX11_note_11 ⟨by decide, by decide⟩) (fun r_3 h_4 => ?_)
    rcases h_4 with ⟨rfl, h_4⟩ | ⟨rfl, h_4⟩
    · skip
      refine lv_if_eq (tgt := 28) hx hb dX11_note_14 (by decide) (fun c_ => absurd c_ (by decide)) (fun _ => ?_)
      refine lv_iload hx hb dX11_note_17 (lv_at hl 4 rfl) ?_
      refine lv_iconst (v := 0) hx hb dX11_note_19 (by decide) ?_
      refine lv_bipush (v := 8) hx hb dX11_note_20 (by decide) ?_
      refine afterP (xS (As := [.int p3, .int 0, .int 8]) (rest := []) (wc := []) ⟨hx, hb, hml, hown, ht⟩ (c_X11_isWithin l D k p3 0 8 0 8 (by decide) (by decide) _) hK hN nilP (nilD (A := A)) q2_60 q2_61 q1_1 q2_62 md_X11_isWithin ⟨by decide, by decide⟩ rfl hl.1 rfl (Nat.le_of_ble_eq_true rfl) dX11_note_22 ⟨by decide, by decide⟩) (fun r_5 h_6 => ?_)
      rcases h_6 with ⟨rfl, h_6⟩ | ⟨rfl, h_6⟩
      · skip
        refine lv_if_ne (tgt := 30) hx hb dX11_note_25 (by decide) (fun _ => ?_) (fun c_ => absurd c_ (by decide))
        refine lv_aload_n hx hb dX11_note_30 rfl (lv_at hl 0 rfl) ?_
        refine va_get (D := D) (ci := 9) (v := .ref (r 0)) (C := "TuneSchool") (T := TX11) (N := 17) hx hb ht iX11 hown hK hP 0 rfl rfl 0 (by decide) (ht _ q1_207) (fun _ h9 => h9) rfl dX11_note_31 ?_
        refine lv_iload_n hx hb dX11_note_34 rfl (lv_at hl 1 rfl) ?_
        refine ldQ (w := hv) hx hb hK hP 1 3 rfl rfl (vin (by omega) (by omega)) (hvf (by omega) (by omega)) dX11_note_35 ?_
        refine lv_astore (lv' := [(5, .ref hv), (0, .ref h0), (1, .int p0), (2, .int p1), (3, .int p2), (4, .int p3)]) hx hb dX11_note_36 hl (by decide) rfl (fun ls hl => ?_)
        refine lv_aload hx hb dX11_note_38 (lv_at hl 0 rfl) ?_
        refine va_get (D := D) (ci := 8) (v := .int 0) (C := "TuneSchool$Voice") (T := TX10) (N := 5) hx hb ht iX10 hown hK hP 2 rfl rfl 4 (by decide) (ht _ q1_46) (fun _ h9 => h9) rfl dX11_note_40 ?_
        refine lv_if_ne (tgt := 52) hx hb dX11_note_43 (by decide) (fun c_ => absurd c_ (by decide)) (fun _ => ?_)
        refine lv_aload_n hx hb dX11_note_46 rfl (lv_at hl 1 rfl) ?_
        refine lv_iconst (v := 1) hx hb dX11_note_47 (by decide) ?_
        refine afterI (wr := [((r 0), .inl (k 3, 6, .inr (.inr (.inr (.inr vf))))), (hv, .inr (8, oX10 rv f0))]) (xV (As := [.int 1]) (rest := []) (wc := [(h0, .inr (9, oX11 r f9))]) ⟨hx, hb, hml, hown, ht⟩ (c_X11_finding l D k h0 r f9 1 _) hK hN (hP.sub (ws' := [(h0, .inr (9, oX11 r f9))]) [0] rfl) (hD.sub (ws' := [(h0, .inr (9, oX11 r f9))]) [0] (by decide) rfl) 9 0 rfl rfl rfl q2_26 q2_28 qs_0 q1_1 q2_29 md_X11_finding ⟨by decide, by decide⟩ rfl hl.1 rfl (Nat.le_of_ble_eq_true rfl) dX11_note_48 ⟨by decide, by decide⟩) hP hD hS hA [0] [1, 2] rfl rfl rfl (by decide) (fun r_7 u_8 H locs h_9 hP hD hS => ?_)
        obtain rfl : r_7 = (-11) := h_9.trans (by decide)
        have hP : va_P D clsL [((r 0), .inl (k 3, 6, .inr (.inr (.inr (.inr vf))))), (hv, .inr (8, oX10 rv f0))] H := hP
        have hD : va_D A [((r 0), .inl (k 3, 6, .inr (.inr (.inr (.inr vf))))), (hv, .inr (8, oX10 rv f0))] := hD
        exact W.iret (v := (-11)) hx hb hr (fun t ht hW => ⟨⟨(-11), (), rfl, (by first | (unfold an_note; (repeat' split) <;> first | rfl | (exfalso; omega)) | rfl | decide), nilP, nilD⟩, hS.F ht⟩) hS.2.2 dX11_note_51
      · skip
        refine lv_if_ne (tgt := 30) hx hb dX11_note_25 (by decide) (fun c_ => absurd c_ (by decide)) (fun _ => ?_)
        refine lv_iconst (v := (-1)) hx hb dX11_note_28 (by decide) ?_
        exact W.iret (v := (-1)) hx hb hr (fun t ht hW => ⟨⟨(-1), (), rfl, (by first | (unfold an_note; (repeat' split) <;> first | rfl | (exfalso; omega)) | rfl | decide), nilP, nilD⟩, hS.F ht⟩) hS.2.2 dX11_note_29
    · skip
      refine lv_if_eq (tgt := 28) hx hb dX11_note_14 (by decide) (fun _ => ?_) (fun c_ => absurd c_ (by decide))
      refine lv_iconst (v := (-1)) hx hb dX11_note_28 (by decide) ?_
      exact W.iret (v := (-1)) hx hb hr (fun t ht hW => ⟨⟨(-1), (), rfl, (by first | (unfold an_note; (repeat' split) <;> first | rfl | (exfalso; omega)) | rfl | decide), nilP, nilD⟩, hS.F ht⟩) hS.2.2 dX11_note_29
  · skip
    refine lv_if_eq (tgt := 28) hx hb dX11_note_4 (by decide) (fun _ => ?_) (fun c_ => absurd c_ (by decide))
    refine lv_iconst (v := (-1)) hx hb dX11_note_28 (by decide) ?_
    exact W.iret (v := (-1)) hx hb hr (fun t ht hW => ⟨⟨(-1), (), rfl, (by first | (unfold an_note; (repeat' split) <;> first | rfl | (exfalso; omega)) | rfl | decide), nilP, nilD⟩, hS.F ht⟩) hS.2.2 dX11_note_29
set_option maxHeartbeats 4000000 in
set_option maxRecDepth 100000 in
theorem c_X11_cut (l : Launch) (D : va_G) (k : Nat → ClassId) (h0 : Nat) (r : Nat → Nat) (vf : Nat → Option Nat) (hv : Nat) (rv : Nat → Nat) (p0 p1 p2 : Int32) (hvf : 0 ≤ p0.toInt → p0.toInt < 6 → vf p0.toNatClampNeg = some hv) : CI l yX11_cut cX11_cut 6 (some .int) 1 21 0 0 D k [(h0, .inr (9, oX11 r f9)), ((r 0), .inl (k 3, 6, .inr (.inr (.inr (.inr vf))))), (hv, .inr (8, oX10 rv f0))] [.ref h0, .int p0, .int p1, .int p2] (S := Unit) (fun (r : Int32) (_ : Unit) => r = an_cut p0 p1 p2) (fun _ => []) := by
  intro sz
  refine mtX (Qc := fun A => va_Qi (S := Unit) (fun (r : Int32) (_ : Unit) => r = an_cut p0 p1 p2) (fun u t => WX D A ((fun _ => []) u) t) A) (free := fun A => A) (by decide) (Nat.le_of_ble_eq_true rfl) ?_
  intro p e s m below meth c ls A hB hl
  obtain ⟨hx, hb, hml, hr, hlocks, hnm, hown, ht, hK, hN, hA, hP, hD, hS⟩ := hB
  have hl : lv_has ls 6 [(0, .ref h0), (1, .int p0), (2, .int p1), (3, .int p2)] := hl
  refine lv_iload_n hx hb dX11_cut_0 rfl (lv_at hl 1 rfl) ?_
  refine afterP (xS (As := [.int p0]) (rest := []) (wc := []) ⟨hx, hb, hml, hown, ht⟩ (c_X11_isVoice l D k p0 _) hK hN nilP (nilD (A := A)) q2_23 q2_24 q1_1 q2_25 md_X11_isVoice ⟨by decide, by decide⟩ rfl hl.1 rfl (Nat.le_of_ble_eq_true rfl) dX11_cut_1 ⟨by decide, by decide⟩) (fun r_1 h_2 => ?_)
  rcases h_2 with ⟨rfl, h_2⟩ | ⟨rfl, h_2⟩
  · skip
    refine lv_if_eq (tgt := 20) hx hb dX11_cut_4 (by decide) (fun c_ => absurd c_ (by decide)) (fun _ => ?_)
    refine lv_iload_n hx hb dX11_cut_7 rfl (lv_at hl 2 rfl) ?_
    refine afterP (xS (As := [.int p1]) (rest := []) (wc := []) ⟨hx, hb, hml, hown, ht⟩ (c_X11_isRow l D k p1 _) hK hN nilP (nilD (A := A)) q2_71 q2_72 q1_1 q2_73 md_X11_isRow ⟨by decide, by decide⟩ rfl hl.1 rfl (Nat.le_of_ble_eq_true rfl) dX11_cut_8 ⟨by decide, by decide⟩) (fun r_3 h_4 => ?_)
    rcases h_4 with ⟨rfl, h_4⟩ | ⟨rfl, h_4⟩
    · skip
      refine lv_if_eq (tgt := 20) hx hb dX11_cut_11 (by decide) (fun c_ => absurd c_ (by decide)) (fun _ => ?_)
      refine lv_iload_n hx hb dX11_cut_14 rfl (lv_at hl 3 rfl) ?_
      refine lv_bipush (v := 24) hx hb dX11_cut_15 (by decide) ?_
      refine lv_icmp_le (tgt := 22) hx hb dX11_cut_17 (by decide) (fun c_5 => ?_) (fun c_5 => ?_)
      · skip
        have c_5 := i_le (a := p2.toInt) (b := 24) rfl (by decide) c_5
        refine lv_aload_n hx hb dX11_cut_22 rfl (lv_at hl 0 rfl) ?_
        refine va_get (D := D) (ci := 9) (v := .ref (r 0)) (C := "TuneSchool") (T := TX11) (N := 17) hx hb ht iX11 hown hK hP 0 rfl rfl 0 (by decide) (ht _ q1_207) (fun _ h9 => h9) rfl dX11_cut_23 ?_
        refine lv_iload_n hx hb dX11_cut_26 rfl (lv_at hl 1 rfl) ?_
        refine ldQ (w := hv) hx hb hK hP 1 3 rfl rfl (vin (by omega) (by omega)) (hvf (by omega) (by omega)) dX11_cut_27 ?_
        refine lv_astore (lv' := [(4, .ref hv), (0, .ref h0), (1, .int p0), (2, .int p1), (3, .int p2)]) hx hb dX11_cut_28 hl (by decide) rfl (fun ls hl => ?_)
        refine lv_aload hx hb dX11_cut_30 (lv_at hl 0 rfl) ?_
        refine va_get (D := D) (ci := 8) (v := .int 0) (C := "TuneSchool$Voice") (T := TX10) (N := 5) hx hb ht iX10 hown hK hP 2 rfl rfl 4 (by decide) (ht _ q1_46) (fun _ h9 => h9) rfl dX11_cut_32 ?_
        refine lv_if_ne (tgt := 44) hx hb dX11_cut_35 (by decide) (fun c_ => absurd c_ (by decide)) (fun _ => ?_)
        refine lv_aload_n hx hb dX11_cut_38 rfl (lv_at hl 1 rfl) ?_
        refine lv_iconst (v := 1) hx hb dX11_cut_39 (by decide) ?_
        refine afterI (wr := [((r 0), .inl (k 3, 6, .inr (.inr (.inr (.inr vf))))), (hv, .inr (8, oX10 rv f0))]) (xV (As := [.int 1]) (rest := []) (wc := [(h0, .inr (9, oX11 r f9))]) ⟨hx, hb, hml, hown, ht⟩ (c_X11_finding l D k h0 r f9 1 _) hK hN (hP.sub (ws' := [(h0, .inr (9, oX11 r f9))]) [0] rfl) (hD.sub (ws' := [(h0, .inr (9, oX11 r f9))]) [0] (by decide) rfl) 9 0 rfl rfl rfl q2_26 q2_28 qs_0 q1_1 q2_29 md_X11_finding ⟨by decide, by decide⟩ rfl hl.1 rfl (Nat.le_of_ble_eq_true rfl) dX11_cut_40 ⟨by decide, by decide⟩) hP hD hS hA [0] [1, 2] rfl rfl rfl (by decide) (fun r_6 u_7 H locs h_8 hP hD hS => ?_)
        obtain rfl : r_6 = (-11) := h_8.trans (by decide)
        have hP : va_P D clsL [((r 0), .inl (k 3, 6, .inr (.inr (.inr (.inr vf))))), (hv, .inr (8, oX10 rv f0))] H := hP
        have hD : va_D A [((r 0), .inl (k 3, 6, .inr (.inr (.inr (.inr vf))))), (hv, .inr (8, oX10 rv f0))] := hD
        exact W.iret (v := (-11)) hx hb hr (fun t ht hW => ⟨⟨(-11), (), rfl, (by first | (unfold an_cut; (repeat' split) <;> first | rfl | (exfalso; omega)) | rfl | decide), nilP, nilD⟩, hS.F ht⟩) hS.2.2 dX11_cut_43
      · skip
        have c_5 := i_nle (a := p2.toInt) (b := 24) rfl (by decide) c_5
        refine lv_iconst (v := (-1)) hx hb dX11_cut_20 (by decide) ?_
        exact W.iret (v := (-1)) hx hb hr (fun t ht hW => ⟨⟨(-1), (), rfl, (by first | (unfold an_cut; (repeat' split) <;> first | rfl | (exfalso; omega)) | rfl | decide), nilP, nilD⟩, hS.F ht⟩) hS.2.2 dX11_cut_21
    · skip
      refine lv_if_eq (tgt := 20) hx hb dX11_cut_11 (by decide) (fun _ => ?_) (fun c_ => absurd c_ (by decide))
      refine lv_iconst (v := (-1)) hx hb dX11_cut_20 (by decide) ?_
      exact W.iret (v := (-1)) hx hb hr (fun t ht hW => ⟨⟨(-1), (), rfl, (by first | (unfold an_cut; (repeat' split) <;> first | rfl | (exfalso; omega)) | rfl | decide), nilP, nilD⟩, hS.F ht⟩) hS.2.2 dX11_cut_21
  · skip
    refine lv_if_eq (tgt := 20) hx hb dX11_cut_4 (by decide) (fun _ => ?_) (fun c_ => absurd c_ (by decide))
    refine lv_iconst (v := (-1)) hx hb dX11_cut_20 (by decide) ?_
    exact W.iret (v := (-1)) hx hb hr (fun t ht hW => ⟨⟨(-1), (), rfl, (by first | (unfold an_cut; (repeat' split) <;> first | rfl | (exfalso; omega)) | rfl | decide), nilP, nilD⟩, hS.F ht⟩) hS.2.2 dX11_cut_21
set_option maxHeartbeats 4000000 in
set_option maxRecDepth 100000 in
theorem c_X11_size (l : Launch) (D : va_G) (k : Nat → ClassId) (h0 : Nat) (r : Nat → Nat) (vf : Nat → Option Nat) (hv : Nat) (rv : Nat → Nat) (p0 p1 : Int32) (hvf : 0 ≤ p0.toInt → p0.toInt < 6 → vf p0.toNatClampNeg = some hv) : CI l yX11_size cX11_size 3 (some .int) 1 21 0 0 D k [(h0, .inr (9, oX11 r f9)), ((r 0), .inl (k 3, 6, .inr (.inr (.inr (.inr vf))))), (hv, .inr (8, oX10 rv f0))] [.ref h0, .int p0, .int p1] (S := Unit) (fun (r : Int32) (_ : Unit) => r = an_size p0 p1) (fun _ => []) := by
  intro sz
  refine mtX (Qc := fun A => va_Qi (S := Unit) (fun (r : Int32) (_ : Unit) => r = an_size p0 p1) (fun u t => WX D A ((fun _ => []) u) t) A) (free := fun A => A) (by decide) (Nat.le_of_ble_eq_true rfl) ?_
  intro p e s m below meth c ls A hB hl
  obtain ⟨hx, hb, hml, hr, hlocks, hnm, hown, ht, hK, hN, hA, hP, hD, hS⟩ := hB
  have hl : lv_has ls 3 [(0, .ref h0), (1, .int p0), (2, .int p1)] := hl
  refine lv_iload_n hx hb dX11_size_0 rfl (lv_at hl 1 rfl) ?_
  refine afterP (xS (As := [.int p0]) (rest := []) (wc := []) ⟨hx, hb, hml, hown, ht⟩ (c_X11_isVoice l D k p0 _) hK hN nilP (nilD (A := A)) q2_23 q2_24 q1_1 q2_25 md_X11_isVoice ⟨by decide, by decide⟩ rfl hl.1 rfl (Nat.le_of_ble_eq_true rfl) dX11_size_1 ⟨by decide, by decide⟩) (fun r_1 h_2 => ?_)
  rcases h_2 with ⟨rfl, h_2⟩ | ⟨rfl, h_2⟩
  · skip
    refine lv_if_eq (tgt := 14) hx hb dX11_size_4 (by decide) (fun c_ => absurd c_ (by decide)) (fun _ => ?_)
    refine lv_iload_n hx hb dX11_size_7 rfl (lv_at hl 2 rfl) ?_
    refine afterP (xS (As := [.int p1]) (rest := []) (wc := []) ⟨hx, hb, hml, hown, ht⟩ (c_X11_isRow l D k p1 _) hK hN nilP (nilD (A := A)) q2_71 q2_72 q1_1 q2_73 md_X11_isRow ⟨by decide, by decide⟩ rfl hl.1 rfl (Nat.le_of_ble_eq_true rfl) dX11_size_8 ⟨by decide, by decide⟩) (fun r_3 h_4 => ?_)
    rcases h_4 with ⟨rfl, h_4⟩ | ⟨rfl, h_4⟩
    · skip
      refine lv_if_ne (tgt := 16) hx hb dX11_size_11 (by decide) (fun _ => ?_) (fun c_ => absurd c_ (by decide))
      refine lv_aload_n hx hb dX11_size_16 rfl (lv_at hl 0 rfl) ?_
      refine va_get (D := D) (ci := 9) (v := .ref (r 0)) (C := "TuneSchool") (T := TX11) (N := 17) hx hb ht iX11 hown hK hP 0 rfl rfl 0 (by decide) (ht _ q1_207) (fun _ h9 => h9) rfl dX11_size_17 ?_
      refine lv_iload_n hx hb dX11_size_20 rfl (lv_at hl 1 rfl) ?_
      refine ldQ (w := hv) hx hb hK hP 1 3 rfl rfl (vin (by omega) (by omega)) (hvf (by omega) (by omega)) dX11_size_21 ?_
      refine va_get (D := D) (ci := 8) (v := .int 0) (C := "TuneSchool$Voice") (T := TX10) (N := 5) hx hb ht iX10 hown hK hP 2 rfl rfl 4 (by decide) (ht _ q1_46) (fun _ h9 => h9) rfl dX11_size_22 ?_
      refine lv_if_eq (tgt := 46) hx hb dX11_size_25 (by decide) (fun _ => ?_) (fun c_ => absurd c_ (by decide))
      refine lv_aload_n hx hb dX11_size_46 rfl (lv_at hl 0 rfl) ?_
      refine lv_iconst (v := 1) hx hb dX11_size_47 (by decide) ?_
      refine afterI (wr := [((r 0), .inl (k 3, 6, .inr (.inr (.inr (.inr vf))))), (hv, .inr (8, oX10 rv f0))]) (xV (As := [.int 1]) (rest := []) (wc := [(h0, .inr (9, oX11 r f9))]) ⟨hx, hb, hml, hown, ht⟩ (c_X11_finding l D k h0 r f9 1 _) hK hN (hP.sub (ws' := [(h0, .inr (9, oX11 r f9))]) [0] rfl) (hD.sub (ws' := [(h0, .inr (9, oX11 r f9))]) [0] (by decide) rfl) 9 0 rfl rfl rfl q2_26 q2_28 qs_0 q1_1 q2_29 md_X11_finding ⟨by decide, by decide⟩ rfl hl.1 rfl (Nat.le_of_ble_eq_true rfl) dX11_size_48 ⟨by decide, by decide⟩) hP hD hS hA [0] [1, 2] rfl rfl rfl (by decide) (fun r_5 u_6 H locs h_7 hP hD hS => ?_)
      obtain rfl : r_5 = (-11) := h_7.trans (by decide)
      have hP : va_P D clsL [((r 0), .inl (k 3, 6, .inr (.inr (.inr (.inr vf))))), (hv, .inr (8, oX10 rv f0))] H := hP
      have hD : va_D A [((r 0), .inl (k 3, 6, .inr (.inr (.inr (.inr vf))))), (hv, .inr (8, oX10 rv f0))] := hD
      exact W.iret (v := (-11)) hx hb hr (fun t ht hW => ⟨⟨(-11), (), rfl, (by first | (unfold an_size; (repeat' split) <;> first | rfl | (exfalso; omega)) | rfl | decide), nilP, nilD⟩, hS.F ht⟩) hS.2.2 dX11_size_51
    · skip
      refine lv_if_ne (tgt := 16) hx hb dX11_size_11 (by decide) (fun c_ => absurd c_ (by decide)) (fun _ => ?_)
      refine lv_iconst (v := (-1)) hx hb dX11_size_14 (by decide) ?_
      exact W.iret (v := (-1)) hx hb hr (fun t ht hW => ⟨⟨(-1), (), rfl, (by first | (unfold an_size; (repeat' split) <;> first | rfl | (exfalso; omega)) | rfl | decide), nilP, nilD⟩, hS.F ht⟩) hS.2.2 dX11_size_15
  · skip
    refine lv_if_eq (tgt := 14) hx hb dX11_size_4 (by decide) (fun _ => ?_) (fun c_ => absurd c_ (by decide))
    refine lv_iconst (v := (-1)) hx hb dX11_size_14 (by decide) ?_
    exact W.iret (v := (-1)) hx hb hr (fun t ht hW => ⟨⟨(-1), (), rfl, (by first | (unfold an_size; (repeat' split) <;> first | rfl | (exfalso; omega)) | rfl | decide), nilP, nilD⟩, hS.F ht⟩) hS.2.2 dX11_size_15
set_option maxHeartbeats 4000000 in
set_option maxRecDepth 100000 in
theorem c_X11_number (l : Launch) (D : va_G) (k : Nat → ClassId) (h0 : Nat) (r : Nat → Nat) (vf : Nat → Option Nat) (hv : Nat) (rv : Nat → Nat) (p0 p1 p2 : Int32) (hvf : 0 ≤ p0.toInt → p0.toInt < 6 → vf p0.toNatClampNeg = some hv) : CI l yX11_number cX11_number 5 (some .int) 1 21 0 0 D k [(h0, .inr (9, oX11 r f9)), ((r 0), .inl (k 3, 6, .inr (.inr (.inr (.inr vf))))), (hv, .inr (8, oX10 rv f0))] [.ref h0, .int p0, .int p1, .int p2] (S := Unit) (fun (r : Int32) (_ : Unit) => r = an_number p0 p1 p2) (fun _ => []) := by
  intro sz
  refine mtX (Qc := fun A => va_Qi (S := Unit) (fun (r : Int32) (_ : Unit) => r = an_number p0 p1 p2) (fun u t => WX D A ((fun _ => []) u) t) A) (free := fun A => A) (by decide) (Nat.le_of_ble_eq_true rfl) ?_
  intro p e s m below meth c ls A hB hl
  obtain ⟨hx, hb, hml, hr, hlocks, hnm, hown, ht, hK, hN, hA, hP, hD, hS⟩ := hB
  have hl : lv_has ls 5 [(0, .ref h0), (1, .int p0), (2, .int p1), (3, .int p2)] := hl
  refine lv_iload_n hx hb dX11_number_0 rfl (lv_at hl 1 rfl) ?_
  refine afterP (xS (As := [.int p0]) (rest := []) (wc := []) ⟨hx, hb, hml, hown, ht⟩ (c_X11_isVoice l D k p0 _) hK hN nilP (nilD (A := A)) q2_23 q2_24 q1_1 q2_25 md_X11_isVoice ⟨by decide, by decide⟩ rfl hl.1 rfl (Nat.le_of_ble_eq_true rfl) dX11_number_1 ⟨by decide, by decide⟩) (fun r_1 h_2 => ?_)
  rcases h_2 with ⟨rfl, h_2⟩ | ⟨rfl, h_2⟩
  · skip
    refine lv_if_eq (tgt := 14) hx hb dX11_number_4 (by decide) (fun c_ => absurd c_ (by decide)) (fun _ => ?_)
    refine lv_iload_n hx hb dX11_number_7 rfl (lv_at hl 2 rfl) ?_
    refine afterP (xS (As := [.int p1]) (rest := []) (wc := []) ⟨hx, hb, hml, hown, ht⟩ (c_X11_isRow l D k p1 _) hK hN nilP (nilD (A := A)) q2_71 q2_72 q1_1 q2_73 md_X11_isRow ⟨by decide, by decide⟩ rfl hl.1 rfl (Nat.le_of_ble_eq_true rfl) dX11_number_8 ⟨by decide, by decide⟩) (fun r_3 h_4 => ?_)
    rcases h_4 with ⟨rfl, h_4⟩ | ⟨rfl, h_4⟩
    · skip
      refine lv_if_ne (tgt := 16) hx hb dX11_number_11 (by decide) (fun _ => ?_) (fun c_ => absurd c_ (by decide))
      refine lv_aload_n hx hb dX11_number_16 rfl (lv_at hl 0 rfl) ?_
      refine va_get (D := D) (ci := 9) (v := .ref (r 0)) (C := "TuneSchool") (T := TX11) (N := 17) hx hb ht iX11 hown hK hP 0 rfl rfl 0 (by decide) (ht _ q1_207) (fun _ h9 => h9) rfl dX11_number_17 ?_
      refine lv_iload_n hx hb dX11_number_20 rfl (lv_at hl 1 rfl) ?_
      refine ldQ (w := hv) hx hb hK hP 1 3 rfl rfl (vin (by omega) (by omega)) (hvf (by omega) (by omega)) dX11_number_21 ?_
      refine lv_astore (lv' := [(4, .ref hv), (0, .ref h0), (1, .int p0), (2, .int p1), (3, .int p2)]) hx hb dX11_number_22 hl (by decide) rfl (fun ls hl => ?_)
      refine lv_aload hx hb dX11_number_24 (lv_at hl 0 rfl) ?_
      refine va_get (D := D) (ci := 8) (v := .int 0) (C := "TuneSchool$Voice") (T := TX10) (N := 5) hx hb ht iX10 hown hK hP 2 rfl rfl 4 (by decide) (ht _ q1_46) (fun _ h9 => h9) rfl dX11_number_26 ?_
      refine lv_if_ne (tgt := 38) hx hb dX11_number_29 (by decide) (fun c_ => absurd c_ (by decide)) (fun _ => ?_)
      refine lv_aload_n hx hb dX11_number_32 rfl (lv_at hl 1 rfl) ?_
      refine lv_iconst (v := 1) hx hb dX11_number_33 (by decide) ?_
      refine afterI (wr := [((r 0), .inl (k 3, 6, .inr (.inr (.inr (.inr vf))))), (hv, .inr (8, oX10 rv f0))]) (xV (As := [.int 1]) (rest := []) (wc := [(h0, .inr (9, oX11 r f9))]) ⟨hx, hb, hml, hown, ht⟩ (c_X11_finding l D k h0 r f9 1 _) hK hN (hP.sub (ws' := [(h0, .inr (9, oX11 r f9))]) [0] rfl) (hD.sub (ws' := [(h0, .inr (9, oX11 r f9))]) [0] (by decide) rfl) 9 0 rfl rfl rfl q2_26 q2_28 qs_0 q1_1 q2_29 md_X11_finding ⟨by decide, by decide⟩ rfl hl.1 rfl (Nat.le_of_ble_eq_true rfl) dX11_number_34 ⟨by decide, by decide⟩) hP hD hS hA [0] [1, 2] rfl rfl rfl (by decide) (fun r_5 u_6 H locs h_7 hP hD hS => ?_)
      obtain rfl : r_5 = (-11) := h_7.trans (by decide)
      have hP : va_P D clsL [((r 0), .inl (k 3, 6, .inr (.inr (.inr (.inr vf))))), (hv, .inr (8, oX10 rv f0))] H := hP
      have hD : va_D A [((r 0), .inl (k 3, 6, .inr (.inr (.inr (.inr vf))))), (hv, .inr (8, oX10 rv f0))] := hD
      exact W.iret (v := (-11)) hx hb hr (fun t ht hW => ⟨⟨(-11), (), rfl, (by first | (unfold an_number; (repeat' split) <;> first | rfl | (exfalso; omega)) | rfl | decide), nilP, nilD⟩, hS.F ht⟩) hS.2.2 dX11_number_37
    · skip
      refine lv_if_ne (tgt := 16) hx hb dX11_number_11 (by decide) (fun c_ => absurd c_ (by decide)) (fun _ => ?_)
      refine lv_iconst (v := (-1)) hx hb dX11_number_14 (by decide) ?_
      exact W.iret (v := (-1)) hx hb hr (fun t ht hW => ⟨⟨(-1), (), rfl, (by first | (unfold an_number; (repeat' split) <;> first | rfl | (exfalso; omega)) | rfl | decide), nilP, nilD⟩, hS.F ht⟩) hS.2.2 dX11_number_15
  · skip
    refine lv_if_eq (tgt := 14) hx hb dX11_number_4 (by decide) (fun _ => ?_) (fun c_ => absurd c_ (by decide))
    refine lv_iconst (v := (-1)) hx hb dX11_number_14 (by decide) ?_
    exact W.iret (v := (-1)) hx hb hr (fun t ht hW => ⟨⟨(-1), (), rfl, (by first | (unfold an_number; (repeat' split) <;> first | rfl | (exfalso; omega)) | rfl | decide), nilP, nilD⟩, hS.F ht⟩) hS.2.2 dX11_number_15
set_option maxHeartbeats 4000000 in
set_option maxRecDepth 100000 in
theorem c_X11_end (l : Launch) (D : va_G) (k : Nat → ClassId) (h0 : Nat) (r : Nat → Nat) (vf : Nat → Option Nat) (hv : Nat) (rv : Nat → Nat) (p0 : Int32) (hvf : 0 ≤ p0.toInt → p0.toInt < 6 → vf p0.toNatClampNeg = some hv) : CI l yX11_end cX11_end 3 (some .int) 1 21 0 0 D k [(h0, .inr (9, oX11 r f9)), ((r 0), .inl (k 3, 6, .inr (.inr (.inr (.inr vf))))), (hv, .inr (8, oX10 rv f0))] [.ref h0, .int p0] (S := Unit) (fun (r : Int32) (_ : Unit) => r = an_end p0) (fun _ => []) := by
  intro sz
  refine mtX (Qc := fun A => va_Qi (S := Unit) (fun (r : Int32) (_ : Unit) => r = an_end p0) (fun u t => WX D A ((fun _ => []) u) t) A) (free := fun A => A) (by decide) (Nat.le_of_ble_eq_true rfl) ?_
  intro p e s m below meth c ls A hB hl
  obtain ⟨hx, hb, hml, hr, hlocks, hnm, hown, ht, hK, hN, hA, hP, hD, hS⟩ := hB
  have hl : lv_has ls 3 [(0, .ref h0), (1, .int p0)] := hl
  refine lv_iload_n hx hb dX11_end_0 rfl (lv_at hl 1 rfl) ?_
  refine afterP (xS (As := [.int p0]) (rest := []) (wc := []) ⟨hx, hb, hml, hown, ht⟩ (c_X11_isVoice l D k p0 _) hK hN nilP (nilD (A := A)) q2_23 q2_24 q1_1 q2_25 md_X11_isVoice ⟨by decide, by decide⟩ rfl hl.1 rfl (Nat.le_of_ble_eq_true rfl) dX11_end_1 ⟨by decide, by decide⟩) (fun r_1 h_2 => ?_)
  rcases h_2 with ⟨rfl, h_2⟩ | ⟨rfl, h_2⟩
  · skip
    refine lv_if_ne (tgt := 9) hx hb dX11_end_4 (by decide) (fun _ => ?_) (fun c_ => absurd c_ (by decide))
    refine lv_aload_n hx hb dX11_end_9 rfl (lv_at hl 0 rfl) ?_
    refine va_get (D := D) (ci := 9) (v := .ref (r 0)) (C := "TuneSchool") (T := TX11) (N := 17) hx hb ht iX11 hown hK hP 0 rfl rfl 0 (by decide) (ht _ q1_207) (fun _ h9 => h9) rfl dX11_end_10 ?_
    refine lv_iload_n hx hb dX11_end_13 rfl (lv_at hl 1 rfl) ?_
    refine ldQ (w := hv) hx hb hK hP 1 3 rfl rfl (vin (by omega) (by omega)) (hvf (by omega) (by omega)) dX11_end_14 ?_
    refine afterP (xS (As := [.ref hv]) (rest := []) (wc := [(hv, .inr (8, oX10 rv f0))]) ⟨hx, hb, hml, hown, ht⟩ (c_X11_goThrough l D k hv rv _) hK hN (hP.sub (ws' := [(hv, .inr (8, oX10 rv f0))]) [2] rfl) (hD.sub (ws' := [(hv, .inr (8, oX10 rv f0))]) [2] (by decide) rfl) q2_86 q2_87 q1_1 q2_88 md_X11_goThrough ⟨by decide, by decide⟩ rfl hl.1 rfl (Nat.le_of_ble_eq_true rfl) dX11_end_15 ⟨by decide, by decide⟩) (fun r_3 h_4 => ?_)
    obtain rfl := h_4
    refine lv_istore_n (lv' := [(2, .int 1), (0, .ref h0), (1, .int p0)]) hx hb dX11_end_18 rfl hl (by decide) rfl (fun ls hl => ?_)
    refine lv_iload_n hx hb dX11_end_19 rfl (lv_at hl 0 rfl) ?_
    refine lv_if_ne (tgt := 39) hx hb dX11_end_20 (by decide) (fun _ => ?_) (fun c_ => absurd c_ (by decide))
    refine lv_aload_n hx hb dX11_end_39 rfl (lv_at hl 1 rfl) ?_
    refine lv_iload_n hx hb dX11_end_40 rfl (lv_at hl 0 rfl) ?_
    refine afterI (wr := [((r 0), .inl (k 3, 6, .inr (.inr (.inr (.inr vf))))), (hv, .inr (8, oX10 rv f0))]) (xV (As := [.int 1]) (rest := []) (wc := [(h0, .inr (9, oX11 r f9))]) ⟨hx, hb, hml, hown, ht⟩ (c_X11_finding l D k h0 r f9 1 _) hK hN (hP.sub (ws' := [(h0, .inr (9, oX11 r f9))]) [0] rfl) (hD.sub (ws' := [(h0, .inr (9, oX11 r f9))]) [0] (by decide) rfl) 9 0 rfl rfl rfl q2_26 q2_28 qs_0 q1_1 q2_29 md_X11_finding ⟨by decide, by decide⟩ rfl hl.1 rfl (Nat.le_of_ble_eq_true rfl) dX11_end_41 ⟨by decide, by decide⟩) hP hD hS hA [0] [1, 2] rfl rfl rfl (by decide) (fun r_5 u_6 H locs h_7 hP hD hS => ?_)
    obtain rfl : r_5 = (-11) := h_7.trans (by decide)
    have hP : va_P D clsL [((r 0), .inl (k 3, 6, .inr (.inr (.inr (.inr vf))))), (hv, .inr (8, oX10 rv f0))] H := hP
    have hD : va_D A [((r 0), .inl (k 3, 6, .inr (.inr (.inr (.inr vf))))), (hv, .inr (8, oX10 rv f0))] := hD
    exact W.iret (v := (-11)) hx hb hr (fun t ht hW => ⟨⟨(-11), (), rfl, (by first | (unfold an_end; (repeat' split) <;> first | rfl | (exfalso; omega)) | rfl | decide), nilP, nilD⟩, hS.F ht⟩) hS.2.2 dX11_end_44
  · skip
    refine lv_if_ne (tgt := 9) hx hb dX11_end_4 (by decide) (fun c_ => absurd c_ (by decide)) (fun _ => ?_)
    refine lv_iconst (v := (-1)) hx hb dX11_end_7 (by decide) ?_
    exact W.iret (v := (-1)) hx hb hr (fun t ht hW => ⟨⟨(-1), (), rfl, (by first | (unfold an_end; (repeat' split) <;> first | rfl | (exfalso; omega)) | rfl | decide), nilP, nilD⟩, hS.F ht⟩) hS.2.2 dX11_end_8
set_option maxHeartbeats 4000000 in
set_option maxRecDepth 100000 in
theorem c_X11_sounds (l : Launch) (D : va_G) (k : Nat → ClassId) (h0 : Nat) (r : Nat → Nat) (vf : Nat → Option Nat) (hv : Nat) (rv : Nat → Nat) (p0 p1 : Int32) (hvf : 0 ≤ p0.toInt → p0.toInt < 6 → vf p0.toNatClampNeg = some hv) : CI l yX11_sounds cX11_sounds 4 (some .int) 1 21 0 0 D k [(h0, .inr (9, oX11 r f9)), ((r 0), .inl (k 3, 6, .inr (.inr (.inr (.inr vf))))), (hv, .inr (8, oX10 rv f0))] [.ref h0, .int p0, .int p1] (S := Unit) (fun (r : Int32) (_ : Unit) => r = an_sounds p0 p1) (fun _ => []) := by
  intro sz
  refine mtX (Qc := fun A => va_Qi (S := Unit) (fun (r : Int32) (_ : Unit) => r = an_sounds p0 p1) (fun u t => WX D A ((fun _ => []) u) t) A) (free := fun A => A) (by decide) (Nat.le_of_ble_eq_true rfl) ?_
  intro p e s m below meth c ls A hB hl
  obtain ⟨hx, hb, hml, hr, hlocks, hnm, hown, ht, hK, hN, hA, hP, hD, hS⟩ := hB
  have hl : lv_has ls 4 [(0, .ref h0), (1, .int p0), (2, .int p1)] := hl
  refine lv_iload_n hx hb dX11_sounds_0 rfl (lv_at hl 1 rfl) ?_
  refine afterP (xS (As := [.int p0]) (rest := []) (wc := []) ⟨hx, hb, hml, hown, ht⟩ (c_X11_isVoice l D k p0 _) hK hN nilP (nilD (A := A)) q2_23 q2_24 q1_1 q2_25 md_X11_isVoice ⟨by decide, by decide⟩ rfl hl.1 rfl (Nat.le_of_ble_eq_true rfl) dX11_sounds_1 ⟨by decide, by decide⟩) (fun r_1 h_2 => ?_)
  rcases h_2 with ⟨rfl, h_2⟩ | ⟨rfl, h_2⟩
  · skip
    refine lv_if_eq (tgt := 11) hx hb dX11_sounds_4 (by decide) (fun c_ => absurd c_ (by decide)) (fun _ => ?_)
    refine lv_iload_n hx hb dX11_sounds_7 rfl (lv_at hl 2 rfl) ?_
    refine lv_if_ge (tgt := 13) hx hb dX11_sounds_8 (by decide) (fun c_3 => ?_) (fun c_3 => ?_)
    · skip
      have c_3 := i_le (a := 0) (b := p1.toInt) (by decide) rfl c_3
      refine lv_aload_n hx hb dX11_sounds_13 rfl (lv_at hl 0 rfl) ?_
      refine va_get (D := D) (ci := 9) (v := .ref (r 0)) (C := "TuneSchool") (T := TX11) (N := 17) hx hb ht iX11 hown hK hP 0 rfl rfl 0 (by decide) (ht _ q1_207) (fun _ h9 => h9) rfl dX11_sounds_14 ?_
      refine lv_iload_n hx hb dX11_sounds_17 rfl (lv_at hl 1 rfl) ?_
      refine ldQ (w := hv) hx hb hK hP 1 3 rfl rfl (vin (by omega) (by omega)) (hvf (by omega) (by omega)) dX11_sounds_18 ?_
      refine afterP (xS (As := [.ref hv]) (rest := []) (wc := [(hv, .inr (8, oX10 rv f0))]) ⟨hx, hb, hml, hown, ht⟩ (c_X11_goThrough l D k hv rv _) hK hN (hP.sub (ws' := [(hv, .inr (8, oX10 rv f0))]) [2] rfl) (hD.sub (ws' := [(hv, .inr (8, oX10 rv f0))]) [2] (by decide) rfl) q2_86 q2_87 q1_1 q2_88 md_X11_goThrough ⟨by decide, by decide⟩ rfl hl.1 rfl (Nat.le_of_ble_eq_true rfl) dX11_sounds_19 ⟨by decide, by decide⟩) (fun r_4 h_5 => ?_)
      obtain rfl := h_5
      refine lv_istore_n (lv' := [(3, .int 1), (0, .ref h0), (1, .int p0), (2, .int p1)]) hx hb dX11_sounds_22 rfl hl (by decide) rfl (fun ls hl => ?_)
      refine lv_iload_n hx hb dX11_sounds_23 rfl (lv_at hl 0 rfl) ?_
      refine lv_if_ne (tgt := 44) hx hb dX11_sounds_24 (by decide) (fun _ => ?_) (fun c_ => absurd c_ (by decide))
      refine lv_aload_n hx hb dX11_sounds_44 rfl (lv_at hl 1 rfl) ?_
      refine lv_iload_n hx hb dX11_sounds_45 rfl (lv_at hl 0 rfl) ?_
      refine afterI (wr := [((r 0), .inl (k 3, 6, .inr (.inr (.inr (.inr vf))))), (hv, .inr (8, oX10 rv f0))]) (xV (As := [.int 1]) (rest := []) (wc := [(h0, .inr (9, oX11 r f9))]) ⟨hx, hb, hml, hown, ht⟩ (c_X11_finding l D k h0 r f9 1 _) hK hN (hP.sub (ws' := [(h0, .inr (9, oX11 r f9))]) [0] rfl) (hD.sub (ws' := [(h0, .inr (9, oX11 r f9))]) [0] (by decide) rfl) 9 0 rfl rfl rfl q2_26 q2_28 qs_0 q1_1 q2_29 md_X11_finding ⟨by decide, by decide⟩ rfl hl.1 rfl (Nat.le_of_ble_eq_true rfl) dX11_sounds_46 ⟨by decide, by decide⟩) hP hD hS hA [0] [1, 2] rfl rfl rfl (by decide) (fun r_6 u_7 H locs h_8 hP hD hS => ?_)
      obtain rfl : r_6 = (-11) := h_8.trans (by decide)
      have hP : va_P D clsL [((r 0), .inl (k 3, 6, .inr (.inr (.inr (.inr vf))))), (hv, .inr (8, oX10 rv f0))] H := hP
      have hD : va_D A [((r 0), .inl (k 3, 6, .inr (.inr (.inr (.inr vf))))), (hv, .inr (8, oX10 rv f0))] := hD
      exact W.iret (v := (-11)) hx hb hr (fun t ht hW => ⟨⟨(-11), (), rfl, (by first | (unfold an_sounds; (repeat' split) <;> first | rfl | (exfalso; omega)) | rfl | decide), nilP, nilD⟩, hS.F ht⟩) hS.2.2 dX11_sounds_49
    · skip
      have c_3 := i_nle (a := 0) (b := p1.toInt) (by decide) rfl c_3
      refine lv_iconst (v := (-1)) hx hb dX11_sounds_11 (by decide) ?_
      exact W.iret (v := (-1)) hx hb hr (fun t ht hW => ⟨⟨(-1), (), rfl, (by first | (unfold an_sounds; (repeat' split) <;> first | rfl | (exfalso; omega)) | rfl | decide), nilP, nilD⟩, hS.F ht⟩) hS.2.2 dX11_sounds_12
  · skip
    refine lv_if_eq (tgt := 11) hx hb dX11_sounds_4 (by decide) (fun _ => ?_) (fun c_ => absurd c_ (by decide))
    refine lv_iconst (v := (-1)) hx hb dX11_sounds_11 (by decide) ?_
    exact W.iret (v := (-1)) hx hb hr (fun t ht hW => ⟨⟨(-1), (), rfl, (by first | (unfold an_sounds; (repeat' split) <;> first | rfl | (exfalso; omega)) | rfl | decide), nilP, nilD⟩, hS.F ht⟩) hS.2.2 dX11_sounds_12
set_option maxHeartbeats 4000000 in
set_option maxRecDepth 100000 in
theorem c_X11_transpose (l : Launch) (D : va_G) (k : Nat → ClassId) (h0 : Nat) (r : Nat → Nat) (vf : Nat → Option Nat) (hv : Nat) (rv : Nat → Nat) (p0 p1 : Int32) (hvf : 0 ≤ p0.toInt → p0.toInt < 6 → vf p0.toNatClampNeg = some hv) : CI l yX11_transpose cX11_transpose 4 (some .int) 1 22 0 0 D k [(h0, .inr (9, oX11 r f9)), ((r 0), .inl (k 3, 6, .inr (.inr (.inr (.inr vf))))), (hv, .inr (8, oX10 rv f0))] [.ref h0, .int p0, .int p1] (S := Unit) (fun (r : Int32) (_ : Unit) => r = an_transpose p0 p1) (fun _ => []) := by
  intro sz
  refine mtX (Qc := fun A => va_Qi (S := Unit) (fun (r : Int32) (_ : Unit) => r = an_transpose p0 p1) (fun u t => WX D A ((fun _ => []) u) t) A) (free := fun A => A) (by decide) (Nat.le_of_ble_eq_true rfl) ?_
  intro p e s m below meth c ls A hB hl
  obtain ⟨hx, hb, hml, hr, hlocks, hnm, hown, ht, hK, hN, hA, hP, hD, hS⟩ := hB
  have hl : lv_has ls 4 [(0, .ref h0), (1, .int p0), (2, .int p1)] := hl
  refine lv_iload_n hx hb dX11_transpose_0 rfl (lv_at hl 1 rfl) ?_
  refine afterP (xS (As := [.int p0]) (rest := []) (wc := []) ⟨hx, hb, hml, hown, ht⟩ (c_X11_isVoice l D k p0 _) hK hN nilP (nilD (A := A)) q2_23 q2_24 q1_1 q2_25 md_X11_isVoice ⟨by decide, by decide⟩ rfl hl.1 rfl (Nat.le_of_ble_eq_true rfl) dX11_transpose_1 ⟨by decide, by decide⟩) (fun r_1 h_2 => ?_)
  rcases h_2 with ⟨rfl, h_2⟩ | ⟨rfl, h_2⟩
  · skip
    refine lv_if_eq (tgt := 18) hx hb dX11_transpose_4 (by decide) (fun c_ => absurd c_ (by decide)) (fun _ => ?_)
    refine lv_iload_n hx hb dX11_transpose_7 rfl (lv_at hl 2 rfl) ?_
    refine lv_bipush (v := (-60)) hx hb dX11_transpose_8 (by decide) ?_
    refine lv_bipush (v := 60) hx hb dX11_transpose_10 (by decide) ?_
    refine afterP (xS (As := [.int p1, .int (-60), .int 60]) (rest := []) (wc := []) ⟨hx, hb, hml, hown, ht⟩ (c_X11_isWithin l D k p1 (-60) 60 (-60) 60 (by decide) (by decide) _) hK hN nilP (nilD (A := A)) q2_60 q2_61 q1_1 q2_62 md_X11_isWithin ⟨by decide, by decide⟩ rfl hl.1 rfl (Nat.le_of_ble_eq_true rfl) dX11_transpose_12 ⟨by decide, by decide⟩) (fun r_3 h_4 => ?_)
    rcases h_4 with ⟨rfl, h_4⟩ | ⟨rfl, h_4⟩
    · skip
      refine lv_if_ne (tgt := 20) hx hb dX11_transpose_15 (by decide) (fun _ => ?_) (fun c_ => absurd c_ (by decide))
      refine lv_aload_n hx hb dX11_transpose_20 rfl (lv_at hl 0 rfl) ?_
      refine va_get (D := D) (ci := 9) (v := .ref (r 0)) (C := "TuneSchool") (T := TX11) (N := 17) hx hb ht iX11 hown hK hP 0 rfl rfl 0 (by decide) (ht _ q1_207) (fun _ h9 => h9) rfl dX11_transpose_21 ?_
      refine lv_iload_n hx hb dX11_transpose_24 rfl (lv_at hl 1 rfl) ?_
      refine ldQ (w := hv) hx hb hK hP 1 3 rfl rfl (vin (by omega) (by omega)) (hvf (by omega) (by omega)) dX11_transpose_25 ?_
      refine lv_astore_n (lv' := [(3, .ref hv), (0, .ref h0), (1, .int p0), (2, .int p1)]) hx hb dX11_transpose_26 rfl hl (by decide) rfl (fun ls hl => ?_)
      refine lv_aload_n hx hb dX11_transpose_27 rfl (lv_at hl 0 rfl) ?_
      refine va_get (D := D) (ci := 8) (v := .int 0) (C := "TuneSchool$Voice") (T := TX10) (N := 5) hx hb ht iX10 hown hK hP 2 rfl rfl 4 (by decide) (ht _ q1_46) (fun _ h9 => h9) rfl dX11_transpose_28 ?_
      refine lv_if_ne (tgt := 40) hx hb dX11_transpose_31 (by decide) (fun c_ => absurd c_ (by decide)) (fun _ => ?_)
      refine lv_aload_n hx hb dX11_transpose_34 rfl (lv_at hl 1 rfl) ?_
      refine lv_iconst (v := 1) hx hb dX11_transpose_35 (by decide) ?_
      refine afterI (wr := [((r 0), .inl (k 3, 6, .inr (.inr (.inr (.inr vf))))), (hv, .inr (8, oX10 rv f0))]) (xV (As := [.int 1]) (rest := []) (wc := [(h0, .inr (9, oX11 r f9))]) ⟨hx, hb, hml, hown, ht⟩ (c_X11_finding l D k h0 r f9 1 _) hK hN (hP.sub (ws' := [(h0, .inr (9, oX11 r f9))]) [0] rfl) (hD.sub (ws' := [(h0, .inr (9, oX11 r f9))]) [0] (by decide) rfl) 9 0 rfl rfl rfl q2_26 q2_28 qs_0 q1_1 q2_29 md_X11_finding ⟨by decide, by decide⟩ rfl hl.1 rfl (Nat.le_of_ble_eq_true rfl) dX11_transpose_36 ⟨by decide, by decide⟩) hP hD hS hA [0] [1, 2] rfl rfl rfl (by decide) (fun r_5 u_6 H locs h_7 hP hD hS => ?_)
      obtain rfl : r_5 = (-11) := h_7.trans (by decide)
      have hP : va_P D clsL [((r 0), .inl (k 3, 6, .inr (.inr (.inr (.inr vf))))), (hv, .inr (8, oX10 rv f0))] H := hP
      have hD : va_D A [((r 0), .inl (k 3, 6, .inr (.inr (.inr (.inr vf))))), (hv, .inr (8, oX10 rv f0))] := hD
      exact W.iret (v := (-11)) hx hb hr (fun t ht hW => ⟨⟨(-11), (), rfl, (by first | (unfold an_transpose; (repeat' split) <;> first | rfl | (exfalso; omega)) | rfl | decide), nilP, nilD⟩, hS.F ht⟩) hS.2.2 dX11_transpose_39
    · skip
      refine lv_if_ne (tgt := 20) hx hb dX11_transpose_15 (by decide) (fun c_ => absurd c_ (by decide)) (fun _ => ?_)
      refine lv_iconst (v := (-1)) hx hb dX11_transpose_18 (by decide) ?_
      exact W.iret (v := (-1)) hx hb hr (fun t ht hW => ⟨⟨(-1), (), rfl, (by first | (unfold an_transpose; (repeat' split) <;> first | rfl | (exfalso; omega)) | rfl | decide), nilP, nilD⟩, hS.F ht⟩) hS.2.2 dX11_transpose_19
  · skip
    refine lv_if_eq (tgt := 18) hx hb dX11_transpose_4 (by decide) (fun _ => ?_) (fun c_ => absurd c_ (by decide))
    refine lv_iconst (v := (-1)) hx hb dX11_transpose_18 (by decide) ?_
    exact W.iret (v := (-1)) hx hb hr (fun t ht hW => ⟨⟨(-1), (), rfl, (by first | (unfold an_transpose; (repeat' split) <;> first | rfl | (exfalso; omega)) | rfl | decide), nilP, nilD⟩, hS.F ht⟩) hS.2.2 dX11_transpose_19
set_option maxHeartbeats 4000000 in
set_option maxRecDepth 100000 in
theorem c_X11_copy (l : Launch) (D : va_G) (k : Nat → ClassId) (h0 : Nat) (r : Nat → Nat) (vf : Nat → Option Nat) (hv : Nat) (rv : Nat → Nat) (p0 p1 p2 p3 p4 : Int32) (hvf : 0 ≤ p0.toInt → p0.toInt < 6 → vf p0.toNatClampNeg = some hv) (hw : Nat) (hvw : 0 ≤ p2.toInt → p2.toInt < 6 → vf p2.toNatClampNeg = some hw) : CI l yX11_copy cX11_copy 8 (some .int) 1 21 0 0 D k [(h0, .inr (9, oX11 r f9)), ((r 0), .inl (k 3, 6, .inr (.inr (.inr (.inr vf))))), (hv, .inr (8, oX10 rv f0))] [.ref h0, .int p0, .int p1, .int p2, .int p3, .int p4] (S := Unit) (fun (r : Int32) (_ : Unit) => r = an_copy p0 p1 p2 p3 p4) (fun _ => []) := by
  intro sz
  refine mtX (Qc := fun A => va_Qi (S := Unit) (fun (r : Int32) (_ : Unit) => r = an_copy p0 p1 p2 p3 p4) (fun u t => WX D A ((fun _ => []) u) t) A) (free := fun A => A) (by decide) (Nat.le_of_ble_eq_true rfl) ?_
  intro p e s m below meth c ls A hB hl
  obtain ⟨hx, hb, hml, hr, hlocks, hnm, hown, ht, hK, hN, hA, hP, hD, hS⟩ := hB
  have hl : lv_has ls 8 [(0, .ref h0), (1, .int p0), (2, .int p1), (3, .int p2), (4, .int p3), (5, .int p4)] := hl
  refine lv_iload_n hx hb dX11_copy_0 rfl (lv_at hl 1 rfl) ?_
  refine afterP (xS (As := [.int p0]) (rest := []) (wc := []) ⟨hx, hb, hml, hown, ht⟩ (c_X11_isVoice l D k p0 _) hK hN nilP (nilD (A := A)) q2_23 q2_24 q1_1 q2_25 md_X11_isVoice ⟨by decide, by decide⟩ rfl hl.1 rfl (Nat.le_of_ble_eq_true rfl) dX11_copy_1 ⟨by decide, by decide⟩) (fun r_1 h_2 => ?_)
  rcases h_2 with ⟨rfl, h_2⟩ | ⟨rfl, h_2⟩
  · skip
    refine lv_if_eq (tgt := 14) hx hb dX11_copy_4 (by decide) (fun c_ => absurd c_ (by decide)) (fun _ => ?_)
    refine lv_iload_n hx hb dX11_copy_7 rfl (lv_at hl 3 rfl) ?_
    refine afterP (xS (As := [.int p2]) (rest := []) (wc := []) ⟨hx, hb, hml, hown, ht⟩ (c_X11_isVoice l D k p2 _) hK hN nilP (nilD (A := A)) q2_23 q2_24 q1_1 q2_25 md_X11_isVoice ⟨by decide, by decide⟩ rfl hl.1 rfl (Nat.le_of_ble_eq_true rfl) dX11_copy_8 ⟨by decide, by decide⟩) (fun r_3 h_4 => ?_)
    rcases h_4 with ⟨rfl, h_4⟩ | ⟨rfl, h_4⟩
    · skip
      refine lv_if_ne (tgt := 16) hx hb dX11_copy_11 (by decide) (fun _ => ?_) (fun c_ => absurd c_ (by decide))
      refine lv_aload_n hx hb dX11_copy_16 rfl (lv_at hl 0 rfl) ?_
      refine lv_iconst (v := 0) hx hb dX11_copy_17 (by decide) ?_
      refine va_put (D := D) (ci := 9) (v := .int 0) (ty := .int) (C := "TuneSchool") (T := TX11) (N := 17) hx hb ht iX11 tyX11 tyX11_ok nmX11 hown hK hP hD hS 0 rfl rfl 16 (by decide) (ht _ q1_223) (fun _ h9 => h9) rfl (by decide +kernel) rfl rfl (Nat.le_of_ble_eq_true rfl) dX11_copy_18 (fun H locs hP hD hS => ?_)
      have hP : va_P D clsL [(h0, .inr (9, oX11 r (va_up f9 16 0))), ((r 0), .inl (k 3, 6, .inr (.inr (.inr (.inr vf))))), (hv, .inr (8, oX10 rv f0))] H := hP
      have hD : va_D A [(h0, .inr (9, oX11 r (va_up f9 16 0))), ((r 0), .inl (k 3, 6, .inr (.inr (.inr (.inr vf))))), (hv, .inr (8, oX10 rv f0))] := hD
      refine lv_aload_n hx hb dX11_copy_21 rfl (lv_at hl 0 rfl) ?_
      refine va_get (D := D) (ci := 9) (v := .ref (r 0)) (C := "TuneSchool") (T := TX11) (N := 17) hx hb ht iX11 hown hK hP 0 rfl rfl 0 (by decide) (ht _ q1_207) (fun _ h9 => h9) rfl dX11_copy_22 ?_
      refine lv_iload_n hx hb dX11_copy_25 rfl (lv_at hl 1 rfl) ?_
      refine ldQ (w := hv) hx hb hK hP 1 3 rfl rfl (vin (by omega) (by omega)) (hvf (by omega) (by omega)) dX11_copy_26 ?_
      refine lv_astore (lv' := [(6, .ref hv), (0, .ref h0), (1, .int p0), (2, .int p1), (3, .int p2), (4, .int p3), (5, .int p4)]) hx hb dX11_copy_27 hl (by decide) rfl (fun ls hl => ?_)
      refine lv_aload_n hx hb dX11_copy_29 rfl (lv_at hl 1 rfl) ?_
      refine va_get (D := D) (ci := 9) (v := .ref (r 0)) (C := "TuneSchool") (T := TX11) (N := 17) hx hb ht iX11 hown hK hP 0 rfl rfl 0 (by decide) (ht _ q1_207) (fun _ h9 => h9) rfl dX11_copy_30 ?_
      refine lv_iload_n hx hb dX11_copy_33 rfl (lv_at hl 4 rfl) ?_
      refine ldQ (w := hw) hx hb hK hP 1 3 rfl rfl (vin (by omega) (by omega)) (hvw (by omega) (by omega)) dX11_copy_34 ?_
      refine lv_astore (lv' := [(7, .ref hw), (6, .ref hv), (0, .ref h0), (1, .int p0), (2, .int p1), (3, .int p2), (4, .int p3), (5, .int p4)]) hx hb dX11_copy_35 hl (by decide) rfl (fun ls hl => ?_)
      refine lv_aload hx hb dX11_copy_37 (lv_at hl 1 rfl) ?_
      refine va_get (D := D) (ci := 8) (v := .int 0) (C := "TuneSchool$Voice") (T := TX10) (N := 5) hx hb ht iX10 hown hK hP 2 rfl rfl 4 (by decide) (ht _ q1_46) (fun _ h9 => h9) rfl dX11_copy_39 ?_
      refine lv_if_eq (tgt := 53) hx hb dX11_copy_42 (by decide) (fun _ => ?_) (fun c_ => absurd c_ (by decide))
      refine lv_aload_n hx hb dX11_copy_53 rfl (lv_at hl 2 rfl) ?_
      refine lv_iconst (v := 1) hx hb dX11_copy_54 (by decide) ?_
      refine afterI (wr := [((r 0), .inl (k 3, 6, .inr (.inr (.inr (.inr vf))))), (hv, .inr (8, oX10 rv f0))]) (xV (As := [.int 1]) (rest := []) (wc := [(h0, .inr (9, oX11 r (va_up f9 16 0)))]) ⟨hx, hb, hml, hown, ht⟩ (c_X11_finding l D k h0 r (va_up f9 16 0) 1 _) hK hN (hP.sub (ws' := [(h0, .inr (9, oX11 r (va_up f9 16 0)))]) [0] rfl) (hD.sub (ws' := [(h0, .inr (9, oX11 r (va_up f9 16 0)))]) [0] (by decide) rfl) 9 0 rfl rfl rfl q2_26 q2_28 qs_0 q1_1 q2_29 md_X11_finding ⟨by decide, by decide⟩ rfl hl.1 rfl (Nat.le_of_ble_eq_true rfl) dX11_copy_55 ⟨by decide, by decide⟩) hP hD hS hA [0] [1, 2] rfl rfl rfl (by decide) (fun r_5 u_6 H locs h_7 hP hD hS => ?_)
      obtain rfl : r_5 = (-11) := h_7.trans (by decide)
      have hP : va_P D clsL [((r 0), .inl (k 3, 6, .inr (.inr (.inr (.inr vf))))), (hv, .inr (8, oX10 rv f0))] H := hP
      have hD : va_D A [((r 0), .inl (k 3, 6, .inr (.inr (.inr (.inr vf))))), (hv, .inr (8, oX10 rv f0))] := hD
      exact W.iret (v := (-11)) hx hb hr (fun t ht hW => ⟨⟨(-11), (), rfl, (by first | (unfold an_copy; (repeat' split) <;> first | rfl | (exfalso; omega)) | rfl | decide), nilP, nilD⟩, hS.F ht⟩) hS.2.2 dX11_copy_58
    · skip
      refine lv_if_ne (tgt := 16) hx hb dX11_copy_11 (by decide) (fun c_ => absurd c_ (by decide)) (fun _ => ?_)
      refine lv_iconst (v := (-1)) hx hb dX11_copy_14 (by decide) ?_
      exact W.iret (v := (-1)) hx hb hr (fun t ht hW => ⟨⟨(-1), (), rfl, (by first | (unfold an_copy; (repeat' split) <;> first | rfl | (exfalso; omega)) | rfl | decide), nilP, nilD⟩, hS.F ht⟩) hS.2.2 dX11_copy_15
  · skip
    refine lv_if_eq (tgt := 14) hx hb dX11_copy_4 (by decide) (fun _ => ?_) (fun c_ => absurd c_ (by decide))
    refine lv_iconst (v := (-1)) hx hb dX11_copy_14 (by decide) ?_
    exact W.iret (v := (-1)) hx hb hr (fun t ht hW => ⟨⟨(-1), (), rfl, (by first | (unfold an_copy; (repeat' split) <;> first | rfl | (exfalso; omega)) | rfl | decide), nilP, nilD⟩, hS.F ht⟩) hS.2.2 dX11_copy_15
set_option maxHeartbeats 4000000 in
set_option maxRecDepth 100000 in
theorem c_X11_print (l : Launch) (D : va_G) (k : Nat → ClassId) (h0 : Nat) (r : Nat → Nat) (vf : Nat → Option Nat) (hv : Nat) (rv : Nat → Nat) (p0 : Int32) (hvf : 0 ≤ p0.toInt → p0.toInt < 6 → vf p0.toNatClampNeg = some hv) : CI l yX11_print cX11_print 3 (some .int) 1 21 0 0 D k [(h0, .inr (9, oX11 r f9)), ((r 0), .inl (k 3, 6, .inr (.inr (.inr (.inr vf))))), (hv, .inr (8, oX10 rv f0))] [.ref h0, .int p0] (S := Unit) (fun (r : Int32) (_ : Unit) => r = an_print p0) (fun _ => []) := by
  intro sz
  refine mtX (Qc := fun A => va_Qi (S := Unit) (fun (r : Int32) (_ : Unit) => r = an_print p0) (fun u t => WX D A ((fun _ => []) u) t) A) (free := fun A => A) (by decide) (Nat.le_of_ble_eq_true rfl) ?_
  intro p e s m below meth c ls A hB hl
  obtain ⟨hx, hb, hml, hr, hlocks, hnm, hown, ht, hK, hN, hA, hP, hD, hS⟩ := hB
  have hl : lv_has ls 3 [(0, .ref h0), (1, .int p0)] := hl
  refine lv_iload_n hx hb dX11_print_0 rfl (lv_at hl 1 rfl) ?_
  refine afterP (xS (As := [.int p0]) (rest := []) (wc := []) ⟨hx, hb, hml, hown, ht⟩ (c_X11_isVoice l D k p0 _) hK hN nilP (nilD (A := A)) q2_23 q2_24 q1_1 q2_25 md_X11_isVoice ⟨by decide, by decide⟩ rfl hl.1 rfl (Nat.le_of_ble_eq_true rfl) dX11_print_1 ⟨by decide, by decide⟩) (fun r_1 h_2 => ?_)
  rcases h_2 with ⟨rfl, h_2⟩ | ⟨rfl, h_2⟩
  · skip
    refine lv_if_ne (tgt := 9) hx hb dX11_print_4 (by decide) (fun _ => ?_) (fun c_ => absurd c_ (by decide))
    refine lv_aload_n hx hb dX11_print_9 rfl (lv_at hl 0 rfl) ?_
    refine va_get (D := D) (ci := 9) (v := .ref (r 0)) (C := "TuneSchool") (T := TX11) (N := 17) hx hb ht iX11 hown hK hP 0 rfl rfl 0 (by decide) (ht _ q1_207) (fun _ h9 => h9) rfl dX11_print_10 ?_
    refine lv_iload_n hx hb dX11_print_13 rfl (lv_at hl 1 rfl) ?_
    refine ldQ (w := hv) hx hb hK hP 1 3 rfl rfl (vin (by omega) (by omega)) (hvf (by omega) (by omega)) dX11_print_14 ?_
    refine afterP (xS (As := [.ref hv]) (rest := []) (wc := [(hv, .inr (8, oX10 rv f0))]) ⟨hx, hb, hml, hown, ht⟩ (c_X11_goThrough l D k hv rv _) hK hN (hP.sub (ws' := [(hv, .inr (8, oX10 rv f0))]) [2] rfl) (hD.sub (ws' := [(hv, .inr (8, oX10 rv f0))]) [2] (by decide) rfl) q2_86 q2_87 q1_1 q2_88 md_X11_goThrough ⟨by decide, by decide⟩ rfl hl.1 rfl (Nat.le_of_ble_eq_true rfl) dX11_print_15 ⟨by decide, by decide⟩) (fun r_3 h_4 => ?_)
    obtain rfl := h_4
    refine lv_istore_n (lv' := [(2, .int 1), (0, .ref h0), (1, .int p0)]) hx hb dX11_print_18 rfl hl (by decide) rfl (fun ls hl => ?_)
    refine lv_iload_n hx hb dX11_print_19 rfl (lv_at hl 0 rfl) ?_
    refine lv_if_eq (tgt := 29) hx hb dX11_print_20 (by decide) (fun c_ => absurd c_ (by decide)) (fun _ => ?_)
    refine lv_aload_n hx hb dX11_print_23 rfl (lv_at hl 1 rfl) ?_
    refine lv_iload_n hx hb dX11_print_24 rfl (lv_at hl 0 rfl) ?_
    refine afterI (wr := [((r 0), .inl (k 3, 6, .inr (.inr (.inr (.inr vf))))), (hv, .inr (8, oX10 rv f0))]) (xV (As := [.int 1]) (rest := []) (wc := [(h0, .inr (9, oX11 r f9))]) ⟨hx, hb, hml, hown, ht⟩ (c_X11_finding l D k h0 r f9 1 _) hK hN (hP.sub (ws' := [(h0, .inr (9, oX11 r f9))]) [0] rfl) (hD.sub (ws' := [(h0, .inr (9, oX11 r f9))]) [0] (by decide) rfl) 9 0 rfl rfl rfl q2_26 q2_28 qs_0 q1_1 q2_29 md_X11_finding ⟨by decide, by decide⟩ rfl hl.1 rfl (Nat.le_of_ble_eq_true rfl) dX11_print_25 ⟨by decide, by decide⟩) hP hD hS hA [0] [1, 2] rfl rfl rfl (by decide) (fun r_5 u_6 H locs h_7 hP hD hS => ?_)
    obtain rfl : r_5 = (-11) := h_7.trans (by decide)
    have hP : va_P D clsL [((r 0), .inl (k 3, 6, .inr (.inr (.inr (.inr vf))))), (hv, .inr (8, oX10 rv f0))] H := hP
    have hD : va_D A [((r 0), .inl (k 3, 6, .inr (.inr (.inr (.inr vf))))), (hv, .inr (8, oX10 rv f0))] := hD
    exact W.iret (v := (-11)) hx hb hr (fun t ht hW => ⟨⟨(-11), (), rfl, (by first | (unfold an_print; (repeat' split) <;> first | rfl | (exfalso; omega)) | rfl | decide), nilP, nilD⟩, hS.F ht⟩) hS.2.2 dX11_print_28
  · skip
    refine lv_if_ne (tgt := 9) hx hb dX11_print_4 (by decide) (fun c_ => absurd c_ (by decide)) (fun _ => ?_)
    refine lv_iconst (v := (-1)) hx hb dX11_print_7 (by decide) ?_
    exact W.iret (v := (-1)) hx hb hr (fun t ht hW => ⟨⟨(-1), (), rfl, (by first | (unfold an_print; (repeat' split) <;> first | rfl | (exfalso; omega)) | rfl | decide), nilP, nilD⟩, hS.F ht⟩) hS.2.2 dX11_print_8
set_option maxHeartbeats 4000000 in
set_option maxRecDepth 100000 in
theorem c_X11_follows (l : Launch) (D : va_G) (k : Nat → ClassId) (h0 : Nat) (r : Nat → Nat) (vf : Nat → Option Nat) (hv : Nat) (rv : Nat → Nat) (p0 p1 p2 p3 p4 : Int32) (hvf : 0 ≤ p0.toInt → p0.toInt < 6 → vf p0.toNatClampNeg = some hv) : CI l yX11_follows cX11_follows 7 (some .int) 2 44 0 0 D k [(h0, .inr (9, oX11 r f9)), ((r 0), .inl (k 3, 6, .inr (.inr (.inr (.inr vf))))), (hv, .inr (8, oX10 rv f0))] [.ref h0, .int p0, .int p1, .int p2, .int p3, .int p4] (S := Unit) (fun (r : Int32) (_ : Unit) => r = an_follows p0 p1 p2 p3 p4) (fun _ => []) := by
  intro sz
  refine mtX (Qc := fun A => va_Qi (S := Unit) (fun (r : Int32) (_ : Unit) => r = an_follows p0 p1 p2 p3 p4) (fun u t => WX D A ((fun _ => []) u) t) A) (free := fun A => A) (by decide) (Nat.le_of_ble_eq_true rfl) ?_
  intro p e s m below meth c ls A hB hl
  obtain ⟨hx, hb, hml, hr, hlocks, hnm, hown, ht, hK, hN, hA, hP, hD, hS⟩ := hB
  have hl : lv_has ls 7 [(0, .ref h0), (1, .int p0), (2, .int p1), (3, .int p2), (4, .int p3), (5, .int p4)] := hl
  refine lv_iload_n hx hb dX11_follows_0 rfl (lv_at hl 1 rfl) ?_
  refine afterP (xS (As := [.int p0]) (rest := []) (wc := []) ⟨hx, hb, hml, hown, ht⟩ (c_X11_isVoice l D k p0 _) hK hN nilP (nilD (A := A)) q2_23 q2_24 q1_1 q2_25 md_X11_isVoice ⟨by decide, by decide⟩ rfl hl.1 rfl (Nat.le_of_ble_eq_true rfl) dX11_follows_1 ⟨by decide, by decide⟩) (fun r_1 h_2 => ?_)
  rcases h_2 with ⟨rfl, h_2⟩ | ⟨rfl, h_2⟩
  · skip
    refine lv_if_eq (tgt := 29) hx hb dX11_follows_4 (by decide) (fun c_ => absurd c_ (by decide)) (fun _ => ?_)
    refine lv_iload_n hx hb dX11_follows_7 rfl (lv_at hl 2 rfl) ?_
    refine lv_iconst (v := 0) hx hb dX11_follows_8 (by decide) ?_
    refine lv_sipush (v := 1000) hx hb dX11_follows_9 (by decide) ?_
    refine afterP (xS (As := [.int p1, .int 0, .int 1000]) (rest := []) (wc := []) ⟨hx, hb, hml, hown, ht⟩ (c_X11_isWithin l D k p1 0 1000 0 1000 (by decide) (by decide) _) hK hN nilP (nilD (A := A)) q2_60 q2_61 q1_1 q2_62 md_X11_isWithin ⟨by decide, by decide⟩ rfl hl.1 rfl (Nat.le_of_ble_eq_true rfl) dX11_follows_12 ⟨by decide, by decide⟩) (fun r_3 h_4 => ?_)
    rcases h_4 with ⟨rfl, h_4⟩ | ⟨rfl, h_4⟩
    · skip
      refine lv_if_eq (tgt := 29) hx hb dX11_follows_15 (by decide) (fun c_ => absurd c_ (by decide)) (fun _ => ?_)
      refine lv_iload_n hx hb dX11_follows_18 rfl (lv_at hl 3 rfl) ?_
      refine lv_iload hx hb dX11_follows_19 (lv_at hl 4 rfl) ?_
      refine lv_iload hx hb dX11_follows_21 (lv_at hl 5 rfl) ?_
      refine afterP (xS (As := [.int p2, .int p3, .int p4]) (rest := []) (wc := []) ⟨hx, hb, hml, hown, ht⟩ (c_X11_isFollower l D k p2 p3 p4 _) hK hN nilP (nilD (A := A)) q3_205 q3_206 q1_1 q3_207 md_X11_isFollower ⟨by decide, by decide⟩ rfl hl.1 rfl (Nat.le_of_ble_eq_true rfl) dX11_follows_23 ⟨by decide, by decide⟩) (fun r_5 h_6 => ?_)
      rcases h_6 with ⟨rfl, h_6⟩ | ⟨rfl, h_6⟩
      · skip
        refine lv_if_ne (tgt := 31) hx hb dX11_follows_26 (by decide) (fun _ => ?_) (fun c_ => absurd c_ (by decide))
        refine lv_aload_n hx hb dX11_follows_31 rfl (lv_at hl 0 rfl) ?_
        refine va_get (D := D) (ci := 9) (v := .ref (r 0)) (C := "TuneSchool") (T := TX11) (N := 17) hx hb ht iX11 hown hK hP 0 rfl rfl 0 (by decide) (ht _ q1_207) (fun _ h9 => h9) rfl dX11_follows_32 ?_
        refine lv_iload_n hx hb dX11_follows_35 rfl (lv_at hl 1 rfl) ?_
        refine ldQ (w := hv) hx hb hK hP 1 3 rfl rfl (vin (by omega) (by omega)) (hvf (by omega) (by omega)) dX11_follows_36 ?_
        refine afterP (xS (As := [.ref hv]) (rest := []) (wc := [(hv, .inr (8, oX10 rv f0))]) ⟨hx, hb, hml, hown, ht⟩ (c_X11_goThrough l D k hv rv _) hK hN (hP.sub (ws' := [(hv, .inr (8, oX10 rv f0))]) [2] rfl) (hD.sub (ws' := [(hv, .inr (8, oX10 rv f0))]) [2] (by decide) rfl) q2_86 q2_87 q1_1 q2_88 md_X11_goThrough ⟨by decide, by decide⟩ rfl hl.1 rfl (Nat.le_of_ble_eq_true rfl) dX11_follows_37 ⟨by decide, by decide⟩) (fun r_7 h_8 => ?_)
        obtain rfl := h_8
        refine lv_istore (lv' := [(6, .int 1), (0, .ref h0), (1, .int p0), (2, .int p1), (3, .int p2), (4, .int p3), (5, .int p4)]) hx hb dX11_follows_40 hl (by decide) rfl (fun ls hl => ?_)
        refine lv_iload hx hb dX11_follows_42 (lv_at hl 0 rfl) ?_
        refine lv_if_ne (tgt := 69) hx hb dX11_follows_44 (by decide) (fun _ => ?_) (fun c_ => absurd c_ (by decide))
        refine lv_aload_n hx hb dX11_follows_69 rfl (lv_at hl 1 rfl) ?_
        refine lv_iload hx hb dX11_follows_70 (lv_at hl 0 rfl) ?_
        refine afterI (wr := [((r 0), .inl (k 3, 6, .inr (.inr (.inr (.inr vf))))), (hv, .inr (8, oX10 rv f0))]) (xV (As := [.int 1]) (rest := []) (wc := [(h0, .inr (9, oX11 r f9))]) ⟨hx, hb, hml, hown, ht⟩ (c_X11_finding l D k h0 r f9 1 _) hK hN (hP.sub (ws' := [(h0, .inr (9, oX11 r f9))]) [0] rfl) (hD.sub (ws' := [(h0, .inr (9, oX11 r f9))]) [0] (by decide) rfl) 9 0 rfl rfl rfl q2_26 q2_28 qs_0 q1_1 q2_29 md_X11_finding ⟨by decide, by decide⟩ rfl hl.1 rfl (Nat.le_of_ble_eq_true rfl) dX11_follows_72 ⟨by decide, by decide⟩) hP hD hS hA [0] [1, 2] rfl rfl rfl (by decide) (fun r_9 u_10 H locs h_11 hP hD hS => ?_)
        obtain rfl : r_9 = (-11) := h_11.trans (by decide)
        have hP : va_P D clsL [((r 0), .inl (k 3, 6, .inr (.inr (.inr (.inr vf))))), (hv, .inr (8, oX10 rv f0))] H := hP
        have hD : va_D A [((r 0), .inl (k 3, 6, .inr (.inr (.inr (.inr vf))))), (hv, .inr (8, oX10 rv f0))] := hD
        exact W.iret (v := (-11)) hx hb hr (fun t ht hW => ⟨⟨(-11), (), rfl, (by first | (unfold an_follows; (repeat' split) <;> first | rfl | (exfalso; omega)) | rfl | decide), nilP, nilD⟩, hS.F ht⟩) hS.2.2 dX11_follows_75
      · skip
        refine lv_if_ne (tgt := 31) hx hb dX11_follows_26 (by decide) (fun c_ => absurd c_ (by decide)) (fun _ => ?_)
        refine lv_iconst (v := (-1)) hx hb dX11_follows_29 (by decide) ?_
        exact W.iret (v := (-1)) hx hb hr (fun t ht hW => ⟨⟨(-1), (), rfl, (by first | (unfold an_follows; (repeat' split) <;> first | rfl | (exfalso; omega)) | rfl | decide), nilP, nilD⟩, hS.F ht⟩) hS.2.2 dX11_follows_30
    · skip
      refine lv_if_eq (tgt := 29) hx hb dX11_follows_15 (by decide) (fun _ => ?_) (fun c_ => absurd c_ (by decide))
      refine lv_iconst (v := (-1)) hx hb dX11_follows_29 (by decide) ?_
      exact W.iret (v := (-1)) hx hb hr (fun t ht hW => ⟨⟨(-1), (), rfl, (by first | (unfold an_follows; (repeat' split) <;> first | rfl | (exfalso; omega)) | rfl | decide), nilP, nilD⟩, hS.F ht⟩) hS.2.2 dX11_follows_30
  · skip
    refine lv_if_eq (tgt := 29) hx hb dX11_follows_4 (by decide) (fun _ => ?_) (fun c_ => absurd c_ (by decide))
    refine lv_iconst (v := (-1)) hx hb dX11_follows_29 (by decide) ?_
    exact W.iret (v := (-1)) hx hb hr (fun t ht hW => ⟨⟨(-1), (), rfl, (by first | (unfold an_follows; (repeat' split) <;> first | rfl | (exfalso; omega)) | rfl | decide), nilP, nilD⟩, hS.F ht⟩) hS.2.2 dX11_follows_30
set_option maxHeartbeats 4000000 in
set_option maxRecDepth 100000 in
theorem c_X11_undo (l : Launch) (D : va_G) (k : Nat → ClassId) (h0 : Nat) (r : Nat → Nat)   : CI l yX11_undo cX11_undo 1 (some .int) 1 21 0 0 D k [(h0, .inr (9, oX11 r f9))] [.ref h0] (S := Unit) (fun (r : Int32) (_ : Unit) => r = an_undo ) (fun _ => []) := by
  intro sz
  refine mtX (Qc := fun A => va_Qi (S := Unit) (fun (r : Int32) (_ : Unit) => r = an_undo ) (fun u t => WX D A ((fun _ => []) u) t) A) (free := fun A => A) (by decide) (Nat.le_of_ble_eq_true rfl) ?_
  intro p e s m below meth c ls A hB hl
  obtain ⟨hx, hb, hml, hr, hlocks, hnm, hown, ht, hK, hN, hA, hP, hD, hS⟩ := hB
  have hl : lv_has ls 1 [(0, .ref h0)] := hl
  refine lv_aload_n hx hb dX11_undo_0 rfl (lv_at hl 0 rfl) ?_
  refine va_get (D := D) (ci := 9) (v := .int (-2)) (C := "TuneSchool") (T := TX11) (N := 17) hx hb ht iX11 hown hK hP 0 rfl rfl 13 (by decide) (ht _ q1_220) (fun _ h9 => h9) rfl dX11_undo_1 ?_
  refine afterP (xS (As := [.int (-2)]) (rest := []) (wc := []) ⟨hx, hb, hml, hown, ht⟩ (c_X11_isVoice l D k (-2) _) hK hN nilP (nilD (A := A)) q2_23 q2_24 q1_1 q2_25 md_X11_isVoice ⟨by decide, by decide⟩ rfl hl.1 rfl (Nat.le_of_ble_eq_true rfl) dX11_undo_4 ⟨by decide, by decide⟩) (fun r_1 h_2 => ?_)
  rcases h_2 with ⟨rfl, h_2⟩ | ⟨rfl, h_2⟩
  · exact absurd h_2 (by first | decide | omega)
  · skip
    have z_ : ((-2) : Int32).toInt = (-2) := by decide
    refine lv_if_ne (tgt := 17) hx hb dX11_undo_7 (by decide) (fun c_ => absurd c_ (by decide)) (fun _ => ?_)
    refine lv_aload_n hx hb dX11_undo_10 rfl (lv_at hl 0 rfl) ?_
    refine lv_bipush (v := 7) hx hb dX11_undo_11 (by decide) ?_
    refine afterI (wr := []) (xV (As := [.int 7]) (rest := []) (wc := [(h0, .inr (9, oX11 r f9))]) ⟨hx, hb, hml, hown, ht⟩ (c_X11_finding l D k h0 r f9 7 _) hK hN (hP.sub (ws' := [(h0, .inr (9, oX11 r f9))]) [0] rfl) (hD.sub (ws' := [(h0, .inr (9, oX11 r f9))]) [0] (by decide) rfl) 9 0 rfl rfl rfl q2_26 q2_28 qs_0 q1_1 q2_29 md_X11_finding ⟨by decide, by decide⟩ rfl hl.1 rfl (Nat.le_of_ble_eq_true rfl) dX11_undo_13 ⟨by decide, by decide⟩) hP hD hS hA [0] [] rfl rfl rfl (by decide) (fun r_3 u_4 H locs h_5 hP hD hS => ?_)
    obtain rfl : r_3 = (-17) := h_5.trans (by decide)
    have hP : va_P D clsL [] H := hP
    have hD : va_D A [] := hD
    exact W.iret (v := (-17)) hx hb hr (fun t ht hW => ⟨⟨(-17), (), rfl, (by first | (unfold an_undo; (repeat' split) <;> first | rfl | (exfalso; omega)) | rfl | decide), nilP, nilD⟩, hS.F ht⟩) hS.2.2 dX11_undo_16
