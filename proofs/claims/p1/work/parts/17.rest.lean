set_option maxHeartbeats 400000 in
set_option maxRecDepth 100000 in
theorem c_X11_put (l : Launch) (D : va_G) (k : Nat → ClassId) (h0 : Nat) (r : Nat → Nat) (rl : Nat → Nat) (p0 p1 : Int32)  : CI l yX11_put cX11_put 3 (some .int) 1 22 0 0 D k [(h0, .inr (9, oX11 r f9)), ((r 7), .inr (4, oX4 rl f0)), ((rl 0), .inl (k 0, 160, .inl (fun _ => 0)))] [.ref h0, .int p0, .int p1] (S := Unit) (fun (r : Int32) (_ : Unit) => r = an_put p0 p1) (fun _ => ([] : va_W)) := by
  intro sz
  refine mtX (Qc := fun A => va_Qi (S := Unit) (fun (r : Int32) (_ : Unit) => r = an_put p0 p1) (fun u t => WX D A ((fun _ => ([] : va_W)) u) t) A) (free := fun A => A) (by decide) (Nat.le_of_ble_eq_true rfl) ?_
  intro p e s m below meth c ls A hB hl
  obtain ⟨hx, hb, hml, hr, hlocks, hnm, hown, ht, hK, hN, hA, hP, hD, hS⟩ := hB
  have hl : lv_has ls 3 [(0, .ref h0), (1, .int p0), (2, .int p1)] := hl
  refine lv_iload_n hx hb dX11_put_0 rfl (lv_at hl 1 rfl) ?_
  refine lv_iconst (v := 0) hx hb dX11_put_1 (by decide) ?_
  refine lv_aload_n hx hb dX11_put_2 rfl (lv_at hl 0 rfl) ?_
  refine va_get (D := D) (ci := 9) (v := .ref (r 7)) (C := "TuneSchool") (T := TX11) (N := 17) hx hb ht iX11 hown hK hP 0 rfl rfl 7 (by decide) (ht _ q1_214) (fun _ h9 => h9) rfl dX11_put_3 ?_
  refine va_get (D := D) (ci := 4) (v := .int 0) (C := "TuneSchool$Line") (T := TX4) (N := 3) hx hb ht iX4 hown hK hP 1 rfl rfl 1 (by decide) (ht _ q1_196) (fun _ h9 => h9) rfl dX11_put_6 ?_
  refine afterP (xS (fr := 0) (lo := 0) (mc := 0) (ms := 0) (As := [.int p0, .int 0, .int 0]) (rest := []) (wc := []) ⟨hx, hb, hml, hown, ht⟩ (c_X11_isWithin l D k p0 0 0 0 0 (by decide) (by decide) _) hK hN nilP (nilD (A := A)) q2_60 q2_61 q1_1 q2_62 md_X11_isWithin ⟨by decide, by decide⟩ rfl hl.1 rfl (Nat.le_of_ble_eq_true rfl) dX11_put_9 ⟨by decide, by decide⟩) (fun r_1 h_2 => ?_)
  rcases h_2 with ⟨rfl, h_2⟩ | ⟨rfl, h_2⟩
  · skip
    refine lv_if_eq (tgt := 33) hx hb dX11_put_12 (by decide) (fun c_ => absurd c_ (by decide)) (fun _ => ?_)
    refine lv_iload_n hx hb dX11_put_15 rfl (lv_at hl 1 rfl) ?_
    refine lv_sipush (v := 160) hx hb dX11_put_16 (by decide) ?_
    refine lv_icmp_ge (tgt := 33) hx hb dX11_put_19 (by decide) (fun c_3 => ?_) (fun c_3 => ?_)
    · skip
      have c_3 := i_le (a := 160) (b := p0.toInt) (by decide) rfl c_3
      refine lv_iconst (v := (-1)) hx hb dX11_put_33 (by decide) ?_
      exact W.iret (v := (-1)) hx hb hr (fun t ht hW => ⟨⟨(-1), (), rfl, (by first | (unfold an_put; (repeat' split) <;> first | rfl | (exfalso; omega)) | rfl | decide), nilP, nilD⟩, hS.F ht⟩) hS.2.2 dX11_put_34
    · skip
      have c_3 := i_nle (a := 160) (b := p0.toInt) (by decide) rfl c_3
      refine lv_iload_n hx hb dX11_put_22 rfl (lv_at hl 2 rfl) ?_
      refine lv_bipush (v := 32) hx hb dX11_put_23 (by decide) ?_
      refine lv_bipush (v := 126) hx hb dX11_put_25 (by decide) ?_
      refine afterP (xS (fr := 0) (lo := 0) (mc := 0) (ms := 0) (As := [.int p1, .int 32, .int 126]) (rest := []) (wc := []) ⟨hx, hb, hml, hown, ht⟩ (c_X11_isWithin l D k p1 32 126 32 126 (by decide) (by decide) _) hK hN nilP (nilD (A := A)) q2_60 q2_61 q1_1 q2_62 md_X11_isWithin ⟨by decide, by decide⟩ rfl hl.1 rfl (Nat.le_of_ble_eq_true rfl) dX11_put_27 ⟨by decide, by decide⟩) (fun r_4 h_5 => ?_)
      rcases h_5 with ⟨rfl, h_5⟩ | ⟨rfl, h_5⟩
      · skip
        refine lv_if_ne (tgt := 35) hx hb dX11_put_30 (by decide) (fun _ => ?_) (fun c_ => absurd c_ (by decide))
        refine lv_aload_n hx hb dX11_put_35 rfl (lv_at hl 0 rfl) ?_
        refine va_get (D := D) (ci := 9) (v := .ref (r 7)) (C := "TuneSchool") (T := TX11) (N := 17) hx hb ht iX11 hown hK hP 0 rfl rfl 7 (by decide) (ht _ q1_214) (fun _ h9 => h9) rfl dX11_put_36 ?_
        refine va_get (D := D) (ci := 4) (v := .ref (rl 0)) (C := "TuneSchool$Line") (T := TX4) (N := 3) hx hb ht iX4 hown hK hP 1 rfl rfl 0 (by decide) (ht _ q1_194) (fun _ h9 => h9) rfl dX11_put_39 ?_
        refine lv_iload_n hx hb dX11_put_42 rfl (lv_at hl 1 rfl) ?_
        refine lv_iload_n hx hb dX11_put_43 rfl (lv_at hl 2 rfl) ?_
        refine stI hx hb hK hP hD hS 2 rfl (vin (by omega) (by omega)) dX11_put_44 (fun H locs hP hD hS => ?_)
        have hP : va_P D clsL [(h0, .inr (9, oX11 r f9)), ((r 7), .inr (4, oX4 rl f0)), ((rl 0), .inl (k 0, 160, .inl (upd (fun _ => 0) p0.toNatClampNeg p1)))] H := hP
        have hD : va_D A [(h0, .inr (9, oX11 r f9)), ((r 7), .inr (4, oX4 rl f0)), ((rl 0), .inl (k 0, 160, .inl (upd (fun _ => 0) p0.toNatClampNeg p1)))] := hD
        refine lv_aload_n hx hb dX11_put_45 rfl (lv_at hl 0 rfl) ?_
        refine va_get (D := D) (ci := 9) (v := .ref (r 7)) (C := "TuneSchool") (T := TX11) (N := 17) hx hb ht iX11 hown hK hP 0 rfl rfl 7 (by decide) (ht _ q1_214) (fun _ h9 => h9) rfl dX11_put_46 ?_
        refine lv_aload_n hx hb dX11_put_49 rfl (lv_at hl 0 rfl) ?_
        refine va_get (D := D) (ci := 9) (v := .ref (r 7)) (C := "TuneSchool") (T := TX11) (N := 17) hx hb ht iX11 hown hK hP 0 rfl rfl 7 (by decide) (ht _ q1_214) (fun _ h9 => h9) rfl dX11_put_50 ?_
        refine va_get (D := D) (ci := 4) (v := .int 0) (C := "TuneSchool$Line") (T := TX4) (N := 3) hx hb ht iX4 hown hK hP 1 rfl rfl 1 (by decide) (ht _ q1_196) (fun _ h9 => h9) rfl dX11_put_53 ?_
        refine lv_iload_n hx hb dX11_put_56 rfl (lv_at hl 1 rfl) ?_
        refine lv_iconst (v := 1) hx hb dX11_put_57 (by decide) ?_
        refine lv_iadd hx hb dX11_put_58 ?_
        refine va_mmax hx hb (by rw [hml]; exact hl.1.symm) hown (ht _ q3_40) (ht _ q3_41) (ht _ q1_16) (ht _ q3_42) (by decide) (Nat.le_of_ble_eq_true rfl) (by decide) (by decide) dX11_put_59 ?_
        refine va_put (D := D) (ci := 4) (v := .int (if 0 < (p0 + 1) then (p0 + 1) else 0)) (ty := .int) (C := "TuneSchool$Line") (T := TX4) (N := 3) hx hb ht iX4 tyX4 tyX4_ok nmX4 hown hK hP hD hS 1 rfl rfl 1 (by decide) (ht _ q1_196) (fun _ h9 => h9) rfl (by decide +kernel) rfl rfl (Nat.le_of_ble_eq_true rfl) dX11_put_62 (fun H locs hP hD hS => ?_)
        have hP : va_P D clsL [(h0, .inr (9, oX11 r f9)), ((r 7), .inr (4, oX4 rl (va_up f0 1 (if 0 < (p0 + 1) then (p0 + 1) else 0)))), ((rl 0), .inl (k 0, 160, .inl (upd (fun _ => 0) p0.toNatClampNeg p1)))] H := hP
        have hD : va_D A [(h0, .inr (9, oX11 r f9)), ((r 7), .inr (4, oX4 rl (va_up f0 1 (if 0 < (p0 + 1) then (p0 + 1) else 0)))), ((rl 0), .inl (k 0, 160, .inl (upd (fun _ => 0) p0.toNatClampNeg p1)))] := hD
        refine lv_iconst (v := 1) hx hb dX11_put_65 (by decide) ?_
        exact W.iret (v := 1) hx hb hr (fun t ht hW => ⟨⟨1, (), rfl, (by first | (unfold an_put; (repeat' split) <;> first | rfl | (exfalso; omega)) | rfl | decide), nilP, nilD⟩, hS.F ht⟩) hS.2.2 dX11_put_66
      · skip
        refine lv_if_ne (tgt := 35) hx hb dX11_put_30 (by decide) (fun c_ => absurd c_ (by decide)) (fun _ => ?_)
        refine lv_iconst (v := (-1)) hx hb dX11_put_33 (by decide) ?_
        exact W.iret (v := (-1)) hx hb hr (fun t ht hW => ⟨⟨(-1), (), rfl, (by first | (unfold an_put; (repeat' split) <;> first | rfl | (exfalso; omega)) | rfl | decide), nilP, nilD⟩, hS.F ht⟩) hS.2.2 dX11_put_34
  · skip
    refine lv_if_eq (tgt := 33) hx hb dX11_put_12 (by decide) (fun _ => ?_) (fun c_ => absurd c_ (by decide))
    refine lv_iconst (v := (-1)) hx hb dX11_put_33 (by decide) ?_
    exact W.iret (v := (-1)) hx hb hr (fun t ht hW => ⟨⟨(-1), (), rfl, (by first | (unfold an_put; (repeat' split) <;> first | rfl | (exfalso; omega)) | rfl | decide), nilP, nilD⟩, hS.F ht⟩) hS.2.2 dX11_put_34
set_option maxHeartbeats 400000 in
set_option maxRecDepth 100000 in
theorem c_X11_weight (l : Launch) (D : va_G) (k : Nat → ClassId) (h0 : Nat) (r : Nat → Nat) (rd : Nat → Nat) (p0 p1 : Int32) (wf : Nat → Int32) (hwf : ∀ j, j < 3 → wf j = 1) : CI l yX11_weight cX11_weight 4 (some .int) 1 22 0 0 D k [(h0, .inr (9, oX11 r f9)), ((r 6), .inr (1, oX1 rd f1)), ((rd 1), .inl (k 0, 3, .inl wf))] [.ref h0, .int p0, .int p1] (S := Unit) (fun (r : Int32) (_ : Unit) => r = an_weight p0 p1) (fun _ => ([] : va_W)) := by
  intro sz
  refine mtX (Qc := fun A => va_Qi (S := Unit) (fun (r : Int32) (_ : Unit) => r = an_weight p0 p1) (fun u t => WX D A ((fun _ => ([] : va_W)) u) t) A) (free := fun A => A) (by decide) (Nat.le_of_ble_eq_true rfl) ?_
  intro p e s m below meth c ls A hB hl
  obtain ⟨hx, hb, hml, hr, hlocks, hnm, hown, ht, hK, hN, hA, hP, hD, hS⟩ := hB
  have hl : lv_has ls 4 [(0, .ref h0), (1, .int p0), (2, .int p1)] := hl
  refine lv_iload_n hx hb dX11_weight_0 rfl (lv_at hl 1 rfl) ?_
  refine lv_iconst (v := 0) hx hb dX11_weight_1 (by decide) ?_
  refine lv_aload_n hx hb dX11_weight_2 rfl (lv_at hl 0 rfl) ?_
  refine va_get (D := D) (ci := 9) (v := .ref (r 6)) (C := "TuneSchool") (T := TX11) (N := 17) hx hb ht iX11 hown hK hP 0 rfl rfl 6 (by decide) (ht _ q1_213) (fun _ h9 => h9) rfl dX11_weight_3 ?_
  refine va_get (D := D) (ci := 1) (v := .ref (rd 1)) (C := "TuneSchool$Desk") (T := TX1) (N := 17) hx hb ht iX1 hown hK hP 1 rfl rfl 1 (by decide) (ht _ q1_131) (fun _ h9 => h9) rfl dX11_weight_6 ?_
  refine va_alen (D := D) (v := 3) hx hb hK hP 2 0 rfl rfl rfl dX11_weight_9 ?_
  refine lv_iconst (v := 1) hx hb dX11_weight_10 (by decide) ?_
  refine ev_isub (v := 2) hx hb dX11_weight_11 (by decide) ?_
  refine afterP (xS (fr := 0) (lo := 0) (mc := 0) (ms := 0) (As := [.int p0, .int 0, .int 2]) (rest := []) (wc := []) ⟨hx, hb, hml, hown, ht⟩ (c_X11_isWithin l D k p0 0 2 0 2 (by decide) (by decide) _) hK hN nilP (nilD (A := A)) q2_60 q2_61 q1_1 q2_62 md_X11_isWithin ⟨by decide, by decide⟩ rfl hl.1 rfl (Nat.le_of_ble_eq_true rfl) dX11_weight_12 ⟨by decide, by decide⟩) (fun r_1 h_2 => ?_)
  rcases h_2 with ⟨rfl, h_2⟩ | ⟨rfl, h_2⟩
  · skip
    refine lv_if_eq (tgt := 28) hx hb dX11_weight_15 (by decide) (fun c_ => absurd c_ (by decide)) (fun _ => ?_)
    refine lv_iload_n hx hb dX11_weight_18 rfl (lv_at hl 2 rfl) ?_
    refine lv_iconst (v := 0) hx hb dX11_weight_19 (by decide) ?_
    refine lv_bipush (v := 9) hx hb dX11_weight_20 (by decide) ?_
    refine afterP (xS (fr := 0) (lo := 0) (mc := 0) (ms := 0) (As := [.int p1, .int 0, .int 9]) (rest := []) (wc := []) ⟨hx, hb, hml, hown, ht⟩ (c_X11_isWithin l D k p1 0 9 0 9 (by decide) (by decide) _) hK hN nilP (nilD (A := A)) q2_60 q2_61 q1_1 q2_62 md_X11_isWithin ⟨by decide, by decide⟩ rfl hl.1 rfl (Nat.le_of_ble_eq_true rfl) dX11_weight_22 ⟨by decide, by decide⟩) (fun r_3 h_4 => ?_)
    rcases h_4 with ⟨rfl, h_4⟩ | ⟨rfl, h_4⟩
    · skip
      refine lv_if_ne (tgt := 30) hx hb dX11_weight_25 (by decide) (fun _ => ?_) (fun c_ => absurd c_ (by decide))
      refine lv_aload_n hx hb dX11_weight_30 rfl (lv_at hl 0 rfl) ?_
      refine va_get (D := D) (ci := 9) (v := .ref (r 6)) (C := "TuneSchool") (T := TX11) (N := 17) hx hb ht iX11 hown hK hP 0 rfl rfl 6 (by decide) (ht _ q1_213) (fun _ h9 => h9) rfl dX11_weight_31 ?_
      refine va_get (D := D) (ci := 1) (v := .ref (rd 1)) (C := "TuneSchool$Desk") (T := TX1) (N := 17) hx hb ht iX1 hown hK hP 1 rfl rfl 1 (by decide) (ht _ q1_131) (fun _ h9 => h9) rfl dX11_weight_34 ?_
      refine lv_iload_n hx hb dX11_weight_37 rfl (lv_at hl 1 rfl) ?_
      refine ldI (v := 1) hx hb hK hP 2 rfl (vin (by omega) (by omega)) (hwf _ (by show p0.toInt.toNat < 3; omega)) dX11_weight_38 ?_
      refine lv_istore_n (lv' := [(3, .int 1), (0, .ref h0), (1, .int p0), (2, .int p1)]) hx hb dX11_weight_39 rfl hl (by decide) rfl (fun ls hl => ?_)
      refine lv_aload_n hx hb dX11_weight_40 rfl (lv_at hl 1 rfl) ?_
      refine va_get (D := D) (ci := 9) (v := .ref (r 6)) (C := "TuneSchool") (T := TX11) (N := 17) hx hb ht iX11 hown hK hP 0 rfl rfl 6 (by decide) (ht _ q1_213) (fun _ h9 => h9) rfl dX11_weight_41 ?_
      refine va_get (D := D) (ci := 1) (v := .ref (rd 1)) (C := "TuneSchool$Desk") (T := TX1) (N := 17) hx hb ht iX1 hown hK hP 1 rfl rfl 1 (by decide) (ht _ q1_131) (fun _ h9 => h9) rfl dX11_weight_44 ?_
      refine lv_iload_n hx hb dX11_weight_47 rfl (lv_at hl 2 rfl) ?_
      refine lv_iload_n hx hb dX11_weight_48 rfl (lv_at hl 3 rfl) ?_
      refine stI hx hb hK hP hD hS 2 rfl (vin (by omega) (by omega)) dX11_weight_49 (fun H locs hP hD hS => ?_)
      have hP : va_P D clsL [(h0, .inr (9, oX11 r f9)), ((r 6), .inr (1, oX1 rd f1)), ((rd 1), .inl (k 0, 3, .inl (upd wf p0.toNatClampNeg p1)))] H := hP
      have hD : va_D A [(h0, .inr (9, oX11 r f9)), ((r 6), .inr (1, oX1 rd f1)), ((rd 1), .inl (k 0, 3, .inl (upd wf p0.toNatClampNeg p1)))] := hD
      refine lv_aload_n hx hb dX11_weight_50 rfl (lv_at hl 1 rfl) ?_
      refine lv_iload_n hx hb dX11_weight_51 rfl (lv_at hl 0 rfl) ?_
      refine afterI (wr := [((r 6), .inr (1, oX1 rd f1)), ((rd 1), .inl (k 0, 3, .inl (upd wf p0.toNatClampNeg p1)))]) (xV (fr := 0) (lo := 0) (mc := 0) (ms := 0) (As := [.int 1]) (rest := []) (wc := [(h0, .inr (9, oX11 r f9))]) ⟨hx, hb, hml, hown, ht⟩ (c_X11_fine l D k h0 r f9 1 _) hK hN (hP.sub (ws' := [(h0, .inr (9, oX11 r f9))]) [0] rfl) (hD.sub (ws' := [(h0, .inr (9, oX11 r f9))]) [0] (by decide) rfl) 9 0 rfl rfl rfl q2_48 q2_50 qs_2 q1_1 q2_51 md_X11_fine ⟨by decide, by decide⟩ rfl hl.1 rfl (Nat.le_of_ble_eq_true rfl) dX11_weight_52 ⟨by decide, by decide⟩) hP hD hS hA [0] [1, 2] rfl rfl rfl (by decide) (fun r_5 u_6 H locs h_7 hP hD hS => ?_)
      obtain rfl : r_5 = 1 := h_7.trans (by decide)
      have hP : va_P D clsL [((r 6), .inr (1, oX1 rd f1)), ((rd 1), .inl (k 0, 3, .inl (upd wf p0.toNatClampNeg p1)))] H := hP
      have hD : va_D A [((r 6), .inr (1, oX1 rd f1)), ((rd 1), .inl (k 0, 3, .inl (upd wf p0.toNatClampNeg p1)))] := hD
      exact W.iret (v := 1) hx hb hr (fun t ht hW => ⟨⟨1, (), rfl, (by first | (unfold an_weight; (repeat' split) <;> first | rfl | (exfalso; omega)) | rfl | decide), nilP, nilD⟩, hS.F ht⟩) hS.2.2 dX11_weight_55
    · skip
      refine lv_if_ne (tgt := 30) hx hb dX11_weight_25 (by decide) (fun c_ => absurd c_ (by decide)) (fun _ => ?_)
      refine lv_iconst (v := (-1)) hx hb dX11_weight_28 (by decide) ?_
      exact W.iret (v := (-1)) hx hb hr (fun t ht hW => ⟨⟨(-1), (), rfl, (by first | (unfold an_weight; (repeat' split) <;> first | rfl | (exfalso; omega)) | rfl | decide), nilP, nilD⟩, hS.F ht⟩) hS.2.2 dX11_weight_29
  · skip
    refine lv_if_eq (tgt := 28) hx hb dX11_weight_15 (by decide) (fun _ => ?_) (fun c_ => absurd c_ (by decide))
    refine lv_iconst (v := (-1)) hx hb dX11_weight_28 (by decide) ?_
    exact W.iret (v := (-1)) hx hb hr (fun t ht hW => ⟨⟨(-1), (), rfl, (by first | (unfold an_weight; (repeat' split) <;> first | rfl | (exfalso; omega)) | rfl | decide), nilP, nilD⟩, hS.F ht⟩) hS.2.2 dX11_weight_29
set_option maxHeartbeats 400000 in
set_option maxRecDepth 100000 in
theorem c_X11_set (l : Launch) (D : va_G) (k : Nat → ClassId) (h0 : Nat) (r : Nat → Nat) (vf : Nat → Option Nat) (hv : Nat) (rv : Nat → Nat) (p0 p1 p2 p3 p4 p5 p6 : Int32) (hvf : 0 ≤ p1.toInt → p1.toInt < 6 → vf p1.toNatClampNeg = some hv) : CI l yX11_set cX11_set 9 (some .int) 1 22 0 0 D k [(h0, .inr (9, oX11 r f9)), ((r 0), .inl (k 3, 6, .inr (.inr (.inr (.inr vf))))), (hv, .inr (8, oX10 rv f0))] [.ref h0, .int p0, .int p1, .int p2, .int p3, .int p4, .int p5, .int p6] (S := Unit) (fun (r : Int32) (_ : Unit) => r = an_set p0 p1 p2 p3 p4 p5 p6) (fun _ => ([] : va_W)) := by
  intro sz
  refine mtX (Qc := fun A => va_Qi (S := Unit) (fun (r : Int32) (_ : Unit) => r = an_set p0 p1 p2 p3 p4 p5 p6) (fun u t => WX D A ((fun _ => ([] : va_W)) u) t) A) (free := fun A => A) (by decide) (Nat.le_of_ble_eq_true rfl) ?_
  intro p e s m below meth c ls A hB hl
  obtain ⟨hx, hb, hml, hr, hlocks, hnm, hown, ht, hK, hN, hA, hP, hD, hS⟩ := hB
  have hl : lv_has ls 9 [(0, .ref h0), (1, .int p0), (2, .int p1), (3, .int p2), (4, .int p3), (5, .int p4), (6, .int p5), (7, .int p6)] := hl
  refine lv_iload_n hx hb dX11_set_0 rfl (lv_at hl 1 rfl) ?_
  refine afterP (xS (fr := 0) (lo := 0) (mc := 0) (ms := 0) (As := [.int p0]) (rest := []) (wc := []) ⟨hx, hb, hml, hown, ht⟩ (c_X11_isVoice l D k p0 _) hK hN nilP (nilD (A := A)) q2_23 q2_24 q1_1 q2_25 md_X11_isVoice ⟨by decide, by decide⟩ rfl hl.1 rfl (Nat.le_of_ble_eq_true rfl) dX11_set_1 ⟨by decide, by decide⟩) (fun r_1 h_2 => ?_)
  rcases h_2 with ⟨rfl, h_2⟩ | ⟨rfl, h_2⟩
  · skip
    refine lv_if_eq (tgt := 32) hx hb dX11_set_4 (by decide) (fun c_ => absurd c_ (by decide)) (fun _ => ?_)
    refine lv_iload_n hx hb dX11_set_7 rfl (lv_at hl 2 rfl) ?_
    refine afterP (xS (fr := 0) (lo := 0) (mc := 0) (ms := 0) (As := [.int p1]) (rest := []) (wc := []) ⟨hx, hb, hml, hown, ht⟩ (c_X11_isVoice l D k p1 _) hK hN nilP (nilD (A := A)) q2_23 q2_24 q1_1 q2_25 md_X11_isVoice ⟨by decide, by decide⟩ rfl hl.1 rfl (Nat.le_of_ble_eq_true rfl) dX11_set_8 ⟨by decide, by decide⟩) (fun r_3 h_4 => ?_)
    rcases h_4 with ⟨rfl, h_4⟩ | ⟨rfl, h_4⟩
    · skip
      refine lv_if_eq (tgt := 32) hx hb dX11_set_11 (by decide) (fun c_ => absurd c_ (by decide)) (fun _ => ?_)
      refine lv_iload_n hx hb dX11_set_14 rfl (lv_at hl 3 rfl) ?_
      refine afterP (xS (fr := 0) (lo := 0) (mc := 0) (ms := 0) (As := [.int p2]) (rest := []) (wc := []) ⟨hx, hb, hml, hown, ht⟩ (c_X11_isPlace l D k p2 _) hK hN nilP (nilD (A := A)) q2_131 q2_132 q1_1 q2_133 md_X11_isPlace ⟨by decide, by decide⟩ rfl hl.1 rfl (Nat.le_of_ble_eq_true rfl) dX11_set_15 ⟨by decide, by decide⟩) (fun r_5 h_6 => ?_)
      rcases h_6 with ⟨rfl, h_6⟩ | ⟨rfl, h_6⟩
      · skip
        refine lv_if_eq (tgt := 32) hx hb dX11_set_18 (by decide) (fun c_ => absurd c_ (by decide)) (fun _ => ?_)
        refine lv_iload hx hb dX11_set_21 (lv_at hl 7 rfl) ?_
        refine lv_iconst (v := 0) hx hb dX11_set_23 (by decide) ?_
        refine lv_bipush (v := 30) hx hb dX11_set_24 (by decide) ?_
        refine afterP (xS (fr := 0) (lo := 0) (mc := 0) (ms := 0) (As := [.int p6, .int 0, .int 30]) (rest := []) (wc := []) ⟨hx, hb, hml, hown, ht⟩ (c_X11_isWithin l D k p6 0 30 0 30 (by decide) (by decide) _) hK hN nilP (nilD (A := A)) q2_60 q2_61 q1_1 q2_62 md_X11_isWithin ⟨by decide, by decide⟩ rfl hl.1 rfl (Nat.le_of_ble_eq_true rfl) dX11_set_26 ⟨by decide, by decide⟩) (fun r_7 h_8 => ?_)
        rcases h_8 with ⟨rfl, h_8⟩ | ⟨rfl, h_8⟩
        · skip
          refine lv_if_ne (tgt := 34) hx hb dX11_set_29 (by decide) (fun _ => ?_) (fun c_ => absurd c_ (by decide))
          refine lv_iload hx hb dX11_set_34 (lv_at hl 5 rfl) ?_
          refine lv_iconst (v := 1) hx hb dX11_set_36 (by decide) ?_
          refine lv_bipush (v := 120) hx hb dX11_set_37 (by decide) ?_
          refine afterP (xS (fr := 0) (lo := 0) (mc := 0) (ms := 0) (As := [.int p4, .int 1, .int 120]) (rest := []) (wc := []) ⟨hx, hb, hml, hown, ht⟩ (c_X11_isWithin l D k p4 1 120 1 120 (by decide) (by decide) _) hK hN nilP (nilD (A := A)) q2_60 q2_61 q1_1 q2_62 md_X11_isWithin ⟨by decide, by decide⟩ rfl hl.1 rfl (Nat.le_of_ble_eq_true rfl) dX11_set_39 ⟨by decide, by decide⟩) (fun r_9 h_10 => ?_)
          rcases h_10 with ⟨rfl, h_10⟩ | ⟨rfl, h_10⟩
          · skip
            refine lv_if_eq (tgt := 67) hx hb dX11_set_42 (by decide) (fun c_ => absurd c_ (by decide)) (fun _ => ?_)
            refine lv_iload hx hb dX11_set_45 (lv_at hl 6 rfl) ?_
            refine lv_iload hx hb dX11_set_47 (lv_at hl 5 rfl) ?_
            refine lv_bipush (v := 120) hx hb dX11_set_49 (by decide) ?_
            refine afterP (xS (fr := 0) (lo := 0) (mc := 0) (ms := 0) (As := [.int p5, .int p4, .int 120]) (rest := []) (wc := []) ⟨hx, hb, hml, hown, ht⟩ (c_X11_isWithin l D k p5 p4 120 p4.toInt 120 rfl (by decide) _) hK hN nilP (nilD (A := A)) q2_60 q2_61 q1_1 q2_62 md_X11_isWithin ⟨by decide, by decide⟩ rfl hl.1 rfl (Nat.le_of_ble_eq_true rfl) dX11_set_51 ⟨by decide, by decide⟩) (fun r_11 h_12 => ?_)
            rcases h_12 with ⟨rfl, h_12⟩ | ⟨rfl, h_12⟩
            · skip
              refine lv_if_eq (tgt := 67) hx hb dX11_set_54 (by decide) (fun c_ => absurd c_ (by decide)) (fun _ => ?_)
              refine lv_iload hx hb dX11_set_57 (lv_at hl 6 rfl) ?_
              refine lv_iload hx hb dX11_set_59 (lv_at hl 5 rfl) ?_
              refine lv_isub hx hb dX11_set_61 ?_
              have sb_13 := subI (x := p5) (y := p4) (by omega) (by omega)
              refine lv_bipush (v := 15) hx hb dX11_set_62 (by decide) ?_
              refine lv_icmp_le (tgt := 69) hx hb dX11_set_64 (by decide) (fun c_14 => ?_) (fun c_14 => ?_)
              · skip
                have c_14 := i_le (a := (p5 - p4).toInt) (b := 15) rfl (by decide) c_14
                refine lv_aload_n hx hb dX11_set_69 rfl (lv_at hl 0 rfl) ?_
                refine va_get (D := D) (ci := 9) (v := .ref (r 0)) (C := "TuneSchool") (T := TX11) (N := 17) hx hb ht iX11 hown hK hP 0 rfl rfl 0 (by decide) (ht _ q1_207) (fun _ h9 => h9) rfl dX11_set_70 ?_
                refine lv_iload_n hx hb dX11_set_73 rfl (lv_at hl 2 rfl) ?_
                refine ldQ (w := hv) hx hb hK hP 1 3 rfl rfl (vin (by omega) (by omega)) (hvf (by omega) (by omega)) dX11_set_74 ?_
                refine afterP (xS (fr := 0) (lo := 0) (mc := 0) (ms := 0) (As := [.ref hv]) (rest := []) (wc := [(hv, .inr (8, oX10 rv f0))]) ⟨hx, hb, hml, hown, ht⟩ (c_X11_goThrough l D k hv rv _) hK hN (hP.sub (ws' := [(hv, .inr (8, oX10 rv f0))]) [2] rfl) (hD.sub (ws' := [(hv, .inr (8, oX10 rv f0))]) [2] (by decide) rfl) q2_86 q2_87 q1_1 q2_88 md_X11_goThrough ⟨by decide, by decide⟩ rfl hl.1 rfl (Nat.le_of_ble_eq_true rfl) dX11_set_75 ⟨by decide, by decide⟩) (fun r_15 h_16 => ?_)
                obtain rfl := h_16
                refine lv_istore (lv' := [(8, .int 1), (0, .ref h0), (1, .int p0), (2, .int p1), (3, .int p2), (4, .int p3), (5, .int p4), (6, .int p5), (7, .int p6)]) hx hb dX11_set_78 hl (by decide) rfl (fun ls hl => ?_)
                refine lv_iload hx hb dX11_set_80 (lv_at hl 0 rfl) ?_
                refine lv_if_eq (tgt := 92) hx hb dX11_set_82 (by decide) (fun c_ => absurd c_ (by decide)) (fun _ => ?_)
                refine lv_aload_n hx hb dX11_set_85 rfl (lv_at hl 1 rfl) ?_
                refine lv_iload hx hb dX11_set_86 (lv_at hl 0 rfl) ?_
                refine afterI (wr := [((r 0), .inl (k 3, 6, .inr (.inr (.inr (.inr vf))))), (hv, .inr (8, oX10 rv f0))]) (xV (fr := 0) (lo := 0) (mc := 0) (ms := 0) (As := [.int 1]) (rest := []) (wc := [(h0, .inr (9, oX11 r f9))]) ⟨hx, hb, hml, hown, ht⟩ (c_X11_finding l D k h0 r f9 1 _) hK hN (hP.sub (ws' := [(h0, .inr (9, oX11 r f9))]) [0] rfl) (hD.sub (ws' := [(h0, .inr (9, oX11 r f9))]) [0] (by decide) rfl) 9 0 rfl rfl rfl q2_26 q2_28 qs_0 q1_1 q2_29 md_X11_finding ⟨by decide, by decide⟩ rfl hl.1 rfl (Nat.le_of_ble_eq_true rfl) dX11_set_88 ⟨by decide, by decide⟩) hP hD hS hA [0] [1, 2] rfl rfl rfl (by decide) (fun r_17 u_18 H locs h_19 hP hD hS => ?_)
                obtain rfl : r_17 = (-11) := h_19.trans (by decide)
                have hP : va_P D clsL [((r 0), .inl (k 3, 6, .inr (.inr (.inr (.inr vf))))), (hv, .inr (8, oX10 rv f0))] H := hP
                have hD : va_D A [((r 0), .inl (k 3, 6, .inr (.inr (.inr (.inr vf))))), (hv, .inr (8, oX10 rv f0))] := hD
                exact W.iret (v := (-11)) hx hb hr (fun t ht hW => ⟨⟨(-11), (), rfl, (by first | (unfold an_set; (repeat' split) <;> first | rfl | (exfalso; omega)) | rfl | decide), nilP, nilD⟩, hS.F ht⟩) hS.2.2 dX11_set_91
              · skip
                have c_14 := i_nle (a := (p5 - p4).toInt) (b := 15) rfl (by decide) c_14
                refine lv_iconst (v := (-1)) hx hb dX11_set_67 (by decide) ?_
                exact W.iret (v := (-1)) hx hb hr (fun t ht hW => ⟨⟨(-1), (), rfl, (by first | (unfold an_set; (repeat' split) <;> first | rfl | (exfalso; omega)) | rfl | decide), nilP, nilD⟩, hS.F ht⟩) hS.2.2 dX11_set_68
            · skip
              refine lv_if_eq (tgt := 67) hx hb dX11_set_54 (by decide) (fun _ => ?_) (fun c_ => absurd c_ (by decide))
              refine lv_iconst (v := (-1)) hx hb dX11_set_67 (by decide) ?_
              exact W.iret (v := (-1)) hx hb hr (fun t ht hW => ⟨⟨(-1), (), rfl, (by first | (unfold an_set; (repeat' split) <;> first | rfl | (exfalso; omega)) | rfl | decide), nilP, nilD⟩, hS.F ht⟩) hS.2.2 dX11_set_68
          · skip
            refine lv_if_eq (tgt := 67) hx hb dX11_set_42 (by decide) (fun _ => ?_) (fun c_ => absurd c_ (by decide))
            refine lv_iconst (v := (-1)) hx hb dX11_set_67 (by decide) ?_
            exact W.iret (v := (-1)) hx hb hr (fun t ht hW => ⟨⟨(-1), (), rfl, (by first | (unfold an_set; (repeat' split) <;> first | rfl | (exfalso; omega)) | rfl | decide), nilP, nilD⟩, hS.F ht⟩) hS.2.2 dX11_set_68
        · skip
          refine lv_if_ne (tgt := 34) hx hb dX11_set_29 (by decide) (fun c_ => absurd c_ (by decide)) (fun _ => ?_)
          refine lv_iconst (v := (-1)) hx hb dX11_set_32 (by decide) ?_
          exact W.iret (v := (-1)) hx hb hr (fun t ht hW => ⟨⟨(-1), (), rfl, (by first | (unfold an_set; (repeat' split) <;> first | rfl | (exfalso; omega)) | rfl | decide), nilP, nilD⟩, hS.F ht⟩) hS.2.2 dX11_set_33
      · skip
        refine lv_if_eq (tgt := 32) hx hb dX11_set_18 (by decide) (fun _ => ?_) (fun c_ => absurd c_ (by decide))
        refine lv_iconst (v := (-1)) hx hb dX11_set_32 (by decide) ?_
        exact W.iret (v := (-1)) hx hb hr (fun t ht hW => ⟨⟨(-1), (), rfl, (by first | (unfold an_set; (repeat' split) <;> first | rfl | (exfalso; omega)) | rfl | decide), nilP, nilD⟩, hS.F ht⟩) hS.2.2 dX11_set_33
    · skip
      refine lv_if_eq (tgt := 32) hx hb dX11_set_11 (by decide) (fun _ => ?_) (fun c_ => absurd c_ (by decide))
      refine lv_iconst (v := (-1)) hx hb dX11_set_32 (by decide) ?_
      exact W.iret (v := (-1)) hx hb hr (fun t ht hW => ⟨⟨(-1), (), rfl, (by first | (unfold an_set; (repeat' split) <;> first | rfl | (exfalso; omega)) | rfl | decide), nilP, nilD⟩, hS.F ht⟩) hS.2.2 dX11_set_33
  · skip
    refine lv_if_eq (tgt := 32) hx hb dX11_set_4 (by decide) (fun _ => ?_) (fun c_ => absurd c_ (by decide))
    refine lv_iconst (v := (-1)) hx hb dX11_set_32 (by decide) ?_
    exact W.iret (v := (-1)) hx hb hr (fun t ht hW => ⟨⟨(-1), (), rfl, (by first | (unfold an_set; (repeat' split) <;> first | rfl | (exfalso; omega)) | rfl | decide), nilP, nilD⟩, hS.F ht⟩) hS.2.2 dX11_set_33
set_option maxHeartbeats 400000 in
set_option maxRecDepth 100000 in
theorem c_X11_faults (l : Launch) (D : va_G) (k : Nat → ClassId) (h0 : Nat) (r : Nat → Nat) (vf : Nat → Option Nat) (w : Nat → Nat) (rs : Nat → Nat → Nat) (rm : Nat → Nat) (p0 : Int32) (hq : ∀ j, j < 6 → vf j = some (w j)) : CI l yX11_faults cX11_faults 7 (some .int) 1 21 0 0 D k [(h0, .inr (9, oX11 r f9)), ((r 0), .inl (k 3, 6, .inr (.inr (.inr (.inr vf))))), ((r 4), .inl (k 4, 16, .inr (.inr (.inr (.inr (fun _ => none)))))), ((r 5), .inr (5, oX5 rm f5)), ((w 0), .inr (8, oX10 (rs 0) f0)), ((w 1), .inr (8, oX10 (rs 1) f0)), ((w 2), .inr (8, oX10 (rs 2) f0)), ((w 3), .inr (8, oX10 (rs 3) f0)), ((w 4), .inr (8, oX10 (rs 4) f0)), ((w 5), .inr (8, oX10 (rs 5) f0))] [.ref h0, .int p0] (S := Unit) (fun (r : Int32) (_ : Unit) => r = an_faults p0) (fun _ => ([] : va_W)) := by
  intro sz
  refine mtX (Qc := fun A => va_Qi (S := Unit) (fun (r : Int32) (_ : Unit) => r = an_faults p0) (fun u t => WX D A ((fun _ => ([] : va_W)) u) t) A) (free := fun A => A) (by decide) (Nat.le_of_ble_eq_true rfl) ?_
  intro p e s m below meth c ls A hB hl
  obtain ⟨hx, hb, hml, hr, hlocks, hnm, hown, ht, hK, hN, hA, hP, hD, hS⟩ := hB
  have hl : lv_has ls 7 [(0, .ref h0), (1, .int p0)] := hl
  refine lv_iload_n hx hb dX11_faults_0 rfl (lv_at hl 1 rfl) ?_
  refine afterP (xS (fr := 0) (lo := 0) (mc := 0) (ms := 0) (As := [.int p0]) (rest := []) (wc := []) ⟨hx, hb, hml, hown, ht⟩ (c_X11_isPlace l D k p0 _) hK hN nilP (nilD (A := A)) q2_131 q2_132 q1_1 q2_133 md_X11_isPlace ⟨by decide, by decide⟩ rfl hl.1 rfl (Nat.le_of_ble_eq_true rfl) dX11_faults_1 ⟨by decide, by decide⟩) (fun r_1 h_2 => ?_)
  rcases h_2 with ⟨rfl, h_2⟩ | ⟨rfl, h_2⟩
  · skip
    refine lv_if_ne (tgt := 9) hx hb dX11_faults_4 (by decide) (fun _ => ?_) (fun c_ => absurd c_ (by decide))
    refine lv_aload_n hx hb dX11_faults_9 rfl (lv_at hl 0 rfl) ?_
    refine va_get (D := D) (ci := 9) (v := .ref (r 5)) (C := "TuneSchool") (T := TX11) (N := 17) hx hb ht iX11 hown hK hP 0 rfl rfl 5 (by decide) (ht _ q1_212) (fun _ h9 => h9) rfl dX11_faults_10 ?_
    refine afterV (wr := [(h0, .inr (9, oX11 r f9)), ((r 0), .inl (k 3, 6, .inr (.inr (.inr (.inr vf))))), ((r 4), .inl (k 4, 16, .inr (.inr (.inr (.inr (fun _ => none)))))), ((w 0), .inr (8, oX10 (rs 0) f0)), ((w 1), .inr (8, oX10 (rs 1) f0)), ((w 2), .inr (8, oX10 (rs 2) f0)), ((w 3), .inr (8, oX10 (rs 3) f0)), ((w 4), .inr (8, oX10 (rs 4) f0)), ((w 5), .inr (8, oX10 (rs 5) f0))]) (xV (fr := 0) (lo := 0) (mc := 0) (ms := 0) (As := []) (rest := []) (wc := [((r 5), .inr (5, oX5 rm f5))]) ⟨hx, hb, hml, hown, ht⟩ (c_X5_openTrace l D k (r 5) rm _) hK hN (hP.sub (ws' := [((r 5), .inr (5, oX5 rm f5))]) [3] rfl) (hD.sub (ws' := [((r 5), .inr (5, oX5 rm f5))]) [3] (by decide) rfl) 5 0 rfl rfl rfl q3_36 q3_37 q3_38 q1_3 q3_39 md_X5_openTrace ⟨by decide, by decide⟩ rfl hl.1 rfl (Nat.le_of_ble_eq_true rfl) dX11_faults_13 ⟨by decide, by decide⟩) hP hD hS hA [3] [0, 1, 2, 4, 5, 6, 7, 8, 9] rfl rfl rfl (by decide) (fun u_4 H locs h_5 hP hD hS => ?_)
    have hP : va_P D clsL [(h0, .inr (9, oX11 r f9)), ((r 0), .inl (k 3, 6, .inr (.inr (.inr (.inr vf))))), ((r 4), .inl (k 4, 16, .inr (.inr (.inr (.inr (fun _ => none)))))), ((w 0), .inr (8, oX10 (rs 0) f0)), ((w 1), .inr (8, oX10 (rs 1) f0)), ((w 2), .inr (8, oX10 (rs 2) f0)), ((w 3), .inr (8, oX10 (rs 3) f0)), ((w 4), .inr (8, oX10 (rs 4) f0)), ((w 5), .inr (8, oX10 (rs 5) f0))] H := hP
    have hD : va_D A [(h0, .inr (9, oX11 r f9)), ((r 0), .inl (k 3, 6, .inr (.inr (.inr (.inr vf))))), ((r 4), .inl (k 4, 16, .inr (.inr (.inr (.inr (fun _ => none)))))), ((w 0), .inr (8, oX10 (rs 0) f0)), ((w 1), .inr (8, oX10 (rs 1) f0)), ((w 2), .inr (8, oX10 (rs 2) f0)), ((w 3), .inr (8, oX10 (rs 3) f0)), ((w 4), .inr (8, oX10 (rs 4) f0)), ((w 5), .inr (8, oX10 (rs 5) f0))] := hD
    refine lv_iconst (v := 0) hx hb dX11_faults_16 (by decide) ?_
    refine lv_istore_n (lv' := [(2, .int 0), (0, .ref h0), (1, .int p0)]) hx hb dX11_faults_17 rfl hl (by decide) rfl (fun ls hl => ?_)
    refine lv_iconst (v := 0) hx hb dX11_faults_18 (by decide) ?_
    refine lv_istore_n (lv' := [(3, .int 0), (2, .int 0), (0, .ref h0), (1, .int p0)]) hx hb dX11_faults_19 rfl hl (by decide) rfl (fun ls hl => ?_)
    refine lv_iload_n hx hb dX11_faults_20 rfl (lv_at hl 0 rfl) ?_
    refine lv_bipush (v := 6) hx hb dX11_faults_21 (by decide) ?_
    refine lv_icmp_ge (tgt := 79) hx hb dX11_faults_23 (by decide) (fun c_ => absurd c_ (by decide)) (fun _ => ?_)
    refine lv_aload_n hx hb dX11_faults_26 rfl (lv_at hl 2 rfl) ?_
    refine va_get (D := D) (ci := 9) (v := .ref (r 0)) (C := "TuneSchool") (T := TX11) (N := 17) hx hb ht iX11 hown hK hP 0 rfl rfl 0 (by decide) (ht _ q1_207) (fun _ h9 => h9) rfl dX11_faults_27 ?_
    refine lv_iload_n hx hb dX11_faults_30 rfl (lv_at hl 0 rfl) ?_
    refine ldQ (w := (w 0)) hx hb hK hP 1 3 rfl rfl (vin (by decide) (by decide)) (hq 0 (by decide)) dX11_faults_31 ?_
    refine afterP (xS (fr := 0) (lo := 0) (mc := 0) (ms := 0) (As := [.ref (w 0)]) (rest := []) (wc := [((w 0), .inr (8, oX10 (rs 0) f0))]) ⟨hx, hb, hml, hown, ht⟩ (c_X11_goThrough l D k (w 0) (rs 0) _) hK hN (hP.sub (ws' := [((w 0), .inr (8, oX10 (rs 0) f0))]) [3] rfl) (hD.sub (ws' := [((w 0), .inr (8, oX10 (rs 0) f0))]) [3] (by decide) rfl) q2_86 q2_87 q1_1 q2_88 md_X11_goThrough ⟨by decide, by decide⟩ rfl hl.1 rfl (Nat.le_of_ble_eq_true rfl) dX11_faults_32 ⟨by decide, by decide⟩) (fun r_6 h_7 => ?_)
    obtain rfl := h_7
    refine lv_istore (lv' := [(4, .int 1), (3, .int 0), (2, .int 0), (0, .ref h0), (1, .int p0)]) hx hb dX11_faults_35 hl (by decide) rfl (fun ls hl => ?_)
    refine lv_iload hx hb dX11_faults_37 (lv_at hl 0 rfl) ?_
    refine lv_iconst (v := 2) hx hb dX11_faults_39 (by decide) ?_
    refine lv_icmp_ne (tgt := 50) hx hb dX11_faults_40 (by decide) (fun _ => ?_) (fun c_ => absurd c_ (by decide))
    refine lv_iload_n hx hb dX11_faults_50 rfl (lv_at hl 2 rfl) ?_
    refine lv_iload hx hb dX11_faults_51 (lv_at hl 0 rfl) ?_
    refine lv_if_ne (tgt := 68) hx hb dX11_faults_53 (by decide) (fun _ => ?_) (fun c_ => absurd c_ (by decide))
    refine lv_iconst (v := 0) hx hb dX11_faults_68 (by decide) ?_
    refine va_mmax hx hb (by rw [hml]; exact hl.1.symm) hown (ht _ q3_40) (ht _ q3_41) (ht _ q1_16) (ht _ q3_42) (by decide) (Nat.le_of_ble_eq_true rfl) (by decide) (by decide) dX11_faults_69 ?_
    refine W.eq (g2 := F0 m 72 ls [.int 0]) rfl ?_
    refine lv_istore_n (lv' := [(2, .int 0), (4, .int 1), (3, .int 0), (0, .ref h0), (1, .int p0)]) hx hb dX11_faults_72 rfl hl (by decide) rfl (fun ls hl => ?_)
    refine lv_iinc (v := 1) (lv' := [(3, .int 1), (2, .int 0), (4, .int 1), (0, .ref h0), (1, .int p0)]) hx hb dX11_faults_73 hl (k := 2) rfl (by decide) (by decide) rfl (fun ls hl => ?_)
    refine lv_goto (tgt := 20) hx hb dX11_faults_76 (by decide) ?_
    refine lv_iload_n hx hb dX11_faults_20 rfl (lv_at hl 0 rfl) ?_
    refine lv_bipush (v := 6) hx hb dX11_faults_21 (by decide) ?_
    refine lv_icmp_ge (tgt := 79) hx hb dX11_faults_23 (by decide) (fun c_ => absurd c_ (by decide)) (fun _ => ?_)
    refine lv_aload_n hx hb dX11_faults_26 rfl (lv_at hl 3 rfl) ?_
    refine va_get (D := D) (ci := 9) (v := .ref (r 0)) (C := "TuneSchool") (T := TX11) (N := 17) hx hb ht iX11 hown hK hP 0 rfl rfl 0 (by decide) (ht _ q1_207) (fun _ h9 => h9) rfl dX11_faults_27 ?_
    refine lv_iload_n hx hb dX11_faults_30 rfl (lv_at hl 0 rfl) ?_
    refine ldQ (w := (w 1)) hx hb hK hP 1 3 rfl rfl (vin (by decide) (by decide)) (hq 1 (by decide)) dX11_faults_31 ?_
    refine afterP (xS (fr := 0) (lo := 0) (mc := 0) (ms := 0) (As := [.ref (w 1)]) (rest := []) (wc := [((w 1), .inr (8, oX10 (rs 1) f0))]) ⟨hx, hb, hml, hown, ht⟩ (c_X11_goThrough l D k (w 1) (rs 1) _) hK hN (hP.sub (ws' := [((w 1), .inr (8, oX10 (rs 1) f0))]) [4] rfl) (hD.sub (ws' := [((w 1), .inr (8, oX10 (rs 1) f0))]) [4] (by decide) rfl) q2_86 q2_87 q1_1 q2_88 md_X11_goThrough ⟨by decide, by decide⟩ rfl hl.1 rfl (Nat.le_of_ble_eq_true rfl) dX11_faults_32 ⟨by decide, by decide⟩) (fun r_8 h_9 => ?_)
    obtain rfl := h_9
    refine lv_istore (lv' := [(4, .int 1), (3, .int 1), (2, .int 0), (0, .ref h0), (1, .int p0)]) hx hb dX11_faults_35 hl (by decide) rfl (fun ls hl => ?_)
    refine lv_iload hx hb dX11_faults_37 (lv_at hl 0 rfl) ?_
    refine lv_iconst (v := 2) hx hb dX11_faults_39 (by decide) ?_
    refine lv_icmp_ne (tgt := 50) hx hb dX11_faults_40 (by decide) (fun _ => ?_) (fun c_ => absurd c_ (by decide))
    refine lv_iload_n hx hb dX11_faults_50 rfl (lv_at hl 2 rfl) ?_
    refine lv_iload hx hb dX11_faults_51 (lv_at hl 0 rfl) ?_
    refine lv_if_ne (tgt := 68) hx hb dX11_faults_53 (by decide) (fun _ => ?_) (fun c_ => absurd c_ (by decide))
    refine lv_iconst (v := 0) hx hb dX11_faults_68 (by decide) ?_
    refine va_mmax hx hb (by rw [hml]; exact hl.1.symm) hown (ht _ q3_40) (ht _ q3_41) (ht _ q1_16) (ht _ q3_42) (by decide) (Nat.le_of_ble_eq_true rfl) (by decide) (by decide) dX11_faults_69 ?_
    refine W.eq (g2 := F0 m 72 ls [.int 0]) rfl ?_
    refine lv_istore_n (lv' := [(2, .int 0), (4, .int 1), (3, .int 1), (0, .ref h0), (1, .int p0)]) hx hb dX11_faults_72 rfl hl (by decide) rfl (fun ls hl => ?_)
    refine lv_iinc (v := 2) (lv' := [(3, .int 2), (2, .int 0), (4, .int 1), (0, .ref h0), (1, .int p0)]) hx hb dX11_faults_73 hl (k := 2) rfl (by decide) (by decide) rfl (fun ls hl => ?_)
    refine lv_goto (tgt := 20) hx hb dX11_faults_76 (by decide) ?_
    refine lv_iload_n hx hb dX11_faults_20 rfl (lv_at hl 0 rfl) ?_
    refine lv_bipush (v := 6) hx hb dX11_faults_21 (by decide) ?_
    refine lv_icmp_ge (tgt := 79) hx hb dX11_faults_23 (by decide) (fun c_ => absurd c_ (by decide)) (fun _ => ?_)
    refine lv_aload_n hx hb dX11_faults_26 rfl (lv_at hl 3 rfl) ?_
    refine va_get (D := D) (ci := 9) (v := .ref (r 0)) (C := "TuneSchool") (T := TX11) (N := 17) hx hb ht iX11 hown hK hP 0 rfl rfl 0 (by decide) (ht _ q1_207) (fun _ h9 => h9) rfl dX11_faults_27 ?_
    refine lv_iload_n hx hb dX11_faults_30 rfl (lv_at hl 0 rfl) ?_
    refine ldQ (w := (w 2)) hx hb hK hP 1 3 rfl rfl (vin (by decide) (by decide)) (hq 2 (by decide)) dX11_faults_31 ?_
    refine afterP (xS (fr := 0) (lo := 0) (mc := 0) (ms := 0) (As := [.ref (w 2)]) (rest := []) (wc := [((w 2), .inr (8, oX10 (rs 2) f0))]) ⟨hx, hb, hml, hown, ht⟩ (c_X11_goThrough l D k (w 2) (rs 2) _) hK hN (hP.sub (ws' := [((w 2), .inr (8, oX10 (rs 2) f0))]) [5] rfl) (hD.sub (ws' := [((w 2), .inr (8, oX10 (rs 2) f0))]) [5] (by decide) rfl) q2_86 q2_87 q1_1 q2_88 md_X11_goThrough ⟨by decide, by decide⟩ rfl hl.1 rfl (Nat.le_of_ble_eq_true rfl) dX11_faults_32 ⟨by decide, by decide⟩) (fun r_10 h_11 => ?_)
    obtain rfl := h_11
    refine lv_istore (lv' := [(4, .int 1), (3, .int 2), (2, .int 0), (0, .ref h0), (1, .int p0)]) hx hb dX11_faults_35 hl (by decide) rfl (fun ls hl => ?_)
    refine lv_iload hx hb dX11_faults_37 (lv_at hl 0 rfl) ?_
    refine lv_iconst (v := 2) hx hb dX11_faults_39 (by decide) ?_
    refine lv_icmp_ne (tgt := 50) hx hb dX11_faults_40 (by decide) (fun _ => ?_) (fun c_ => absurd c_ (by decide))
    refine lv_iload_n hx hb dX11_faults_50 rfl (lv_at hl 2 rfl) ?_
    refine lv_iload hx hb dX11_faults_51 (lv_at hl 0 rfl) ?_
    refine lv_if_ne (tgt := 68) hx hb dX11_faults_53 (by decide) (fun _ => ?_) (fun c_ => absurd c_ (by decide))
    refine lv_iconst (v := 0) hx hb dX11_faults_68 (by decide) ?_
    refine va_mmax hx hb (by rw [hml]; exact hl.1.symm) hown (ht _ q3_40) (ht _ q3_41) (ht _ q1_16) (ht _ q3_42) (by decide) (Nat.le_of_ble_eq_true rfl) (by decide) (by decide) dX11_faults_69 ?_
    refine W.eq (g2 := F0 m 72 ls [.int 0]) rfl ?_
    refine lv_istore_n (lv' := [(2, .int 0), (4, .int 1), (3, .int 2), (0, .ref h0), (1, .int p0)]) hx hb dX11_faults_72 rfl hl (by decide) rfl (fun ls hl => ?_)
    refine lv_iinc (v := 3) (lv' := [(3, .int 3), (2, .int 0), (4, .int 1), (0, .ref h0), (1, .int p0)]) hx hb dX11_faults_73 hl (k := 2) rfl (by decide) (by decide) rfl (fun ls hl => ?_)
    refine lv_goto (tgt := 20) hx hb dX11_faults_76 (by decide) ?_
    refine lv_iload_n hx hb dX11_faults_20 rfl (lv_at hl 0 rfl) ?_
    refine lv_bipush (v := 6) hx hb dX11_faults_21 (by decide) ?_
    refine lv_icmp_ge (tgt := 79) hx hb dX11_faults_23 (by decide) (fun c_ => absurd c_ (by decide)) (fun _ => ?_)
    refine lv_aload_n hx hb dX11_faults_26 rfl (lv_at hl 3 rfl) ?_
    refine va_get (D := D) (ci := 9) (v := .ref (r 0)) (C := "TuneSchool") (T := TX11) (N := 17) hx hb ht iX11 hown hK hP 0 rfl rfl 0 (by decide) (ht _ q1_207) (fun _ h9 => h9) rfl dX11_faults_27 ?_
    refine lv_iload_n hx hb dX11_faults_30 rfl (lv_at hl 0 rfl) ?_
    refine ldQ (w := (w 3)) hx hb hK hP 1 3 rfl rfl (vin (by decide) (by decide)) (hq 3 (by decide)) dX11_faults_31 ?_
    refine afterP (xS (fr := 0) (lo := 0) (mc := 0) (ms := 0) (As := [.ref (w 3)]) (rest := []) (wc := [((w 3), .inr (8, oX10 (rs 3) f0))]) ⟨hx, hb, hml, hown, ht⟩ (c_X11_goThrough l D k (w 3) (rs 3) _) hK hN (hP.sub (ws' := [((w 3), .inr (8, oX10 (rs 3) f0))]) [6] rfl) (hD.sub (ws' := [((w 3), .inr (8, oX10 (rs 3) f0))]) [6] (by decide) rfl) q2_86 q2_87 q1_1 q2_88 md_X11_goThrough ⟨by decide, by decide⟩ rfl hl.1 rfl (Nat.le_of_ble_eq_true rfl) dX11_faults_32 ⟨by decide, by decide⟩) (fun r_12 h_13 => ?_)
    obtain rfl := h_13
    refine lv_istore (lv' := [(4, .int 1), (3, .int 3), (2, .int 0), (0, .ref h0), (1, .int p0)]) hx hb dX11_faults_35 hl (by decide) rfl (fun ls hl => ?_)
    refine lv_iload hx hb dX11_faults_37 (lv_at hl 0 rfl) ?_
    refine lv_iconst (v := 2) hx hb dX11_faults_39 (by decide) ?_
    refine lv_icmp_ne (tgt := 50) hx hb dX11_faults_40 (by decide) (fun _ => ?_) (fun c_ => absurd c_ (by decide))
    refine lv_iload_n hx hb dX11_faults_50 rfl (lv_at hl 2 rfl) ?_
    refine lv_iload hx hb dX11_faults_51 (lv_at hl 0 rfl) ?_
    refine lv_if_ne (tgt := 68) hx hb dX11_faults_53 (by decide) (fun _ => ?_) (fun c_ => absurd c_ (by decide))
    refine lv_iconst (v := 0) hx hb dX11_faults_68 (by decide) ?_
    refine va_mmax hx hb (by rw [hml]; exact hl.1.symm) hown (ht _ q3_40) (ht _ q3_41) (ht _ q1_16) (ht _ q3_42) (by decide) (Nat.le_of_ble_eq_true rfl) (by decide) (by decide) dX11_faults_69 ?_
    refine W.eq (g2 := F0 m 72 ls [.int 0]) rfl ?_
    refine lv_istore_n (lv' := [(2, .int 0), (4, .int 1), (3, .int 3), (0, .ref h0), (1, .int p0)]) hx hb dX11_faults_72 rfl hl (by decide) rfl (fun ls hl => ?_)
    refine lv_iinc (v := 4) (lv' := [(3, .int 4), (2, .int 0), (4, .int 1), (0, .ref h0), (1, .int p0)]) hx hb dX11_faults_73 hl (k := 2) rfl (by decide) (by decide) rfl (fun ls hl => ?_)
    refine lv_goto (tgt := 20) hx hb dX11_faults_76 (by decide) ?_
    refine lv_iload_n hx hb dX11_faults_20 rfl (lv_at hl 0 rfl) ?_
    refine lv_bipush (v := 6) hx hb dX11_faults_21 (by decide) ?_
    refine lv_icmp_ge (tgt := 79) hx hb dX11_faults_23 (by decide) (fun c_ => absurd c_ (by decide)) (fun _ => ?_)
    refine lv_aload_n hx hb dX11_faults_26 rfl (lv_at hl 3 rfl) ?_
    refine va_get (D := D) (ci := 9) (v := .ref (r 0)) (C := "TuneSchool") (T := TX11) (N := 17) hx hb ht iX11 hown hK hP 0 rfl rfl 0 (by decide) (ht _ q1_207) (fun _ h9 => h9) rfl dX11_faults_27 ?_
    refine lv_iload_n hx hb dX11_faults_30 rfl (lv_at hl 0 rfl) ?_
    refine ldQ (w := (w 4)) hx hb hK hP 1 3 rfl rfl (vin (by decide) (by decide)) (hq 4 (by decide)) dX11_faults_31 ?_
    refine afterP (xS (fr := 0) (lo := 0) (mc := 0) (ms := 0) (As := [.ref (w 4)]) (rest := []) (wc := [((w 4), .inr (8, oX10 (rs 4) f0))]) ⟨hx, hb, hml, hown, ht⟩ (c_X11_goThrough l D k (w 4) (rs 4) _) hK hN (hP.sub (ws' := [((w 4), .inr (8, oX10 (rs 4) f0))]) [7] rfl) (hD.sub (ws' := [((w 4), .inr (8, oX10 (rs 4) f0))]) [7] (by decide) rfl) q2_86 q2_87 q1_1 q2_88 md_X11_goThrough ⟨by decide, by decide⟩ rfl hl.1 rfl (Nat.le_of_ble_eq_true rfl) dX11_faults_32 ⟨by decide, by decide⟩) (fun r_14 h_15 => ?_)
    obtain rfl := h_15
    refine lv_istore (lv' := [(4, .int 1), (3, .int 4), (2, .int 0), (0, .ref h0), (1, .int p0)]) hx hb dX11_faults_35 hl (by decide) rfl (fun ls hl => ?_)
    refine lv_iload hx hb dX11_faults_37 (lv_at hl 0 rfl) ?_
    refine lv_iconst (v := 2) hx hb dX11_faults_39 (by decide) ?_
    refine lv_icmp_ne (tgt := 50) hx hb dX11_faults_40 (by decide) (fun _ => ?_) (fun c_ => absurd c_ (by decide))
    refine lv_iload_n hx hb dX11_faults_50 rfl (lv_at hl 2 rfl) ?_
    refine lv_iload hx hb dX11_faults_51 (lv_at hl 0 rfl) ?_
    refine lv_if_ne (tgt := 68) hx hb dX11_faults_53 (by decide) (fun _ => ?_) (fun c_ => absurd c_ (by decide))
    refine lv_iconst (v := 0) hx hb dX11_faults_68 (by decide) ?_
    refine va_mmax hx hb (by rw [hml]; exact hl.1.symm) hown (ht _ q3_40) (ht _ q3_41) (ht _ q1_16) (ht _ q3_42) (by decide) (Nat.le_of_ble_eq_true rfl) (by decide) (by decide) dX11_faults_69 ?_
    refine W.eq (g2 := F0 m 72 ls [.int 0]) rfl ?_
    refine lv_istore_n (lv' := [(2, .int 0), (4, .int 1), (3, .int 4), (0, .ref h0), (1, .int p0)]) hx hb dX11_faults_72 rfl hl (by decide) rfl (fun ls hl => ?_)
    refine lv_iinc (v := 5) (lv' := [(3, .int 5), (2, .int 0), (4, .int 1), (0, .ref h0), (1, .int p0)]) hx hb dX11_faults_73 hl (k := 2) rfl (by decide) (by decide) rfl (fun ls hl => ?_)
    refine lv_goto (tgt := 20) hx hb dX11_faults_76 (by decide) ?_
    refine lv_iload_n hx hb dX11_faults_20 rfl (lv_at hl 0 rfl) ?_
    refine lv_bipush (v := 6) hx hb dX11_faults_21 (by decide) ?_
    refine lv_icmp_ge (tgt := 79) hx hb dX11_faults_23 (by decide) (fun c_ => absurd c_ (by decide)) (fun _ => ?_)
    refine lv_aload_n hx hb dX11_faults_26 rfl (lv_at hl 3 rfl) ?_
    refine va_get (D := D) (ci := 9) (v := .ref (r 0)) (C := "TuneSchool") (T := TX11) (N := 17) hx hb ht iX11 hown hK hP 0 rfl rfl 0 (by decide) (ht _ q1_207) (fun _ h9 => h9) rfl dX11_faults_27 ?_
    refine lv_iload_n hx hb dX11_faults_30 rfl (lv_at hl 0 rfl) ?_
    refine ldQ (w := (w 5)) hx hb hK hP 1 3 rfl rfl (vin (by decide) (by decide)) (hq 5 (by decide)) dX11_faults_31 ?_
    refine afterP (xS (fr := 0) (lo := 0) (mc := 0) (ms := 0) (As := [.ref (w 5)]) (rest := []) (wc := [((w 5), .inr (8, oX10 (rs 5) f0))]) ⟨hx, hb, hml, hown, ht⟩ (c_X11_goThrough l D k (w 5) (rs 5) _) hK hN (hP.sub (ws' := [((w 5), .inr (8, oX10 (rs 5) f0))]) [8] rfl) (hD.sub (ws' := [((w 5), .inr (8, oX10 (rs 5) f0))]) [8] (by decide) rfl) q2_86 q2_87 q1_1 q2_88 md_X11_goThrough ⟨by decide, by decide⟩ rfl hl.1 rfl (Nat.le_of_ble_eq_true rfl) dX11_faults_32 ⟨by decide, by decide⟩) (fun r_16 h_17 => ?_)
    obtain rfl := h_17
    refine lv_istore (lv' := [(4, .int 1), (3, .int 5), (2, .int 0), (0, .ref h0), (1, .int p0)]) hx hb dX11_faults_35 hl (by decide) rfl (fun ls hl => ?_)
    refine lv_iload hx hb dX11_faults_37 (lv_at hl 0 rfl) ?_
    refine lv_iconst (v := 2) hx hb dX11_faults_39 (by decide) ?_
    refine lv_icmp_ne (tgt := 50) hx hb dX11_faults_40 (by decide) (fun _ => ?_) (fun c_ => absurd c_ (by decide))
    refine lv_iload_n hx hb dX11_faults_50 rfl (lv_at hl 2 rfl) ?_
    refine lv_iload hx hb dX11_faults_51 (lv_at hl 0 rfl) ?_
    refine lv_if_ne (tgt := 68) hx hb dX11_faults_53 (by decide) (fun _ => ?_) (fun c_ => absurd c_ (by decide))
    refine lv_iconst (v := 0) hx hb dX11_faults_68 (by decide) ?_
    refine va_mmax hx hb (by rw [hml]; exact hl.1.symm) hown (ht _ q3_40) (ht _ q3_41) (ht _ q1_16) (ht _ q3_42) (by decide) (Nat.le_of_ble_eq_true rfl) (by decide) (by decide) dX11_faults_69 ?_
    refine W.eq (g2 := F0 m 72 ls [.int 0]) rfl ?_
    refine lv_istore_n (lv' := [(2, .int 0), (4, .int 1), (3, .int 5), (0, .ref h0), (1, .int p0)]) hx hb dX11_faults_72 rfl hl (by decide) rfl (fun ls hl => ?_)
    refine lv_iinc (v := 6) (lv' := [(3, .int 6), (2, .int 0), (4, .int 1), (0, .ref h0), (1, .int p0)]) hx hb dX11_faults_73 hl (k := 2) rfl (by decide) (by decide) rfl (fun ls hl => ?_)
    refine lv_goto (tgt := 20) hx hb dX11_faults_76 (by decide) ?_
    refine lv_iload_n hx hb dX11_faults_20 rfl (lv_at hl 0 rfl) ?_
    refine lv_bipush (v := 6) hx hb dX11_faults_21 (by decide) ?_
    refine lv_icmp_ge (tgt := 79) hx hb dX11_faults_23 (by decide) (fun _ => ?_) (fun c_ => absurd c_ (by decide))
    refine lv_aload_n hx hb dX11_faults_79 rfl (lv_at hl 3 rfl) ?_
    refine va_get (D := D) (ci := 9) (v := .ref (r 4)) (C := "TuneSchool") (T := TX11) (N := 17) hx hb ht iX11 hown hK hP 0 rfl rfl 4 (by decide) (ht _ q1_211) (fun _ h9 => h9) rfl dX11_faults_80 ?_
    refine lv_iload_n hx hb dX11_faults_83 rfl (lv_at hl 4 rfl) ?_
    refine ldN hx hb hK hP 2 4 rfl rfl (vin (by omega) (by omega)) rfl dX11_faults_84 ?_
    refine lv_astore_nN (lv' := [(3, .null), (2, .int 0), (4, .int 1), (0, .ref h0), (1, .int p0)]) hx hb dX11_faults_85 rfl hl (by decide) rfl (fun ls hl => ?_)
    refine lv_aload_nN hx hb dX11_faults_86 rfl (lv_at hl 0 rfl) ?_
    refine lv_ifnonnullN hx hb dX11_faults_87 ?_
    refine lv_aload_n hx hb dX11_faults_90 rfl (lv_at hl 3 rfl) ?_
    refine lv_iconst (v := 1) hx hb dX11_faults_91 (by decide) ?_
    refine afterI (wr := [((r 0), .inl (k 3, 6, .inr (.inr (.inr (.inr vf))))), ((r 4), .inl (k 4, 16, .inr (.inr (.inr (.inr (fun _ => none)))))), ((w 0), .inr (8, oX10 (rs 0) f0)), ((w 1), .inr (8, oX10 (rs 1) f0)), ((w 2), .inr (8, oX10 (rs 2) f0)), ((w 3), .inr (8, oX10 (rs 3) f0)), ((w 4), .inr (8, oX10 (rs 4) f0)), ((w 5), .inr (8, oX10 (rs 5) f0))]) (xV (fr := 0) (lo := 0) (mc := 0) (ms := 0) (As := [.int 1]) (rest := []) (wc := [(h0, .inr (9, oX11 r f9))]) ⟨hx, hb, hml, hown, ht⟩ (c_X11_finding l D k h0 r f9 1 _) hK hN (hP.sub (ws' := [(h0, .inr (9, oX11 r f9))]) [0] rfl) (hD.sub (ws' := [(h0, .inr (9, oX11 r f9))]) [0] (by decide) rfl) 9 0 rfl rfl rfl q2_26 q2_28 qs_0 q1_1 q2_29 md_X11_finding ⟨by decide, by decide⟩ rfl hl.1 rfl (Nat.le_of_ble_eq_true rfl) dX11_faults_92 ⟨by decide, by decide⟩) hP hD hS hA [0] [1, 2, 3, 4, 5, 6, 7, 8] rfl rfl rfl (by decide) (fun r_18 u_19 H locs h_20 hP hD hS => ?_)
    obtain rfl : r_18 = (-11) := h_20.trans (by decide)
    have hP : va_P D clsL [((r 0), .inl (k 3, 6, .inr (.inr (.inr (.inr vf))))), ((r 4), .inl (k 4, 16, .inr (.inr (.inr (.inr (fun _ => none)))))), ((w 0), .inr (8, oX10 (rs 0) f0)), ((w 1), .inr (8, oX10 (rs 1) f0)), ((w 2), .inr (8, oX10 (rs 2) f0)), ((w 3), .inr (8, oX10 (rs 3) f0)), ((w 4), .inr (8, oX10 (rs 4) f0)), ((w 5), .inr (8, oX10 (rs 5) f0))] H := hP
    have hD : va_D A [((r 0), .inl (k 3, 6, .inr (.inr (.inr (.inr vf))))), ((r 4), .inl (k 4, 16, .inr (.inr (.inr (.inr (fun _ => none)))))), ((w 0), .inr (8, oX10 (rs 0) f0)), ((w 1), .inr (8, oX10 (rs 1) f0)), ((w 2), .inr (8, oX10 (rs 2) f0)), ((w 3), .inr (8, oX10 (rs 3) f0)), ((w 4), .inr (8, oX10 (rs 4) f0)), ((w 5), .inr (8, oX10 (rs 5) f0))] := hD
    exact W.iret (v := (-11)) hx hb hr (fun t ht hW => ⟨⟨(-11), (), rfl, (by first | (unfold an_faults; (repeat' split) <;> first | rfl | (exfalso; omega)) | rfl | decide), nilP, nilD⟩, hS.F ht⟩) hS.2.2 dX11_faults_95
  · skip
    refine lv_if_ne (tgt := 9) hx hb dX11_faults_4 (by decide) (fun c_ => absurd c_ (by decide)) (fun _ => ?_)
    refine lv_iconst (v := (-1)) hx hb dX11_faults_7 (by decide) ?_
    exact W.iret (v := (-1)) hx hb hr (fun t ht hW => ⟨⟨(-1), (), rfl, (by first | (unfold an_faults; (repeat' split) <;> first | rfl | (exfalso; omega)) | rfl | decide), nilP, nilD⟩, hS.F ht⟩) hS.2.2 dX11_faults_8
set_option maxHeartbeats 400000 in
set_option maxRecDepth 100000 in
theorem c_X11_voicesThere (l : Launch) (D : va_G) (k : Nat → ClassId) (h0 : Nat) (r : Nat → Nat) (vf : Nat → Option Nat) (w : Nat → Nat) (rs : Nat → Nat → Nat) (hq : ∀ j, j < 6 → vf j = some (w j)) : CP l yX11_voicesThere cX11_voicesThere 3 (some .int) 0 0 D k [(h0, .inr (9, oX11 r f9)), ((r 0), .inl (k 3, 6, .inr (.inr (.inr (.inr vf))))), ((w 0), .inr (8, oX10 (rs 0) f0)), ((w 1), .inr (8, oX10 (rs 1) f0)), ((w 2), .inr (8, oX10 (rs 2) f0)), ((w 3), .inr (8, oX10 (rs 3) f0)), ((w 4), .inr (8, oX10 (rs 4) f0)), ((w 5), .inr (8, oX10 (rs 5) f0))] [.ref h0] (fun r => r = 0) := by
  intro sz
  refine mtX (Qc := fun _ => vp_Si (fun r => r = 0)) (free := fun _ _ => False) (by decide) (Nat.le_of_ble_eq_true rfl) ?_
  intro p e s m below meth c ls A hB hl
  obtain ⟨hx, hb, hml, hr, hlocks, hnm, hown, ht, hK, hN, hA, hP, hD, hS⟩ := hB
  have hl : lv_has ls 3 [(0, .ref h0)] := hl
  refine lv_iconst (v := 0) hx hb dX11_voicesThere_0 (by decide) ?_
  refine lv_istore_n (lv' := [(1, .int 0), (0, .ref h0)]) hx hb dX11_voicesThere_1 rfl hl (by decide) rfl (fun ls hl => ?_)
  refine lv_iconst (v := 0) hx hb dX11_voicesThere_2 (by decide) ?_
  refine lv_istore_n (lv' := [(2, .int 0), (1, .int 0), (0, .ref h0)]) hx hb dX11_voicesThere_3 rfl hl (by decide) rfl (fun ls hl => ?_)
  refine lv_iload_n hx hb dX11_voicesThere_4 rfl (lv_at hl 0 rfl) ?_
  refine lv_bipush (v := 6) hx hb dX11_voicesThere_5 (by decide) ?_
  refine lv_icmp_ge (tgt := 36) hx hb dX11_voicesThere_7 (by decide) (fun c_ => absurd c_ (by decide)) (fun _ => ?_)
  refine lv_iload_n hx hb dX11_voicesThere_10 rfl (lv_at hl 1 rfl) ?_
  refine lv_aload_n hx hb dX11_voicesThere_11 rfl (lv_at hl 2 rfl) ?_
  refine va_get (D := D) (ci := 9) (v := .ref (r 0)) (C := "TuneSchool") (T := TX11) (N := 17) hx hb ht iX11 hown hK hP 0 rfl rfl 0 (by decide) (ht _ q1_207) (fun _ h9 => h9) rfl dX11_voicesThere_12 ?_
  refine lv_iload_n hx hb dX11_voicesThere_15 rfl (lv_at hl 0 rfl) ?_
  refine ldQ (w := (w 0)) hx hb hK hP 1 3 rfl rfl (vin (by decide) (by decide)) (hq 0 (by decide)) dX11_voicesThere_16 ?_
  refine va_get (D := D) (ci := 8) (v := .int 0) (C := "TuneSchool$Voice") (T := TX10) (N := 5) hx hb ht iX10 hown hK hP 2 rfl rfl 4 (by decide) (ht _ q1_46) (fun _ h9 => h9) rfl dX11_voicesThere_17 ?_
  refine lv_if_eq (tgt := 27) hx hb dX11_voicesThere_20 (by decide) (fun _ => ?_) (fun c_ => absurd c_ (by decide))
  refine lv_iconst (v := 0) hx hb dX11_voicesThere_27 (by decide) ?_
  refine ev_iadd (v := 0) hx hb dX11_voicesThere_28 (by decide) ?_
  refine lv_istore_n (lv' := [(1, .int 0), (2, .int 0), (0, .ref h0)]) hx hb dX11_voicesThere_29 rfl hl (by decide) rfl (fun ls hl => ?_)
  refine lv_iinc (v := 1) (lv' := [(2, .int 1), (1, .int 0), (0, .ref h0)]) hx hb dX11_voicesThere_30 hl (k := 1) rfl (by decide) (by decide) rfl (fun ls hl => ?_)
  refine lv_goto (tgt := 4) hx hb dX11_voicesThere_33 (by decide) ?_
  refine lv_iload_n hx hb dX11_voicesThere_4 rfl (lv_at hl 0 rfl) ?_
  refine lv_bipush (v := 6) hx hb dX11_voicesThere_5 (by decide) ?_
  refine lv_icmp_ge (tgt := 36) hx hb dX11_voicesThere_7 (by decide) (fun c_ => absurd c_ (by decide)) (fun _ => ?_)
  refine lv_iload_n hx hb dX11_voicesThere_10 rfl (lv_at hl 1 rfl) ?_
  refine lv_aload_n hx hb dX11_voicesThere_11 rfl (lv_at hl 2 rfl) ?_
  refine va_get (D := D) (ci := 9) (v := .ref (r 0)) (C := "TuneSchool") (T := TX11) (N := 17) hx hb ht iX11 hown hK hP 0 rfl rfl 0 (by decide) (ht _ q1_207) (fun _ h9 => h9) rfl dX11_voicesThere_12 ?_
  refine lv_iload_n hx hb dX11_voicesThere_15 rfl (lv_at hl 0 rfl) ?_
  refine ldQ (w := (w 1)) hx hb hK hP 1 3 rfl rfl (vin (by decide) (by decide)) (hq 1 (by decide)) dX11_voicesThere_16 ?_
  refine va_get (D := D) (ci := 8) (v := .int 0) (C := "TuneSchool$Voice") (T := TX10) (N := 5) hx hb ht iX10 hown hK hP 3 rfl rfl 4 (by decide) (ht _ q1_46) (fun _ h9 => h9) rfl dX11_voicesThere_17 ?_
  refine lv_if_eq (tgt := 27) hx hb dX11_voicesThere_20 (by decide) (fun _ => ?_) (fun c_ => absurd c_ (by decide))
  refine lv_iconst (v := 0) hx hb dX11_voicesThere_27 (by decide) ?_
  refine ev_iadd (v := 0) hx hb dX11_voicesThere_28 (by decide) ?_
  refine lv_istore_n (lv' := [(1, .int 0), (2, .int 1), (0, .ref h0)]) hx hb dX11_voicesThere_29 rfl hl (by decide) rfl (fun ls hl => ?_)
  refine lv_iinc (v := 2) (lv' := [(2, .int 2), (1, .int 0), (0, .ref h0)]) hx hb dX11_voicesThere_30 hl (k := 1) rfl (by decide) (by decide) rfl (fun ls hl => ?_)
  refine lv_goto (tgt := 4) hx hb dX11_voicesThere_33 (by decide) ?_
  refine lv_iload_n hx hb dX11_voicesThere_4 rfl (lv_at hl 0 rfl) ?_
  refine lv_bipush (v := 6) hx hb dX11_voicesThere_5 (by decide) ?_
  refine lv_icmp_ge (tgt := 36) hx hb dX11_voicesThere_7 (by decide) (fun c_ => absurd c_ (by decide)) (fun _ => ?_)
  refine lv_iload_n hx hb dX11_voicesThere_10 rfl (lv_at hl 1 rfl) ?_
  refine lv_aload_n hx hb dX11_voicesThere_11 rfl (lv_at hl 2 rfl) ?_
  refine va_get (D := D) (ci := 9) (v := .ref (r 0)) (C := "TuneSchool") (T := TX11) (N := 17) hx hb ht iX11 hown hK hP 0 rfl rfl 0 (by decide) (ht _ q1_207) (fun _ h9 => h9) rfl dX11_voicesThere_12 ?_
  refine lv_iload_n hx hb dX11_voicesThere_15 rfl (lv_at hl 0 rfl) ?_
  refine ldQ (w := (w 2)) hx hb hK hP 1 3 rfl rfl (vin (by decide) (by decide)) (hq 2 (by decide)) dX11_voicesThere_16 ?_
  refine va_get (D := D) (ci := 8) (v := .int 0) (C := "TuneSchool$Voice") (T := TX10) (N := 5) hx hb ht iX10 hown hK hP 4 rfl rfl 4 (by decide) (ht _ q1_46) (fun _ h9 => h9) rfl dX11_voicesThere_17 ?_
  refine lv_if_eq (tgt := 27) hx hb dX11_voicesThere_20 (by decide) (fun _ => ?_) (fun c_ => absurd c_ (by decide))
  refine lv_iconst (v := 0) hx hb dX11_voicesThere_27 (by decide) ?_
  refine ev_iadd (v := 0) hx hb dX11_voicesThere_28 (by decide) ?_
  refine lv_istore_n (lv' := [(1, .int 0), (2, .int 2), (0, .ref h0)]) hx hb dX11_voicesThere_29 rfl hl (by decide) rfl (fun ls hl => ?_)
  refine lv_iinc (v := 3) (lv' := [(2, .int 3), (1, .int 0), (0, .ref h0)]) hx hb dX11_voicesThere_30 hl (k := 1) rfl (by decide) (by decide) rfl (fun ls hl => ?_)
  refine lv_goto (tgt := 4) hx hb dX11_voicesThere_33 (by decide) ?_
  refine lv_iload_n hx hb dX11_voicesThere_4 rfl (lv_at hl 0 rfl) ?_
  refine lv_bipush (v := 6) hx hb dX11_voicesThere_5 (by decide) ?_
  refine lv_icmp_ge (tgt := 36) hx hb dX11_voicesThere_7 (by decide) (fun c_ => absurd c_ (by decide)) (fun _ => ?_)
  refine lv_iload_n hx hb dX11_voicesThere_10 rfl (lv_at hl 1 rfl) ?_
  refine lv_aload_n hx hb dX11_voicesThere_11 rfl (lv_at hl 2 rfl) ?_
  refine va_get (D := D) (ci := 9) (v := .ref (r 0)) (C := "TuneSchool") (T := TX11) (N := 17) hx hb ht iX11 hown hK hP 0 rfl rfl 0 (by decide) (ht _ q1_207) (fun _ h9 => h9) rfl dX11_voicesThere_12 ?_
  refine lv_iload_n hx hb dX11_voicesThere_15 rfl (lv_at hl 0 rfl) ?_
  refine ldQ (w := (w 3)) hx hb hK hP 1 3 rfl rfl (vin (by decide) (by decide)) (hq 3 (by decide)) dX11_voicesThere_16 ?_
  refine va_get (D := D) (ci := 8) (v := .int 0) (C := "TuneSchool$Voice") (T := TX10) (N := 5) hx hb ht iX10 hown hK hP 5 rfl rfl 4 (by decide) (ht _ q1_46) (fun _ h9 => h9) rfl dX11_voicesThere_17 ?_
  refine lv_if_eq (tgt := 27) hx hb dX11_voicesThere_20 (by decide) (fun _ => ?_) (fun c_ => absurd c_ (by decide))
  refine lv_iconst (v := 0) hx hb dX11_voicesThere_27 (by decide) ?_
  refine ev_iadd (v := 0) hx hb dX11_voicesThere_28 (by decide) ?_
  refine lv_istore_n (lv' := [(1, .int 0), (2, .int 3), (0, .ref h0)]) hx hb dX11_voicesThere_29 rfl hl (by decide) rfl (fun ls hl => ?_)
  refine lv_iinc (v := 4) (lv' := [(2, .int 4), (1, .int 0), (0, .ref h0)]) hx hb dX11_voicesThere_30 hl (k := 1) rfl (by decide) (by decide) rfl (fun ls hl => ?_)
  refine lv_goto (tgt := 4) hx hb dX11_voicesThere_33 (by decide) ?_
  refine lv_iload_n hx hb dX11_voicesThere_4 rfl (lv_at hl 0 rfl) ?_
  refine lv_bipush (v := 6) hx hb dX11_voicesThere_5 (by decide) ?_
  refine lv_icmp_ge (tgt := 36) hx hb dX11_voicesThere_7 (by decide) (fun c_ => absurd c_ (by decide)) (fun _ => ?_)
  refine lv_iload_n hx hb dX11_voicesThere_10 rfl (lv_at hl 1 rfl) ?_
  refine lv_aload_n hx hb dX11_voicesThere_11 rfl (lv_at hl 2 rfl) ?_
  refine va_get (D := D) (ci := 9) (v := .ref (r 0)) (C := "TuneSchool") (T := TX11) (N := 17) hx hb ht iX11 hown hK hP 0 rfl rfl 0 (by decide) (ht _ q1_207) (fun _ h9 => h9) rfl dX11_voicesThere_12 ?_
  refine lv_iload_n hx hb dX11_voicesThere_15 rfl (lv_at hl 0 rfl) ?_
  refine ldQ (w := (w 4)) hx hb hK hP 1 3 rfl rfl (vin (by decide) (by decide)) (hq 4 (by decide)) dX11_voicesThere_16 ?_
  refine va_get (D := D) (ci := 8) (v := .int 0) (C := "TuneSchool$Voice") (T := TX10) (N := 5) hx hb ht iX10 hown hK hP 6 rfl rfl 4 (by decide) (ht _ q1_46) (fun _ h9 => h9) rfl dX11_voicesThere_17 ?_
  refine lv_if_eq (tgt := 27) hx hb dX11_voicesThere_20 (by decide) (fun _ => ?_) (fun c_ => absurd c_ (by decide))
  refine lv_iconst (v := 0) hx hb dX11_voicesThere_27 (by decide) ?_
  refine ev_iadd (v := 0) hx hb dX11_voicesThere_28 (by decide) ?_
  refine lv_istore_n (lv' := [(1, .int 0), (2, .int 4), (0, .ref h0)]) hx hb dX11_voicesThere_29 rfl hl (by decide) rfl (fun ls hl => ?_)
  refine lv_iinc (v := 5) (lv' := [(2, .int 5), (1, .int 0), (0, .ref h0)]) hx hb dX11_voicesThere_30 hl (k := 1) rfl (by decide) (by decide) rfl (fun ls hl => ?_)
  refine lv_goto (tgt := 4) hx hb dX11_voicesThere_33 (by decide) ?_
  refine lv_iload_n hx hb dX11_voicesThere_4 rfl (lv_at hl 0 rfl) ?_
  refine lv_bipush (v := 6) hx hb dX11_voicesThere_5 (by decide) ?_
  refine lv_icmp_ge (tgt := 36) hx hb dX11_voicesThere_7 (by decide) (fun c_ => absurd c_ (by decide)) (fun _ => ?_)
  refine lv_iload_n hx hb dX11_voicesThere_10 rfl (lv_at hl 1 rfl) ?_
  refine lv_aload_n hx hb dX11_voicesThere_11 rfl (lv_at hl 2 rfl) ?_
  refine va_get (D := D) (ci := 9) (v := .ref (r 0)) (C := "TuneSchool") (T := TX11) (N := 17) hx hb ht iX11 hown hK hP 0 rfl rfl 0 (by decide) (ht _ q1_207) (fun _ h9 => h9) rfl dX11_voicesThere_12 ?_
  refine lv_iload_n hx hb dX11_voicesThere_15 rfl (lv_at hl 0 rfl) ?_
  refine ldQ (w := (w 5)) hx hb hK hP 1 3 rfl rfl (vin (by decide) (by decide)) (hq 5 (by decide)) dX11_voicesThere_16 ?_
  refine va_get (D := D) (ci := 8) (v := .int 0) (C := "TuneSchool$Voice") (T := TX10) (N := 5) hx hb ht iX10 hown hK hP 7 rfl rfl 4 (by decide) (ht _ q1_46) (fun _ h9 => h9) rfl dX11_voicesThere_17 ?_
  refine lv_if_eq (tgt := 27) hx hb dX11_voicesThere_20 (by decide) (fun _ => ?_) (fun c_ => absurd c_ (by decide))
  refine lv_iconst (v := 0) hx hb dX11_voicesThere_27 (by decide) ?_
  refine ev_iadd (v := 0) hx hb dX11_voicesThere_28 (by decide) ?_
  refine lv_istore_n (lv' := [(1, .int 0), (2, .int 5), (0, .ref h0)]) hx hb dX11_voicesThere_29 rfl hl (by decide) rfl (fun ls hl => ?_)
  refine lv_iinc (v := 6) (lv' := [(2, .int 6), (1, .int 0), (0, .ref h0)]) hx hb dX11_voicesThere_30 hl (k := 1) rfl (by decide) (by decide) rfl (fun ls hl => ?_)
  refine lv_goto (tgt := 4) hx hb dX11_voicesThere_33 (by decide) ?_
  refine lv_iload_n hx hb dX11_voicesThere_4 rfl (lv_at hl 0 rfl) ?_
  refine lv_bipush (v := 6) hx hb dX11_voicesThere_5 (by decide) ?_
  refine lv_icmp_ge (tgt := 36) hx hb dX11_voicesThere_7 (by decide) (fun _ => ?_) (fun c_ => absurd c_ (by decide))
  refine lv_iload_n hx hb dX11_voicesThere_36 rfl (lv_at hl 1 rfl) ?_
  exact W.iret (v := 0) hx hb hr (fun t ht hW => ⟨0, rfl, rfl, ht⟩) (fun _ h => by cases h) dX11_voicesThere_37
set_option maxHeartbeats 400000 in
set_option maxRecDepth 100000 in
theorem c_X11_placesTaken (l : Launch) (D : va_G) (k : Nat → ClassId) (h0 : Nat) (r : Nat → Nat) : CP l yX11_placesTaken cX11_placesTaken 3 (some .int) 0 0 D k [(h0, .inr (9, oX11 r f9)), ((r 4), .inl (k 4, 16, .inr (.inr (.inr (.inr (fun _ => none))))))] [.ref h0] (fun r => r = 0) := by
  intro sz
  refine mtX (Qc := fun _ => vp_Si (fun r => r = 0)) (free := fun _ _ => False) (by decide) (Nat.le_of_ble_eq_true rfl) ?_
  intro p e s m below meth c ls A hB hl
  obtain ⟨hx, hb, hml, hr, hlocks, hnm, hown, ht, hK, hN, hA, hP, hD, hS⟩ := hB
  have hl : lv_has ls 3 [(0, .ref h0)] := hl
  refine lv_iconst (v := 0) hx hb dX11_placesTaken_0 (by decide) ?_
  refine lv_istore_n (lv' := [(1, .int 0), (0, .ref h0)]) hx hb dX11_placesTaken_1 rfl hl (by decide) rfl (fun ls hl => ?_)
  refine lv_iconst (v := 0) hx hb dX11_placesTaken_2 (by decide) ?_
  refine lv_istore_n (lv' := [(2, .int 0), (1, .int 0), (0, .ref h0)]) hx hb dX11_placesTaken_3 rfl hl (by decide) rfl (fun ls hl => ?_)
  refine lv_iload_n hx hb dX11_placesTaken_4 rfl (lv_at hl 0 rfl) ?_
  refine lv_bipush (v := 16) hx hb dX11_placesTaken_5 (by decide) ?_
  refine lv_icmp_ge (tgt := 33) hx hb dX11_placesTaken_7 (by decide) (fun c_ => absurd c_ (by decide)) (fun _ => ?_)
  refine lv_iload_n hx hb dX11_placesTaken_10 rfl (lv_at hl 1 rfl) ?_
  refine lv_aload_n hx hb dX11_placesTaken_11 rfl (lv_at hl 2 rfl) ?_
  refine va_get (D := D) (ci := 9) (v := .ref (r 4)) (C := "TuneSchool") (T := TX11) (N := 17) hx hb ht iX11 hown hK hP 0 rfl rfl 4 (by decide) (ht _ q1_211) (fun _ h9 => h9) rfl dX11_placesTaken_12 ?_
  refine lv_iload_n hx hb dX11_placesTaken_15 rfl (lv_at hl 0 rfl) ?_
  refine ldN hx hb hK hP 1 4 rfl rfl (vin (by decide) (by decide)) rfl dX11_placesTaken_16 ?_
  refine lv_ifnullN (tgt := 24) hx hb dX11_placesTaken_17 (by decide) ?_
  refine lv_iconst (v := 0) hx hb dX11_placesTaken_24 (by decide) ?_
  refine ev_iadd (v := 0) hx hb dX11_placesTaken_25 (by decide) ?_
  refine lv_istore_n (lv' := [(1, .int 0), (2, .int 0), (0, .ref h0)]) hx hb dX11_placesTaken_26 rfl hl (by decide) rfl (fun ls hl => ?_)
  refine lv_iinc (v := 1) (lv' := [(2, .int 1), (1, .int 0), (0, .ref h0)]) hx hb dX11_placesTaken_27 hl (k := 1) rfl (by decide) (by decide) rfl (fun ls hl => ?_)
  refine lv_goto (tgt := 4) hx hb dX11_placesTaken_30 (by decide) ?_
  refine lv_iload_n hx hb dX11_placesTaken_4 rfl (lv_at hl 0 rfl) ?_
  refine lv_bipush (v := 16) hx hb dX11_placesTaken_5 (by decide) ?_
  refine lv_icmp_ge (tgt := 33) hx hb dX11_placesTaken_7 (by decide) (fun c_ => absurd c_ (by decide)) (fun _ => ?_)
  refine lv_iload_n hx hb dX11_placesTaken_10 rfl (lv_at hl 1 rfl) ?_
  refine lv_aload_n hx hb dX11_placesTaken_11 rfl (lv_at hl 2 rfl) ?_
  refine va_get (D := D) (ci := 9) (v := .ref (r 4)) (C := "TuneSchool") (T := TX11) (N := 17) hx hb ht iX11 hown hK hP 0 rfl rfl 4 (by decide) (ht _ q1_211) (fun _ h9 => h9) rfl dX11_placesTaken_12 ?_
  refine lv_iload_n hx hb dX11_placesTaken_15 rfl (lv_at hl 0 rfl) ?_
  refine ldN hx hb hK hP 1 4 rfl rfl (vin (by decide) (by decide)) rfl dX11_placesTaken_16 ?_
  refine lv_ifnullN (tgt := 24) hx hb dX11_placesTaken_17 (by decide) ?_
  refine lv_iconst (v := 0) hx hb dX11_placesTaken_24 (by decide) ?_
  refine ev_iadd (v := 0) hx hb dX11_placesTaken_25 (by decide) ?_
  refine lv_istore_n (lv' := [(1, .int 0), (2, .int 1), (0, .ref h0)]) hx hb dX11_placesTaken_26 rfl hl (by decide) rfl (fun ls hl => ?_)
  refine lv_iinc (v := 2) (lv' := [(2, .int 2), (1, .int 0), (0, .ref h0)]) hx hb dX11_placesTaken_27 hl (k := 1) rfl (by decide) (by decide) rfl (fun ls hl => ?_)
  refine lv_goto (tgt := 4) hx hb dX11_placesTaken_30 (by decide) ?_
  refine lv_iload_n hx hb dX11_placesTaken_4 rfl (lv_at hl 0 rfl) ?_
  refine lv_bipush (v := 16) hx hb dX11_placesTaken_5 (by decide) ?_
  refine lv_icmp_ge (tgt := 33) hx hb dX11_placesTaken_7 (by decide) (fun c_ => absurd c_ (by decide)) (fun _ => ?_)
  refine lv_iload_n hx hb dX11_placesTaken_10 rfl (lv_at hl 1 rfl) ?_
  refine lv_aload_n hx hb dX11_placesTaken_11 rfl (lv_at hl 2 rfl) ?_
  refine va_get (D := D) (ci := 9) (v := .ref (r 4)) (C := "TuneSchool") (T := TX11) (N := 17) hx hb ht iX11 hown hK hP 0 rfl rfl 4 (by decide) (ht _ q1_211) (fun _ h9 => h9) rfl dX11_placesTaken_12 ?_
  refine lv_iload_n hx hb dX11_placesTaken_15 rfl (lv_at hl 0 rfl) ?_
  refine ldN hx hb hK hP 1 4 rfl rfl (vin (by decide) (by decide)) rfl dX11_placesTaken_16 ?_
  refine lv_ifnullN (tgt := 24) hx hb dX11_placesTaken_17 (by decide) ?_
  refine lv_iconst (v := 0) hx hb dX11_placesTaken_24 (by decide) ?_
  refine ev_iadd (v := 0) hx hb dX11_placesTaken_25 (by decide) ?_
  refine lv_istore_n (lv' := [(1, .int 0), (2, .int 2), (0, .ref h0)]) hx hb dX11_placesTaken_26 rfl hl (by decide) rfl (fun ls hl => ?_)
  refine lv_iinc (v := 3) (lv' := [(2, .int 3), (1, .int 0), (0, .ref h0)]) hx hb dX11_placesTaken_27 hl (k := 1) rfl (by decide) (by decide) rfl (fun ls hl => ?_)
  refine lv_goto (tgt := 4) hx hb dX11_placesTaken_30 (by decide) ?_
  refine lv_iload_n hx hb dX11_placesTaken_4 rfl (lv_at hl 0 rfl) ?_
  refine lv_bipush (v := 16) hx hb dX11_placesTaken_5 (by decide) ?_
  refine lv_icmp_ge (tgt := 33) hx hb dX11_placesTaken_7 (by decide) (fun c_ => absurd c_ (by decide)) (fun _ => ?_)
  refine lv_iload_n hx hb dX11_placesTaken_10 rfl (lv_at hl 1 rfl) ?_
  refine lv_aload_n hx hb dX11_placesTaken_11 rfl (lv_at hl 2 rfl) ?_
  refine va_get (D := D) (ci := 9) (v := .ref (r 4)) (C := "TuneSchool") (T := TX11) (N := 17) hx hb ht iX11 hown hK hP 0 rfl rfl 4 (by decide) (ht _ q1_211) (fun _ h9 => h9) rfl dX11_placesTaken_12 ?_
  refine lv_iload_n hx hb dX11_placesTaken_15 rfl (lv_at hl 0 rfl) ?_
  refine ldN hx hb hK hP 1 4 rfl rfl (vin (by decide) (by decide)) rfl dX11_placesTaken_16 ?_
  refine lv_ifnullN (tgt := 24) hx hb dX11_placesTaken_17 (by decide) ?_
  refine lv_iconst (v := 0) hx hb dX11_placesTaken_24 (by decide) ?_
  refine ev_iadd (v := 0) hx hb dX11_placesTaken_25 (by decide) ?_
  refine lv_istore_n (lv' := [(1, .int 0), (2, .int 3), (0, .ref h0)]) hx hb dX11_placesTaken_26 rfl hl (by decide) rfl (fun ls hl => ?_)
  refine lv_iinc (v := 4) (lv' := [(2, .int 4), (1, .int 0), (0, .ref h0)]) hx hb dX11_placesTaken_27 hl (k := 1) rfl (by decide) (by decide) rfl (fun ls hl => ?_)
  refine lv_goto (tgt := 4) hx hb dX11_placesTaken_30 (by decide) ?_
  refine lv_iload_n hx hb dX11_placesTaken_4 rfl (lv_at hl 0 rfl) ?_
  refine lv_bipush (v := 16) hx hb dX11_placesTaken_5 (by decide) ?_
  refine lv_icmp_ge (tgt := 33) hx hb dX11_placesTaken_7 (by decide) (fun c_ => absurd c_ (by decide)) (fun _ => ?_)
  refine lv_iload_n hx hb dX11_placesTaken_10 rfl (lv_at hl 1 rfl) ?_
  refine lv_aload_n hx hb dX11_placesTaken_11 rfl (lv_at hl 2 rfl) ?_
  refine va_get (D := D) (ci := 9) (v := .ref (r 4)) (C := "TuneSchool") (T := TX11) (N := 17) hx hb ht iX11 hown hK hP 0 rfl rfl 4 (by decide) (ht _ q1_211) (fun _ h9 => h9) rfl dX11_placesTaken_12 ?_
  refine lv_iload_n hx hb dX11_placesTaken_15 rfl (lv_at hl 0 rfl) ?_
  refine ldN hx hb hK hP 1 4 rfl rfl (vin (by decide) (by decide)) rfl dX11_placesTaken_16 ?_
  refine lv_ifnullN (tgt := 24) hx hb dX11_placesTaken_17 (by decide) ?_
  refine lv_iconst (v := 0) hx hb dX11_placesTaken_24 (by decide) ?_
  refine ev_iadd (v := 0) hx hb dX11_placesTaken_25 (by decide) ?_
  refine lv_istore_n (lv' := [(1, .int 0), (2, .int 4), (0, .ref h0)]) hx hb dX11_placesTaken_26 rfl hl (by decide) rfl (fun ls hl => ?_)
  refine lv_iinc (v := 5) (lv' := [(2, .int 5), (1, .int 0), (0, .ref h0)]) hx hb dX11_placesTaken_27 hl (k := 1) rfl (by decide) (by decide) rfl (fun ls hl => ?_)
  refine lv_goto (tgt := 4) hx hb dX11_placesTaken_30 (by decide) ?_
  refine lv_iload_n hx hb dX11_placesTaken_4 rfl (lv_at hl 0 rfl) ?_
  refine lv_bipush (v := 16) hx hb dX11_placesTaken_5 (by decide) ?_
  refine lv_icmp_ge (tgt := 33) hx hb dX11_placesTaken_7 (by decide) (fun c_ => absurd c_ (by decide)) (fun _ => ?_)
  refine lv_iload_n hx hb dX11_placesTaken_10 rfl (lv_at hl 1 rfl) ?_
  refine lv_aload_n hx hb dX11_placesTaken_11 rfl (lv_at hl 2 rfl) ?_
  refine va_get (D := D) (ci := 9) (v := .ref (r 4)) (C := "TuneSchool") (T := TX11) (N := 17) hx hb ht iX11 hown hK hP 0 rfl rfl 4 (by decide) (ht _ q1_211) (fun _ h9 => h9) rfl dX11_placesTaken_12 ?_
  refine lv_iload_n hx hb dX11_placesTaken_15 rfl (lv_at hl 0 rfl) ?_
  refine ldN hx hb hK hP 1 4 rfl rfl (vin (by decide) (by decide)) rfl dX11_placesTaken_16 ?_
  refine lv_ifnullN (tgt := 24) hx hb dX11_placesTaken_17 (by decide) ?_
  refine lv_iconst (v := 0) hx hb dX11_placesTaken_24 (by decide) ?_
  refine ev_iadd (v := 0) hx hb dX11_placesTaken_25 (by decide) ?_
  refine lv_istore_n (lv' := [(1, .int 0), (2, .int 5), (0, .ref h0)]) hx hb dX11_placesTaken_26 rfl hl (by decide) rfl (fun ls hl => ?_)
  refine lv_iinc (v := 6) (lv' := [(2, .int 6), (1, .int 0), (0, .ref h0)]) hx hb dX11_placesTaken_27 hl (k := 1) rfl (by decide) (by decide) rfl (fun ls hl => ?_)
  refine lv_goto (tgt := 4) hx hb dX11_placesTaken_30 (by decide) ?_
  refine lv_iload_n hx hb dX11_placesTaken_4 rfl (lv_at hl 0 rfl) ?_
  refine lv_bipush (v := 16) hx hb dX11_placesTaken_5 (by decide) ?_
  refine lv_icmp_ge (tgt := 33) hx hb dX11_placesTaken_7 (by decide) (fun c_ => absurd c_ (by decide)) (fun _ => ?_)
  refine lv_iload_n hx hb dX11_placesTaken_10 rfl (lv_at hl 1 rfl) ?_
  refine lv_aload_n hx hb dX11_placesTaken_11 rfl (lv_at hl 2 rfl) ?_
  refine va_get (D := D) (ci := 9) (v := .ref (r 4)) (C := "TuneSchool") (T := TX11) (N := 17) hx hb ht iX11 hown hK hP 0 rfl rfl 4 (by decide) (ht _ q1_211) (fun _ h9 => h9) rfl dX11_placesTaken_12 ?_
  refine lv_iload_n hx hb dX11_placesTaken_15 rfl (lv_at hl 0 rfl) ?_
  refine ldN hx hb hK hP 1 4 rfl rfl (vin (by decide) (by decide)) rfl dX11_placesTaken_16 ?_
  refine lv_ifnullN (tgt := 24) hx hb dX11_placesTaken_17 (by decide) ?_
  refine lv_iconst (v := 0) hx hb dX11_placesTaken_24 (by decide) ?_
  refine ev_iadd (v := 0) hx hb dX11_placesTaken_25 (by decide) ?_
  refine lv_istore_n (lv' := [(1, .int 0), (2, .int 6), (0, .ref h0)]) hx hb dX11_placesTaken_26 rfl hl (by decide) rfl (fun ls hl => ?_)
  refine lv_iinc (v := 7) (lv' := [(2, .int 7), (1, .int 0), (0, .ref h0)]) hx hb dX11_placesTaken_27 hl (k := 1) rfl (by decide) (by decide) rfl (fun ls hl => ?_)
  refine lv_goto (tgt := 4) hx hb dX11_placesTaken_30 (by decide) ?_
  refine lv_iload_n hx hb dX11_placesTaken_4 rfl (lv_at hl 0 rfl) ?_
  refine lv_bipush (v := 16) hx hb dX11_placesTaken_5 (by decide) ?_
  refine lv_icmp_ge (tgt := 33) hx hb dX11_placesTaken_7 (by decide) (fun c_ => absurd c_ (by decide)) (fun _ => ?_)
  refine lv_iload_n hx hb dX11_placesTaken_10 rfl (lv_at hl 1 rfl) ?_
  refine lv_aload_n hx hb dX11_placesTaken_11 rfl (lv_at hl 2 rfl) ?_
  refine va_get (D := D) (ci := 9) (v := .ref (r 4)) (C := "TuneSchool") (T := TX11) (N := 17) hx hb ht iX11 hown hK hP 0 rfl rfl 4 (by decide) (ht _ q1_211) (fun _ h9 => h9) rfl dX11_placesTaken_12 ?_
  refine lv_iload_n hx hb dX11_placesTaken_15 rfl (lv_at hl 0 rfl) ?_
  refine ldN hx hb hK hP 1 4 rfl rfl (vin (by decide) (by decide)) rfl dX11_placesTaken_16 ?_
  refine lv_ifnullN (tgt := 24) hx hb dX11_placesTaken_17 (by decide) ?_
  refine lv_iconst (v := 0) hx hb dX11_placesTaken_24 (by decide) ?_
  refine ev_iadd (v := 0) hx hb dX11_placesTaken_25 (by decide) ?_
  refine lv_istore_n (lv' := [(1, .int 0), (2, .int 7), (0, .ref h0)]) hx hb dX11_placesTaken_26 rfl hl (by decide) rfl (fun ls hl => ?_)
  refine lv_iinc (v := 8) (lv' := [(2, .int 8), (1, .int 0), (0, .ref h0)]) hx hb dX11_placesTaken_27 hl (k := 1) rfl (by decide) (by decide) rfl (fun ls hl => ?_)
  refine lv_goto (tgt := 4) hx hb dX11_placesTaken_30 (by decide) ?_
  refine lv_iload_n hx hb dX11_placesTaken_4 rfl (lv_at hl 0 rfl) ?_
  refine lv_bipush (v := 16) hx hb dX11_placesTaken_5 (by decide) ?_
  refine lv_icmp_ge (tgt := 33) hx hb dX11_placesTaken_7 (by decide) (fun c_ => absurd c_ (by decide)) (fun _ => ?_)
  refine lv_iload_n hx hb dX11_placesTaken_10 rfl (lv_at hl 1 rfl) ?_
  refine lv_aload_n hx hb dX11_placesTaken_11 rfl (lv_at hl 2 rfl) ?_
  refine va_get (D := D) (ci := 9) (v := .ref (r 4)) (C := "TuneSchool") (T := TX11) (N := 17) hx hb ht iX11 hown hK hP 0 rfl rfl 4 (by decide) (ht _ q1_211) (fun _ h9 => h9) rfl dX11_placesTaken_12 ?_
  refine lv_iload_n hx hb dX11_placesTaken_15 rfl (lv_at hl 0 rfl) ?_
  refine ldN hx hb hK hP 1 4 rfl rfl (vin (by decide) (by decide)) rfl dX11_placesTaken_16 ?_
  refine lv_ifnullN (tgt := 24) hx hb dX11_placesTaken_17 (by decide) ?_
  refine lv_iconst (v := 0) hx hb dX11_placesTaken_24 (by decide) ?_
  refine ev_iadd (v := 0) hx hb dX11_placesTaken_25 (by decide) ?_
  refine lv_istore_n (lv' := [(1, .int 0), (2, .int 8), (0, .ref h0)]) hx hb dX11_placesTaken_26 rfl hl (by decide) rfl (fun ls hl => ?_)
  refine lv_iinc (v := 9) (lv' := [(2, .int 9), (1, .int 0), (0, .ref h0)]) hx hb dX11_placesTaken_27 hl (k := 1) rfl (by decide) (by decide) rfl (fun ls hl => ?_)
  refine lv_goto (tgt := 4) hx hb dX11_placesTaken_30 (by decide) ?_
  refine lv_iload_n hx hb dX11_placesTaken_4 rfl (lv_at hl 0 rfl) ?_
  refine lv_bipush (v := 16) hx hb dX11_placesTaken_5 (by decide) ?_
  refine lv_icmp_ge (tgt := 33) hx hb dX11_placesTaken_7 (by decide) (fun c_ => absurd c_ (by decide)) (fun _ => ?_)
  refine lv_iload_n hx hb dX11_placesTaken_10 rfl (lv_at hl 1 rfl) ?_
  refine lv_aload_n hx hb dX11_placesTaken_11 rfl (lv_at hl 2 rfl) ?_
  refine va_get (D := D) (ci := 9) (v := .ref (r 4)) (C := "TuneSchool") (T := TX11) (N := 17) hx hb ht iX11 hown hK hP 0 rfl rfl 4 (by decide) (ht _ q1_211) (fun _ h9 => h9) rfl dX11_placesTaken_12 ?_
  refine lv_iload_n hx hb dX11_placesTaken_15 rfl (lv_at hl 0 rfl) ?_
  refine ldN hx hb hK hP 1 4 rfl rfl (vin (by decide) (by decide)) rfl dX11_placesTaken_16 ?_
  refine lv_ifnullN (tgt := 24) hx hb dX11_placesTaken_17 (by decide) ?_
  refine lv_iconst (v := 0) hx hb dX11_placesTaken_24 (by decide) ?_
  refine ev_iadd (v := 0) hx hb dX11_placesTaken_25 (by decide) ?_
  refine lv_istore_n (lv' := [(1, .int 0), (2, .int 9), (0, .ref h0)]) hx hb dX11_placesTaken_26 rfl hl (by decide) rfl (fun ls hl => ?_)
  refine lv_iinc (v := 10) (lv' := [(2, .int 10), (1, .int 0), (0, .ref h0)]) hx hb dX11_placesTaken_27 hl (k := 1) rfl (by decide) (by decide) rfl (fun ls hl => ?_)
  refine lv_goto (tgt := 4) hx hb dX11_placesTaken_30 (by decide) ?_
  refine lv_iload_n hx hb dX11_placesTaken_4 rfl (lv_at hl 0 rfl) ?_
  refine lv_bipush (v := 16) hx hb dX11_placesTaken_5 (by decide) ?_
  refine lv_icmp_ge (tgt := 33) hx hb dX11_placesTaken_7 (by decide) (fun c_ => absurd c_ (by decide)) (fun _ => ?_)
  refine lv_iload_n hx hb dX11_placesTaken_10 rfl (lv_at hl 1 rfl) ?_
  refine lv_aload_n hx hb dX11_placesTaken_11 rfl (lv_at hl 2 rfl) ?_
  refine va_get (D := D) (ci := 9) (v := .ref (r 4)) (C := "TuneSchool") (T := TX11) (N := 17) hx hb ht iX11 hown hK hP 0 rfl rfl 4 (by decide) (ht _ q1_211) (fun _ h9 => h9) rfl dX11_placesTaken_12 ?_
  refine lv_iload_n hx hb dX11_placesTaken_15 rfl (lv_at hl 0 rfl) ?_
  refine ldN hx hb hK hP 1 4 rfl rfl (vin (by decide) (by decide)) rfl dX11_placesTaken_16 ?_
  refine lv_ifnullN (tgt := 24) hx hb dX11_placesTaken_17 (by decide) ?_
  refine lv_iconst (v := 0) hx hb dX11_placesTaken_24 (by decide) ?_
  refine ev_iadd (v := 0) hx hb dX11_placesTaken_25 (by decide) ?_
  refine lv_istore_n (lv' := [(1, .int 0), (2, .int 10), (0, .ref h0)]) hx hb dX11_placesTaken_26 rfl hl (by decide) rfl (fun ls hl => ?_)
  refine lv_iinc (v := 11) (lv' := [(2, .int 11), (1, .int 0), (0, .ref h0)]) hx hb dX11_placesTaken_27 hl (k := 1) rfl (by decide) (by decide) rfl (fun ls hl => ?_)
  refine lv_goto (tgt := 4) hx hb dX11_placesTaken_30 (by decide) ?_
  refine lv_iload_n hx hb dX11_placesTaken_4 rfl (lv_at hl 0 rfl) ?_
  refine lv_bipush (v := 16) hx hb dX11_placesTaken_5 (by decide) ?_
  refine lv_icmp_ge (tgt := 33) hx hb dX11_placesTaken_7 (by decide) (fun c_ => absurd c_ (by decide)) (fun _ => ?_)
  refine lv_iload_n hx hb dX11_placesTaken_10 rfl (lv_at hl 1 rfl) ?_
  refine lv_aload_n hx hb dX11_placesTaken_11 rfl (lv_at hl 2 rfl) ?_
  refine va_get (D := D) (ci := 9) (v := .ref (r 4)) (C := "TuneSchool") (T := TX11) (N := 17) hx hb ht iX11 hown hK hP 0 rfl rfl 4 (by decide) (ht _ q1_211) (fun _ h9 => h9) rfl dX11_placesTaken_12 ?_
  refine lv_iload_n hx hb dX11_placesTaken_15 rfl (lv_at hl 0 rfl) ?_
  refine ldN hx hb hK hP 1 4 rfl rfl (vin (by decide) (by decide)) rfl dX11_placesTaken_16 ?_
  refine lv_ifnullN (tgt := 24) hx hb dX11_placesTaken_17 (by decide) ?_
  refine lv_iconst (v := 0) hx hb dX11_placesTaken_24 (by decide) ?_
  refine ev_iadd (v := 0) hx hb dX11_placesTaken_25 (by decide) ?_
  refine lv_istore_n (lv' := [(1, .int 0), (2, .int 11), (0, .ref h0)]) hx hb dX11_placesTaken_26 rfl hl (by decide) rfl (fun ls hl => ?_)
  refine lv_iinc (v := 12) (lv' := [(2, .int 12), (1, .int 0), (0, .ref h0)]) hx hb dX11_placesTaken_27 hl (k := 1) rfl (by decide) (by decide) rfl (fun ls hl => ?_)
  refine lv_goto (tgt := 4) hx hb dX11_placesTaken_30 (by decide) ?_
  refine lv_iload_n hx hb dX11_placesTaken_4 rfl (lv_at hl 0 rfl) ?_
  refine lv_bipush (v := 16) hx hb dX11_placesTaken_5 (by decide) ?_
  refine lv_icmp_ge (tgt := 33) hx hb dX11_placesTaken_7 (by decide) (fun c_ => absurd c_ (by decide)) (fun _ => ?_)
  refine lv_iload_n hx hb dX11_placesTaken_10 rfl (lv_at hl 1 rfl) ?_
  refine lv_aload_n hx hb dX11_placesTaken_11 rfl (lv_at hl 2 rfl) ?_
  refine va_get (D := D) (ci := 9) (v := .ref (r 4)) (C := "TuneSchool") (T := TX11) (N := 17) hx hb ht iX11 hown hK hP 0 rfl rfl 4 (by decide) (ht _ q1_211) (fun _ h9 => h9) rfl dX11_placesTaken_12 ?_
  refine lv_iload_n hx hb dX11_placesTaken_15 rfl (lv_at hl 0 rfl) ?_
  refine ldN hx hb hK hP 1 4 rfl rfl (vin (by decide) (by decide)) rfl dX11_placesTaken_16 ?_
  refine lv_ifnullN (tgt := 24) hx hb dX11_placesTaken_17 (by decide) ?_
  refine lv_iconst (v := 0) hx hb dX11_placesTaken_24 (by decide) ?_
  refine ev_iadd (v := 0) hx hb dX11_placesTaken_25 (by decide) ?_
  refine lv_istore_n (lv' := [(1, .int 0), (2, .int 12), (0, .ref h0)]) hx hb dX11_placesTaken_26 rfl hl (by decide) rfl (fun ls hl => ?_)
  refine lv_iinc (v := 13) (lv' := [(2, .int 13), (1, .int 0), (0, .ref h0)]) hx hb dX11_placesTaken_27 hl (k := 1) rfl (by decide) (by decide) rfl (fun ls hl => ?_)
  refine lv_goto (tgt := 4) hx hb dX11_placesTaken_30 (by decide) ?_
  refine lv_iload_n hx hb dX11_placesTaken_4 rfl (lv_at hl 0 rfl) ?_
  refine lv_bipush (v := 16) hx hb dX11_placesTaken_5 (by decide) ?_
  refine lv_icmp_ge (tgt := 33) hx hb dX11_placesTaken_7 (by decide) (fun c_ => absurd c_ (by decide)) (fun _ => ?_)
  refine lv_iload_n hx hb dX11_placesTaken_10 rfl (lv_at hl 1 rfl) ?_
  refine lv_aload_n hx hb dX11_placesTaken_11 rfl (lv_at hl 2 rfl) ?_
  refine va_get (D := D) (ci := 9) (v := .ref (r 4)) (C := "TuneSchool") (T := TX11) (N := 17) hx hb ht iX11 hown hK hP 0 rfl rfl 4 (by decide) (ht _ q1_211) (fun _ h9 => h9) rfl dX11_placesTaken_12 ?_
  refine lv_iload_n hx hb dX11_placesTaken_15 rfl (lv_at hl 0 rfl) ?_
  refine ldN hx hb hK hP 1 4 rfl rfl (vin (by decide) (by decide)) rfl dX11_placesTaken_16 ?_
  refine lv_ifnullN (tgt := 24) hx hb dX11_placesTaken_17 (by decide) ?_
  refine lv_iconst (v := 0) hx hb dX11_placesTaken_24 (by decide) ?_
  refine ev_iadd (v := 0) hx hb dX11_placesTaken_25 (by decide) ?_
  refine lv_istore_n (lv' := [(1, .int 0), (2, .int 13), (0, .ref h0)]) hx hb dX11_placesTaken_26 rfl hl (by decide) rfl (fun ls hl => ?_)
  refine lv_iinc (v := 14) (lv' := [(2, .int 14), (1, .int 0), (0, .ref h0)]) hx hb dX11_placesTaken_27 hl (k := 1) rfl (by decide) (by decide) rfl (fun ls hl => ?_)
  refine lv_goto (tgt := 4) hx hb dX11_placesTaken_30 (by decide) ?_
  refine lv_iload_n hx hb dX11_placesTaken_4 rfl (lv_at hl 0 rfl) ?_
  refine lv_bipush (v := 16) hx hb dX11_placesTaken_5 (by decide) ?_
  refine lv_icmp_ge (tgt := 33) hx hb dX11_placesTaken_7 (by decide) (fun c_ => absurd c_ (by decide)) (fun _ => ?_)
  refine lv_iload_n hx hb dX11_placesTaken_10 rfl (lv_at hl 1 rfl) ?_
  refine lv_aload_n hx hb dX11_placesTaken_11 rfl (lv_at hl 2 rfl) ?_
  refine va_get (D := D) (ci := 9) (v := .ref (r 4)) (C := "TuneSchool") (T := TX11) (N := 17) hx hb ht iX11 hown hK hP 0 rfl rfl 4 (by decide) (ht _ q1_211) (fun _ h9 => h9) rfl dX11_placesTaken_12 ?_
  refine lv_iload_n hx hb dX11_placesTaken_15 rfl (lv_at hl 0 rfl) ?_
  refine ldN hx hb hK hP 1 4 rfl rfl (vin (by decide) (by decide)) rfl dX11_placesTaken_16 ?_
  refine lv_ifnullN (tgt := 24) hx hb dX11_placesTaken_17 (by decide) ?_
  refine lv_iconst (v := 0) hx hb dX11_placesTaken_24 (by decide) ?_
  refine ev_iadd (v := 0) hx hb dX11_placesTaken_25 (by decide) ?_
  refine lv_istore_n (lv' := [(1, .int 0), (2, .int 14), (0, .ref h0)]) hx hb dX11_placesTaken_26 rfl hl (by decide) rfl (fun ls hl => ?_)
  refine lv_iinc (v := 15) (lv' := [(2, .int 15), (1, .int 0), (0, .ref h0)]) hx hb dX11_placesTaken_27 hl (k := 1) rfl (by decide) (by decide) rfl (fun ls hl => ?_)
  refine lv_goto (tgt := 4) hx hb dX11_placesTaken_30 (by decide) ?_
  refine lv_iload_n hx hb dX11_placesTaken_4 rfl (lv_at hl 0 rfl) ?_
  refine lv_bipush (v := 16) hx hb dX11_placesTaken_5 (by decide) ?_
  refine lv_icmp_ge (tgt := 33) hx hb dX11_placesTaken_7 (by decide) (fun c_ => absurd c_ (by decide)) (fun _ => ?_)
  refine lv_iload_n hx hb dX11_placesTaken_10 rfl (lv_at hl 1 rfl) ?_
  refine lv_aload_n hx hb dX11_placesTaken_11 rfl (lv_at hl 2 rfl) ?_
  refine va_get (D := D) (ci := 9) (v := .ref (r 4)) (C := "TuneSchool") (T := TX11) (N := 17) hx hb ht iX11 hown hK hP 0 rfl rfl 4 (by decide) (ht _ q1_211) (fun _ h9 => h9) rfl dX11_placesTaken_12 ?_
  refine lv_iload_n hx hb dX11_placesTaken_15 rfl (lv_at hl 0 rfl) ?_
  refine ldN hx hb hK hP 1 4 rfl rfl (vin (by decide) (by decide)) rfl dX11_placesTaken_16 ?_
  refine lv_ifnullN (tgt := 24) hx hb dX11_placesTaken_17 (by decide) ?_
  refine lv_iconst (v := 0) hx hb dX11_placesTaken_24 (by decide) ?_
  refine ev_iadd (v := 0) hx hb dX11_placesTaken_25 (by decide) ?_
  refine lv_istore_n (lv' := [(1, .int 0), (2, .int 15), (0, .ref h0)]) hx hb dX11_placesTaken_26 rfl hl (by decide) rfl (fun ls hl => ?_)
  refine lv_iinc (v := 16) (lv' := [(2, .int 16), (1, .int 0), (0, .ref h0)]) hx hb dX11_placesTaken_27 hl (k := 1) rfl (by decide) (by decide) rfl (fun ls hl => ?_)
  refine lv_goto (tgt := 4) hx hb dX11_placesTaken_30 (by decide) ?_
  refine lv_iload_n hx hb dX11_placesTaken_4 rfl (lv_at hl 0 rfl) ?_
  refine lv_bipush (v := 16) hx hb dX11_placesTaken_5 (by decide) ?_
  refine lv_icmp_ge (tgt := 33) hx hb dX11_placesTaken_7 (by decide) (fun _ => ?_) (fun c_ => absurd c_ (by decide))
  refine lv_iload_n hx hb dX11_placesTaken_33 rfl (lv_at hl 1 rfl) ?_
  exact W.iret (v := 0) hx hb hr (fun t ht hW => ⟨0, rfl, rfl, ht⟩) (fun _ h => by cases h) dX11_placesTaken_34
set_option maxHeartbeats 400000 in
set_option maxRecDepth 100000 in
theorem c_X11_count (l : Launch) (D : va_G) (k : Nat → ClassId) (h0 : Nat) (r : Nat → Nat) (vf : Nat → Option Nat) (w : Nat → Nat) (rs : Nat → Nat → Nat) (rm rd : Nat → Nat) (p0 : Int32) (hq : ∀ j, j < 6 → vf j = some (w j)) : CI l yX11_count cX11_count 2 (some .int) 1 22 0 0 D k [(h0, .inr (9, oX11 r f9)), ((r 0), .inl (k 3, 6, .inr (.inr (.inr (.inr vf))))), ((r 4), .inl (k 4, 16, .inr (.inr (.inr (.inr (fun _ => none)))))), ((r 5), .inr (5, oX5 rm f5)), ((r 6), .inr (1, oX1 rd f1)), ((w 0), .inr (8, oX10 (rs 0) f0)), ((w 1), .inr (8, oX10 (rs 1) f0)), ((w 2), .inr (8, oX10 (rs 2) f0)), ((w 3), .inr (8, oX10 (rs 3) f0)), ((w 4), .inr (8, oX10 (rs 4) f0)), ((w 5), .inr (8, oX10 (rs 5) f0))] [.ref h0, .int p0] (S := Unit) (fun (r : Int32) (_ : Unit) => r = an_count p0) (fun _ => ([] : va_W)) := by
  intro sz
  refine mtX (Qc := fun A => va_Qi (S := Unit) (fun (r : Int32) (_ : Unit) => r = an_count p0) (fun u t => WX D A ((fun _ => ([] : va_W)) u) t) A) (free := fun A => A) (by decide) (Nat.le_of_ble_eq_true rfl) ?_
  intro p e s m below meth c ls A hB hl
  obtain ⟨hx, hb, hml, hr, hlocks, hnm, hown, ht, hK, hN, hA, hP, hD, hS⟩ := hB
  have hl : lv_has ls 2 [(0, .ref h0), (1, .int p0)] := hl
  refine lv_iload_n hx hb dX11_count_0 rfl (lv_at hl 1 rfl) ?_
  rcases (show (p0.toInt < 0 ∨ 7 < p0.toInt) ∨ p0.toInt = 0 ∨ p0.toInt = 1 ∨ p0.toInt = 2 ∨ p0.toInt = 3 ∨ p0.toInt = 4 ∨ p0.toInt = 5 ∨ p0.toInt = 6 ∨ p0.toInt = 7 by omega) with c_1 | c_1 | c_1 | c_1 | c_1 | c_1 | c_1 | c_1 | c_1
  · skip
    refine lv_tableOut (tgt := 105) hx hb dX11_count_1 c_1 (by decide) ?_
    refine lv_iconst (v := (-1)) hx hb dX11_count_105 (by decide) ?_
    exact W.iret (v := (-1)) hx hb hr (fun t ht hW => ⟨⟨(-1), (), rfl, (by first | (unfold an_count; (repeat' split) <;> first | rfl | (exfalso; omega)) | rfl | decide), nilP, nilD⟩, hS.F ht⟩) hS.2.2 dX11_count_106
  · skip
    obtain rfl : p0 = 0 := eqI (by decide) c_1
    refine lv_tableIn (off := 47) (tgt := 48) hx hb dX11_count_1 (by decide) (by decide) (by decide) (by decide) ?_
    refine lv_aload_n hx hb dX11_count_48 rfl (lv_at hl 0 rfl) ?_
    refine va_get (D := D) (ci := 9) (v := .int 0) (C := "TuneSchool") (T := TX11) (N := 17) hx hb ht iX11 hown hK hP 0 rfl rfl 12 (by decide) (ht _ q1_219) (fun _ h9 => h9) rfl dX11_count_49 ?_
    exact W.iret (v := 0) hx hb hr (fun t ht hW => ⟨⟨0, (), rfl, (by first | (unfold an_count; (repeat' split) <;> first | rfl | (exfalso; omega)) | rfl | decide), nilP, nilD⟩, hS.F ht⟩) hS.2.2 dX11_count_52
  · skip
    obtain rfl : p0 = 1 := eqI (by decide) c_1
    refine lv_tableIn (off := 52) (tgt := 53) hx hb dX11_count_1 (by decide) (by decide) (by decide) (by decide) ?_
    refine lv_aload_n hx hb dX11_count_53 rfl (lv_at hl 0 rfl) ?_
    refine va_get (D := D) (ci := 9) (v := .int 0) (C := "TuneSchool") (T := TX11) (N := 17) hx hb ht iX11 hown hK hP 0 rfl rfl 15 (by decide) (ht _ q1_222) (fun _ h9 => h9) rfl dX11_count_54 ?_
    exact W.iret (v := 0) hx hb hr (fun t ht hW => ⟨⟨0, (), rfl, (by first | (unfold an_count; (repeat' split) <;> first | rfl | (exfalso; omega)) | rfl | decide), nilP, nilD⟩, hS.F ht⟩) hS.2.2 dX11_count_57
  · skip
    obtain rfl : p0 = 2 := eqI (by decide) c_1
    refine lv_tableIn (off := 57) (tgt := 58) hx hb dX11_count_1 (by decide) (by decide) (by decide) (by decide) ?_
    refine lv_aload_n hx hb dX11_count_58 rfl (lv_at hl 0 rfl) ?_
    refine va_get (D := D) (ci := 9) (v := .ref (r 5)) (C := "TuneSchool") (T := TX11) (N := 17) hx hb ht iX11 hown hK hP 0 rfl rfl 5 (by decide) (ht _ q1_212) (fun _ h9 => h9) rfl dX11_count_59 ?_
    refine va_get (D := D) (ci := 5) (v := .int 0) (C := "TuneSchool$Moment") (T := TX5) (N := 11) hx hb ht iX5 hown hK hP 3 rfl rfl 1 (by decide) (ht _ q1_70) (fun _ h9 => h9) rfl dX11_count_62 ?_
    exact W.iret (v := 0) hx hb hr (fun t ht hW => ⟨⟨0, (), rfl, (by first | (unfold an_count; (repeat' split) <;> first | rfl | (exfalso; omega)) | rfl | decide), nilP, nilD⟩, hS.F ht⟩) hS.2.2 dX11_count_65
  · skip
    obtain rfl : p0 = 3 := eqI (by decide) c_1
    refine lv_tableIn (off := 65) (tgt := 66) hx hb dX11_count_1 (by decide) (by decide) (by decide) (by decide) ?_
    refine lv_aload_n hx hb dX11_count_66 rfl (lv_at hl 0 rfl) ?_
    refine afterP (xV (fr := 0) (lo := 0) (mc := 0) (ms := 0) (As := []) (rest := []) (wc := [(h0, .inr (9, oX11 r f9)), ((r 0), .inl (k 3, 6, .inr (.inr (.inr (.inr vf))))), ((w 0), .inr (8, oX10 (rs 0) f0)), ((w 1), .inr (8, oX10 (rs 1) f0)), ((w 2), .inr (8, oX10 (rs 2) f0)), ((w 3), .inr (8, oX10 (rs 3) f0)), ((w 4), .inr (8, oX10 (rs 4) f0)), ((w 5), .inr (8, oX10 (rs 5) f0))]) ⟨hx, hb, hml, hown, ht⟩ (c_X11_voicesThere l D k h0 r vf w rs hq _) hK hN (hP.sub (ws' := [(h0, .inr (9, oX11 r f9)), ((r 0), .inl (k 3, 6, .inr (.inr (.inr (.inr vf))))), ((w 0), .inr (8, oX10 (rs 0) f0)), ((w 1), .inr (8, oX10 (rs 1) f0)), ((w 2), .inr (8, oX10 (rs 2) f0)), ((w 3), .inr (8, oX10 (rs 3) f0)), ((w 4), .inr (8, oX10 (rs 4) f0)), ((w 5), .inr (8, oX10 (rs 5) f0))]) [0, 1, 5, 6, 7, 8, 9, 10] rfl) (hD.sub (ws' := [(h0, .inr (9, oX11 r f9)), ((r 0), .inl (k 3, 6, .inr (.inr (.inr (.inr vf))))), ((w 0), .inr (8, oX10 (rs 0) f0)), ((w 1), .inr (8, oX10 (rs 1) f0)), ((w 2), .inr (8, oX10 (rs 2) f0)), ((w 3), .inr (8, oX10 (rs 3) f0)), ((w 4), .inr (8, oX10 (rs 4) f0)), ((w 5), .inr (8, oX10 (rs 5) f0))]) [0, 1, 5, 6, 7, 8, 9, 10] (by decide) rfl) 9 0 rfl rfl rfl q4_218 q4_220 qs_15 q1_1 q4_221 md_X11_voicesThere ⟨by decide, by decide⟩ rfl hl.1 rfl (Nat.le_of_ble_eq_true rfl) dX11_count_67 ⟨by decide, by decide⟩) (fun r_2 h_3 => ?_)
    obtain rfl := h_3
    exact W.iret (v := 0) hx hb hr (fun t ht hW => ⟨⟨0, (), rfl, (by first | (unfold an_count; (repeat' split) <;> first | rfl | (exfalso; omega)) | rfl | decide), nilP, nilD⟩, hS.F ht⟩) hS.2.2 dX11_count_70
  · skip
    obtain rfl : p0 = 4 := eqI (by decide) c_1
    refine lv_tableIn (off := 70) (tgt := 71) hx hb dX11_count_1 (by decide) (by decide) (by decide) (by decide) ?_
    refine lv_aload_n hx hb dX11_count_71 rfl (lv_at hl 0 rfl) ?_
    refine afterP (xV (fr := 0) (lo := 0) (mc := 0) (ms := 0) (As := []) (rest := []) (wc := [(h0, .inr (9, oX11 r f9)), ((r 4), .inl (k 4, 16, .inr (.inr (.inr (.inr (fun _ => none))))))]) ⟨hx, hb, hml, hown, ht⟩ (c_X11_placesTaken l D k h0 r _) hK hN (hP.sub (ws' := [(h0, .inr (9, oX11 r f9)), ((r 4), .inl (k 4, 16, .inr (.inr (.inr (.inr (fun _ => none))))))]) [0, 2] rfl) (hD.sub (ws' := [(h0, .inr (9, oX11 r f9)), ((r 4), .inl (k 4, 16, .inr (.inr (.inr (.inr (fun _ => none))))))]) [0, 2] (by decide) rfl) 9 0 rfl rfl rfl q4_222 q4_224 qs_16 q1_1 q4_225 md_X11_placesTaken ⟨by decide, by decide⟩ rfl hl.1 rfl (Nat.le_of_ble_eq_true rfl) dX11_count_72 ⟨by decide, by decide⟩) (fun r_4 h_5 => ?_)
    obtain rfl := h_5
    exact W.iret (v := 0) hx hb hr (fun t ht hW => ⟨⟨0, (), rfl, (by first | (unfold an_count; (repeat' split) <;> first | rfl | (exfalso; omega)) | rfl | decide), nilP, nilD⟩, hS.F ht⟩) hS.2.2 dX11_count_75
  · skip
    obtain rfl : p0 = 5 := eqI (by decide) c_1
    refine lv_tableIn (off := 75) (tgt := 76) hx hb dX11_count_1 (by decide) (by decide) (by decide) (by decide) ?_
    refine lv_aload_n hx hb dX11_count_76 rfl (lv_at hl 0 rfl) ?_
    refine va_get (D := D) (ci := 9) (v := .ref (r 6)) (C := "TuneSchool") (T := TX11) (N := 17) hx hb ht iX11 hown hK hP 0 rfl rfl 6 (by decide) (ht _ q1_213) (fun _ h9 => h9) rfl dX11_count_77 ?_
    refine va_get (D := D) (ci := 1) (v := .int 0) (C := "TuneSchool$Desk") (T := TX1) (N := 17) hx hb ht iX1 hown hK hP 4 rfl rfl 10 (by decide) (ht _ q1_144) (fun _ h9 => h9) rfl dX11_count_80 ?_
    exact W.iret (v := 0) hx hb hr (fun t ht hW => ⟨⟨0, (), rfl, (by first | (unfold an_count; (repeat' split) <;> first | rfl | (exfalso; omega)) | rfl | decide), nilP, nilD⟩, hS.F ht⟩) hS.2.2 dX11_count_83
  · skip
    obtain rfl : p0 = 6 := eqI (by decide) c_1
    refine lv_tableIn (off := 83) (tgt := 84) hx hb dX11_count_1 (by decide) (by decide) (by decide) (by decide) ?_
    refine lv_aload_n hx hb dX11_count_84 rfl (lv_at hl 0 rfl) ?_
    refine va_get (D := D) (ci := 9) (v := .int 0) (C := "TuneSchool") (T := TX11) (N := 17) hx hb ht iX11 hown hK hP 0 rfl rfl 16 (by decide) (ht _ q1_223) (fun _ h9 => h9) rfl dX11_count_85 ?_
    exact W.iret (v := 0) hx hb hr (fun t ht hW => ⟨⟨0, (), rfl, (by first | (unfold an_count; (repeat' split) <;> first | rfl | (exfalso; omega)) | rfl | decide), nilP, nilD⟩, hS.F ht⟩) hS.2.2 dX11_count_88
  · skip
    obtain rfl : p0 = 7 := eqI (by decide) c_1
    refine lv_tableIn (off := 88) (tgt := 89) hx hb dX11_count_1 (by decide) (by decide) (by decide) (by decide) ?_
    refine lv_aload_n hx hb dX11_count_89 rfl (lv_at hl 0 rfl) ?_
    refine va_get (D := D) (ci := 9) (v := .int (-2)) (C := "TuneSchool") (T := TX11) (N := 17) hx hb ht iX11 hown hK hP 0 rfl rfl 13 (by decide) (ht _ q1_220) (fun _ h9 => h9) rfl dX11_count_90 ?_
    refine afterP (xS (fr := 0) (lo := 0) (mc := 0) (ms := 0) (As := [.int (-2)]) (rest := []) (wc := []) ⟨hx, hb, hml, hown, ht⟩ (c_X11_isVoice l D k (-2) _) hK hN nilP (nilD (A := A)) q2_23 q2_24 q1_1 q2_25 md_X11_isVoice ⟨by decide, by decide⟩ rfl hl.1 rfl (Nat.le_of_ble_eq_true rfl) dX11_count_93 ⟨by decide, by decide⟩) (fun r_6 h_7 => ?_)
    rcases h_7 with ⟨rfl, h_7⟩ | ⟨rfl, h_7⟩
    · exact absurd h_7 (by first | decide | omega)
    · skip
      have z_ : ((-2) : Int32).toInt = (-2) := by decide
      refine lv_if_eq (tgt := 103) hx hb dX11_count_96 (by decide) (fun _ => ?_) (fun c_ => absurd c_ (by decide))
      refine lv_iconst (v := 0) hx hb dX11_count_103 (by decide) ?_
      exact W.iret (v := 0) hx hb hr (fun t ht hW => ⟨⟨0, (), rfl, (by first | (unfold an_count; (repeat' split) <;> first | rfl | (exfalso; omega)) | rfl | decide), nilP, nilD⟩, hS.F ht⟩) hS.2.2 dX11_count_104
