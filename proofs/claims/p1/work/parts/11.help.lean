set_option maxHeartbeats 4000000 in
set_option maxRecDepth 100000 in
theorem c_X11_isWithin (l : Launch) (D : va_G) (k : Nat → ClassId) (p0 p1 p2 : Int32) (ia ib : Int) (h_a : p1.toInt = ia) (h_b : p2.toInt = ib) : CP l yX11_isWithin cX11_isWithin 3 (some .boolean) 0 0 D k [] [.int p0, .int p1, .int p2] (fun r => (r = 1 ∧ ia ≤ p0.toInt ∧ p0.toInt ≤ ib) ∨ (r = 0 ∧ ¬ (ia ≤ p0.toInt ∧ p0.toInt ≤ ib))) := by
  intro sz
  refine mtX (Qc := fun _ => vp_Si (fun r => (r = 1 ∧ ia ≤ p0.toInt ∧ p0.toInt ≤ ib) ∨ (r = 0 ∧ ¬ (ia ≤ p0.toInt ∧ p0.toInt ≤ ib)))) (free := fun _ _ => False) (by decide) (Nat.le_of_ble_eq_true rfl) ?_
  intro p e s m below meth c ls A hB hl
  obtain ⟨hx, hb, hml, hr, hlocks, hnm, hown, ht, hK, hN, hA, hP, hD, hS⟩ := hB
  have hl : lv_has ls 3 [(0, .int p0), (1, .int p1), (2, .int p2)] := hl
  refine lv_iload_n hx hb dX11_isWithin_0 rfl (lv_at hl 0 rfl) ?_
  refine lv_iload_n hx hb dX11_isWithin_1 rfl (lv_at hl 1 rfl) ?_
  refine lv_icmp_lt (tgt := 14) hx hb dX11_isWithin_2 (by decide) (fun c_1 => ?_) (fun c_1 => ?_)
  · skip
    have c_1 := i_lt (a := p0.toInt) (b := p1.toInt) rfl rfl c_1
    refine lv_iconst (v := 0) hx hb dX11_isWithin_14 (by decide) ?_
    exact W.zret (v := 0) (ty := .boolean) hx hb hr rfl (fun t ht hW => ⟨0, rfl, Or.inr ⟨rfl, by omega⟩, ht⟩) (fun _ h => by cases h) dX11_isWithin_15
  · skip
    have c_1 := i_nlt (a := p0.toInt) (b := p1.toInt) rfl rfl c_1
    refine lv_iload_n hx hb dX11_isWithin_5 rfl (lv_at hl 0 rfl) ?_
    refine lv_iload_n hx hb dX11_isWithin_6 rfl (lv_at hl 2 rfl) ?_
    refine lv_icmp_gt (tgt := 14) hx hb dX11_isWithin_7 (by decide) (fun c_2 => ?_) (fun c_2 => ?_)
    · skip
      have c_2 := i_lt (a := p2.toInt) (b := p0.toInt) rfl rfl c_2
      refine lv_iconst (v := 0) hx hb dX11_isWithin_14 (by decide) ?_
      exact W.zret (v := 0) (ty := .boolean) hx hb hr rfl (fun t ht hW => ⟨0, rfl, Or.inr ⟨rfl, by omega⟩, ht⟩) (fun _ h => by cases h) dX11_isWithin_15
    · skip
      have c_2 := i_nlt (a := p2.toInt) (b := p0.toInt) rfl rfl c_2
      refine lv_iconst (v := 1) hx hb dX11_isWithin_10 (by decide) ?_
      refine lv_goto (tgt := 15) hx hb dX11_isWithin_11 (by decide) ?_
      exact W.zret (v := 1) (ty := .boolean) hx hb hr rfl (fun t ht hW => ⟨1, rfl, Or.inl ⟨rfl, by omega⟩, ht⟩) (fun _ h => by cases h) dX11_isWithin_15
set_option maxHeartbeats 4000000 in
set_option maxRecDepth 100000 in
theorem c_X11_isVoice (l : Launch) (D : va_G) (k : Nat → ClassId) (p0 : Int32) : CP l yX11_isVoice cX11_isVoice 1 (some .boolean) 0 0 D k [] [.int p0] (fun r => (r = 1 ∧ 0 ≤ p0.toInt ∧ p0.toInt ≤ 5) ∨ (r = 0 ∧ ¬ (0 ≤ p0.toInt ∧ p0.toInt ≤ 5))) := by
  intro sz
  refine mtX (Qc := fun _ => vp_Si (fun r => (r = 1 ∧ 0 ≤ p0.toInt ∧ p0.toInt ≤ 5) ∨ (r = 0 ∧ ¬ (0 ≤ p0.toInt ∧ p0.toInt ≤ 5)))) (free := fun _ _ => False) (by decide) (Nat.le_of_ble_eq_true rfl) ?_
  intro p e s m below meth c ls A hB hl
  obtain ⟨hx, hb, hml, hr, hlocks, hnm, hown, ht, hK, hN, hA, hP, hD, hS⟩ := hB
  have hl : lv_has ls 1 [(0, .int p0)] := hl
  refine lv_iload_n hx hb dX11_isVoice_0 rfl (lv_at hl 0 rfl) ?_
  refine lv_if_lt (tgt := 14) hx hb dX11_isVoice_1 (by decide) (fun c_1 => ?_) (fun c_1 => ?_)
  · skip
    have c_1 := i_lt (a := p0.toInt) (b := 0) rfl (by decide) c_1
    refine lv_iconst (v := 0) hx hb dX11_isVoice_14 (by decide) ?_
    exact W.zret (v := 0) (ty := .boolean) hx hb hr rfl (fun t ht hW => ⟨0, rfl, Or.inr ⟨rfl, by omega⟩, ht⟩) (fun _ h => by cases h) dX11_isVoice_15
  · skip
    have c_1 := i_nlt (a := p0.toInt) (b := 0) rfl (by decide) c_1
    refine lv_iload_n hx hb dX11_isVoice_4 rfl (lv_at hl 0 rfl) ?_
    refine lv_bipush (v := 6) hx hb dX11_isVoice_5 (by decide) ?_
    refine lv_icmp_ge (tgt := 14) hx hb dX11_isVoice_7 (by decide) (fun c_2 => ?_) (fun c_2 => ?_)
    · skip
      have c_2 := i_le (a := 6) (b := p0.toInt) (by decide) rfl c_2
      refine lv_iconst (v := 0) hx hb dX11_isVoice_14 (by decide) ?_
      exact W.zret (v := 0) (ty := .boolean) hx hb hr rfl (fun t ht hW => ⟨0, rfl, Or.inr ⟨rfl, by omega⟩, ht⟩) (fun _ h => by cases h) dX11_isVoice_15
    · skip
      have c_2 := i_nle (a := 6) (b := p0.toInt) (by decide) rfl c_2
      refine lv_iconst (v := 1) hx hb dX11_isVoice_10 (by decide) ?_
      refine lv_goto (tgt := 15) hx hb dX11_isVoice_11 (by decide) ?_
      exact W.zret (v := 1) (ty := .boolean) hx hb hr rfl (fun t ht hW => ⟨1, rfl, Or.inl ⟨rfl, by omega⟩, ht⟩) (fun _ h => by cases h) dX11_isVoice_15
set_option maxHeartbeats 4000000 in
set_option maxRecDepth 100000 in
theorem c_X11_isPlace (l : Launch) (D : va_G) (k : Nat → ClassId) (p0 : Int32) : CP l yX11_isPlace cX11_isPlace 1 (some .boolean) 0 0 D k [] [.int p0] (fun r => (r = 1 ∧ 0 ≤ p0.toInt ∧ p0.toInt ≤ 15) ∨ (r = 0 ∧ ¬ (0 ≤ p0.toInt ∧ p0.toInt ≤ 15))) := by
  intro sz
  refine mtX (Qc := fun _ => vp_Si (fun r => (r = 1 ∧ 0 ≤ p0.toInt ∧ p0.toInt ≤ 15) ∨ (r = 0 ∧ ¬ (0 ≤ p0.toInt ∧ p0.toInt ≤ 15)))) (free := fun _ _ => False) (by decide) (Nat.le_of_ble_eq_true rfl) ?_
  intro p e s m below meth c ls A hB hl
  obtain ⟨hx, hb, hml, hr, hlocks, hnm, hown, ht, hK, hN, hA, hP, hD, hS⟩ := hB
  have hl : lv_has ls 1 [(0, .int p0)] := hl
  refine lv_iload_n hx hb dX11_isPlace_0 rfl (lv_at hl 0 rfl) ?_
  refine lv_if_lt (tgt := 14) hx hb dX11_isPlace_1 (by decide) (fun c_1 => ?_) (fun c_1 => ?_)
  · skip
    have c_1 := i_lt (a := p0.toInt) (b := 0) rfl (by decide) c_1
    refine lv_iconst (v := 0) hx hb dX11_isPlace_14 (by decide) ?_
    exact W.zret (v := 0) (ty := .boolean) hx hb hr rfl (fun t ht hW => ⟨0, rfl, Or.inr ⟨rfl, by omega⟩, ht⟩) (fun _ h => by cases h) dX11_isPlace_15
  · skip
    have c_1 := i_nlt (a := p0.toInt) (b := 0) rfl (by decide) c_1
    refine lv_iload_n hx hb dX11_isPlace_4 rfl (lv_at hl 0 rfl) ?_
    refine lv_bipush (v := 16) hx hb dX11_isPlace_5 (by decide) ?_
    refine lv_icmp_ge (tgt := 14) hx hb dX11_isPlace_7 (by decide) (fun c_2 => ?_) (fun c_2 => ?_)
    · skip
      have c_2 := i_le (a := 16) (b := p0.toInt) (by decide) rfl c_2
      refine lv_iconst (v := 0) hx hb dX11_isPlace_14 (by decide) ?_
      exact W.zret (v := 0) (ty := .boolean) hx hb hr rfl (fun t ht hW => ⟨0, rfl, Or.inr ⟨rfl, by omega⟩, ht⟩) (fun _ h => by cases h) dX11_isPlace_15
    · skip
      have c_2 := i_nle (a := 16) (b := p0.toInt) (by decide) rfl c_2
      refine lv_iconst (v := 1) hx hb dX11_isPlace_10 (by decide) ?_
      refine lv_goto (tgt := 15) hx hb dX11_isPlace_11 (by decide) ?_
      exact W.zret (v := 1) (ty := .boolean) hx hb hr rfl (fun t ht hW => ⟨1, rfl, Or.inl ⟨rfl, by omega⟩, ht⟩) (fun _ h => by cases h) dX11_isPlace_15
set_option maxHeartbeats 4000000 in
set_option maxRecDepth 100000 in
theorem c_X11_isRow (l : Launch) (D : va_G) (k : Nat → ClassId) (p0 : Int32) : CP l yX11_isRow cX11_isRow 1 (some .boolean) 0 0 D k [] [.int p0] (fun r => (r = 1 ∧ 0 ≤ p0.toInt ∧ p0.toInt ≤ 1) ∨ (r = 0 ∧ ¬ (0 ≤ p0.toInt ∧ p0.toInt ≤ 1))) := by
  intro sz
  refine mtX (Qc := fun _ => vp_Si (fun r => (r = 1 ∧ 0 ≤ p0.toInt ∧ p0.toInt ≤ 1) ∨ (r = 0 ∧ ¬ (0 ≤ p0.toInt ∧ p0.toInt ≤ 1)))) (free := fun _ _ => False) (by decide) (Nat.le_of_ble_eq_true rfl) ?_
  intro p e s m below meth c ls A hB hl
  obtain ⟨hx, hb, hml, hr, hlocks, hnm, hown, ht, hK, hN, hA, hP, hD, hS⟩ := hB
  have hl : lv_has ls 1 [(0, .int p0)] := hl
  refine lv_iload_n hx hb dX11_isRow_0 rfl (lv_at hl 0 rfl) ?_
  refine lv_if_eq (tgt := 9) hx hb dX11_isRow_1 (by decide) (fun c_1 => ?_) (fun c_1 => ?_)
  · skip
    have c_1 := i_eq (a := p0.toInt) (b := 0) rfl (by decide) c_1
    refine lv_iconst (v := 1) hx hb dX11_isRow_9 (by decide) ?_
    refine lv_goto (tgt := 14) hx hb dX11_isRow_10 (by decide) ?_
    exact W.zret (v := 1) (ty := .boolean) hx hb hr rfl (fun t ht hW => ⟨1, rfl, Or.inl ⟨rfl, by omega⟩, ht⟩) (fun _ h => by cases h) dX11_isRow_14
  · skip
    have c_1 := i_neq (a := p0.toInt) (b := 0) rfl (by decide) c_1
    refine lv_iload_n hx hb dX11_isRow_4 rfl (lv_at hl 0 rfl) ?_
    refine lv_iconst (v := 1) hx hb dX11_isRow_5 (by decide) ?_
    refine lv_icmp_ne (tgt := 13) hx hb dX11_isRow_6 (by decide) (fun c_2 => ?_) (fun c_2 => ?_)
    · skip
      have c_2 := i_neq (a := p0.toInt) (b := 1) rfl (by decide) c_2
      refine lv_iconst (v := 0) hx hb dX11_isRow_13 (by decide) ?_
      exact W.zret (v := 0) (ty := .boolean) hx hb hr rfl (fun t ht hW => ⟨0, rfl, Or.inr ⟨rfl, by omega⟩, ht⟩) (fun _ h => by cases h) dX11_isRow_14
    · skip
      have c_2 := i_eq (a := p0.toInt) (b := 1) rfl (by decide) c_2
      refine lv_iconst (v := 1) hx hb dX11_isRow_9 (by decide) ?_
      refine lv_goto (tgt := 14) hx hb dX11_isRow_10 (by decide) ?_
      exact W.zret (v := 1) (ty := .boolean) hx hb hr rfl (fun t ht hW => ⟨1, rfl, Or.inl ⟨rfl, by omega⟩, ht⟩) (fun _ h => by cases h) dX11_isRow_14
set_option maxHeartbeats 4000000 in
set_option maxRecDepth 100000 in
theorem c_X11_isFollower (l : Launch) (D : va_G) (k : Nat → ClassId) (p0 p1 p2 : Int32) : CP l yX11_isFollower cX11_isFollower 3 (some .boolean) 1 22 D k [] [.int p0, .int p1, .int p2] (fun r => (r = 1 ∧ (0 ≤ p0.toInt ∧ p0.toInt ≤ 60) ∧ (-60 ≤ p1.toInt ∧ p1.toInt ≤ 60) ∧ (0 ≤ p2.toInt ∧ p2.toInt ≤ 2)) ∨ (r = 0 ∧ ¬ ((0 ≤ p0.toInt ∧ p0.toInt ≤ 60) ∧ (-60 ≤ p1.toInt ∧ p1.toInt ≤ 60) ∧ (0 ≤ p2.toInt ∧ p2.toInt ≤ 2)))) := by
  intro sz
  refine mtX (Qc := fun _ => vp_Si (fun r => (r = 1 ∧ (0 ≤ p0.toInt ∧ p0.toInt ≤ 60) ∧ (-60 ≤ p1.toInt ∧ p1.toInt ≤ 60) ∧ (0 ≤ p2.toInt ∧ p2.toInt ≤ 2)) ∨ (r = 0 ∧ ¬ ((0 ≤ p0.toInt ∧ p0.toInt ≤ 60) ∧ (-60 ≤ p1.toInt ∧ p1.toInt ≤ 60) ∧ (0 ≤ p2.toInt ∧ p2.toInt ≤ 2))))) (free := fun _ _ => False) (by decide) (Nat.le_of_ble_eq_true rfl) ?_
  intro p e s m below meth c ls A hB hl
  obtain ⟨hx, hb, hml, hr, hlocks, hnm, hown, ht, hK, hN, hA, hP, hD, hS⟩ := hB
  have hl : lv_has ls 3 [(0, .int p0), (1, .int p1), (2, .int p2)] := hl
  refine lv_iload_n hx hb dX11_isFollower_0 rfl (lv_at hl 0 rfl) ?_
  refine lv_iconst (v := 0) hx hb dX11_isFollower_1 (by decide) ?_
  refine lv_bipush (v := 60) hx hb dX11_isFollower_2 (by decide) ?_
  refine afterP (xS (As := [.int p0, .int 0, .int 60]) (rest := []) (wc := []) ⟨hx, hb, hml, hown, ht⟩ (c_X11_isWithin l D k p0 0 60 0 60 (by decide) (by decide) _) hK hN nilP (nilD (A := A)) q2_60 q2_61 q1_1 q2_62 md_X11_isWithin ⟨by decide, by decide⟩ rfl hl.1 rfl (Nat.le_of_ble_eq_true rfl) dX11_isFollower_4 ⟨by decide, by decide⟩) (fun r_1 h_2 => ?_)
  rcases h_2 with ⟨rfl, h_2⟩ | ⟨rfl, h_2⟩
  · skip
    refine lv_if_eq (tgt := 34) hx hb dX11_isFollower_7 (by decide) (fun c_ => absurd c_ (by decide)) (fun _ => ?_)
    refine lv_iload_n hx hb dX11_isFollower_10 rfl (lv_at hl 1 rfl) ?_
    refine lv_bipush (v := (-60)) hx hb dX11_isFollower_11 (by decide) ?_
    refine lv_bipush (v := 60) hx hb dX11_isFollower_13 (by decide) ?_
    refine afterP (xS (As := [.int p1, .int (-60), .int 60]) (rest := []) (wc := []) ⟨hx, hb, hml, hown, ht⟩ (c_X11_isWithin l D k p1 (-60) 60 (-60) 60 (by decide) (by decide) _) hK hN nilP (nilD (A := A)) q2_60 q2_61 q1_1 q2_62 md_X11_isWithin ⟨by decide, by decide⟩ rfl hl.1 rfl (Nat.le_of_ble_eq_true rfl) dX11_isFollower_15 ⟨by decide, by decide⟩) (fun r_3 h_4 => ?_)
    rcases h_4 with ⟨rfl, h_4⟩ | ⟨rfl, h_4⟩
    · skip
      refine lv_if_eq (tgt := 34) hx hb dX11_isFollower_18 (by decide) (fun c_ => absurd c_ (by decide)) (fun _ => ?_)
      refine lv_iload_n hx hb dX11_isFollower_21 rfl (lv_at hl 2 rfl) ?_
      refine lv_iconst (v := 0) hx hb dX11_isFollower_22 (by decide) ?_
      refine lv_iconst (v := 2) hx hb dX11_isFollower_23 (by decide) ?_
      refine afterP (xS (As := [.int p2, .int 0, .int 2]) (rest := []) (wc := []) ⟨hx, hb, hml, hown, ht⟩ (c_X11_isWithin l D k p2 0 2 0 2 (by decide) (by decide) _) hK hN nilP (nilD (A := A)) q2_60 q2_61 q1_1 q2_62 md_X11_isWithin ⟨by decide, by decide⟩ rfl hl.1 rfl (Nat.le_of_ble_eq_true rfl) dX11_isFollower_24 ⟨by decide, by decide⟩) (fun r_5 h_6 => ?_)
      rcases h_6 with ⟨rfl, h_6⟩ | ⟨rfl, h_6⟩
      · skip
        refine lv_if_eq (tgt := 34) hx hb dX11_isFollower_27 (by decide) (fun c_ => absurd c_ (by decide)) (fun _ => ?_)
        refine lv_iconst (v := 1) hx hb dX11_isFollower_30 (by decide) ?_
        refine lv_goto (tgt := 35) hx hb dX11_isFollower_31 (by decide) ?_
        exact W.zret (v := 1) (ty := .boolean) hx hb hr rfl (fun t ht hW => ⟨1, rfl, Or.inl ⟨rfl, by omega⟩, ht⟩) (fun _ h => by cases h) dX11_isFollower_35
      · skip
        refine lv_if_eq (tgt := 34) hx hb dX11_isFollower_27 (by decide) (fun _ => ?_) (fun c_ => absurd c_ (by decide))
        refine lv_iconst (v := 0) hx hb dX11_isFollower_34 (by decide) ?_
        exact W.zret (v := 0) (ty := .boolean) hx hb hr rfl (fun t ht hW => ⟨0, rfl, Or.inr ⟨rfl, by omega⟩, ht⟩) (fun _ h => by cases h) dX11_isFollower_35
    · skip
      refine lv_if_eq (tgt := 34) hx hb dX11_isFollower_18 (by decide) (fun _ => ?_) (fun c_ => absurd c_ (by decide))
      refine lv_iconst (v := 0) hx hb dX11_isFollower_34 (by decide) ?_
      exact W.zret (v := 0) (ty := .boolean) hx hb hr rfl (fun t ht hW => ⟨0, rfl, Or.inr ⟨rfl, by omega⟩, ht⟩) (fun _ h => by cases h) dX11_isFollower_35
  · skip
    refine lv_if_eq (tgt := 34) hx hb dX11_isFollower_7 (by decide) (fun _ => ?_) (fun c_ => absurd c_ (by decide))
    refine lv_iconst (v := 0) hx hb dX11_isFollower_34 (by decide) ?_
    exact W.zret (v := 0) (ty := .boolean) hx hb hr rfl (fun t ht hW => ⟨0, rfl, Or.inr ⟨rfl, by omega⟩, ht⟩) (fun _ h => by cases h) dX11_isFollower_35
set_option maxHeartbeats 4000000 in
set_option maxRecDepth 100000 in
theorem c_X11_finding (l : Launch) (D : va_G) (k : Nat → ClassId) (h0 : Nat) (r : Nat → Nat) (v : Nat → Int32) (p0 : Int32) : CI l yX11_finding cX11_finding 2 (some .int) 0 0 0 0 D k [(h0, .inr (9, oX11 r v))] [.ref h0, .int p0] (S := Unit) (fun (r : Int32) (_ : Unit) => r = -10 - p0) (fun _ => []) := by
  intro sz
  refine mtX (Qc := fun A => va_Qi (S := Unit) (fun (r : Int32) (_ : Unit) => r = -10 - p0) (fun u t => WX D A ((fun _ => []) u) t) A) (free := fun A => A) (by decide) (Nat.le_of_ble_eq_true rfl) ?_
  intro p e s m below meth c ls A hB hl
  obtain ⟨hx, hb, hml, hr, hlocks, hnm, hown, ht, hK, hN, hA, hP, hD, hS⟩ := hB
  have hl : lv_has ls 2 [(0, .ref h0), (1, .int p0)] := hl
  refine lv_aload_n hx hb dX11_finding_0 rfl (lv_at hl 0 rfl) ?_
  refine lv_iload_n hx hb dX11_finding_1 rfl (lv_at hl 1 rfl) ?_
  refine va_put (D := D) (ci := 9) (v := .int p0) (ty := .int) (C := "TuneSchool") (T := TX11) (N := 17) hx hb ht iX11 tyX11 tyX11_ok nmX11 hown hK hP hD hS 0 rfl rfl 14 (by decide) (ht _ q1_221) (fun _ h9 => h9) rfl (by decide +kernel) rfl rfl (Nat.le_of_ble_eq_true rfl) dX11_finding_2 (fun H locs hP hD hS => ?_)
  have hP : va_P D clsL [(h0, .inr (9, oX11 r (va_up v 14 p0)))] H := hP
  have hD : va_D A [(h0, .inr (9, oX11 r (va_up v 14 p0)))] := hD
  refine lv_aload_n hx hb dX11_finding_5 rfl (lv_at hl 0 rfl) ?_
  refine lv_dup hx hb dX11_finding_6 rfl ?_
  refine va_get (D := D) (ci := 9) (v := .int (v 15)) (C := "TuneSchool") (T := TX11) (N := 17) hx hb ht iX11 hown hK hP 0 rfl rfl 15 (by decide) (ht _ q1_222) (fun _ h9 => h9) rfl dX11_finding_7 ?_
  refine lv_iconst (v := 1) hx hb dX11_finding_10 (by decide) ?_
  refine lv_iadd hx hb dX11_finding_11 ?_
  refine va_put (D := D) (ci := 9) (v := .int ((v 15) + 1)) (ty := .int) (C := "TuneSchool") (T := TX11) (N := 17) hx hb ht iX11 tyX11 tyX11_ok nmX11 hown hK hP hD hS 0 rfl rfl 15 (by decide) (ht _ q1_222) (fun _ h9 => h9) rfl (by decide +kernel) rfl rfl (Nat.le_of_ble_eq_true rfl) dX11_finding_12 (fun H locs hP hD hS => ?_)
  have hP : va_P D clsL [(h0, .inr (9, oX11 r (va_up (va_up v 14 p0) 15 ((v 15) + 1))))] H := hP
  have hD : va_D A [(h0, .inr (9, oX11 r (va_up (va_up v 14 p0) 15 ((v 15) + 1))))] := hD
  refine lv_bipush (v := (-10)) hx hb dX11_finding_15 (by decide) ?_
  refine lv_iload_n hx hb dX11_finding_17 rfl (lv_at hl 1 rfl) ?_
  refine lv_isub hx hb dX11_finding_18 ?_
  exact W.iret (v := ((-10) - p0)) hx hb hr (fun t ht hW => ⟨⟨((-10) - p0), (), rfl, rfl, nilP, nilD⟩, hS.F ht⟩) hS.2.2 dX11_finding_19
set_option maxHeartbeats 4000000 in
set_option maxRecDepth 100000 in
theorem c_X11_fine (l : Launch) (D : va_G) (k : Nat → ClassId) (h0 : Nat) (r : Nat → Nat) (v : Nat → Int32) (p0 : Int32) : CI l yX11_fine cX11_fine 2 (some .int) 0 0 0 0 D k [(h0, .inr (9, oX11 r v))] [.ref h0, .int p0] (S := Unit) (fun (r : Int32) (_ : Unit) => r = p0) (fun _ => []) := by
  intro sz
  refine mtX (Qc := fun A => va_Qi (S := Unit) (fun (r : Int32) (_ : Unit) => r = p0) (fun u t => WX D A ((fun _ => []) u) t) A) (free := fun A => A) (by decide) (Nat.le_of_ble_eq_true rfl) ?_
  intro p e s m below meth c ls A hB hl
  obtain ⟨hx, hb, hml, hr, hlocks, hnm, hown, ht, hK, hN, hA, hP, hD, hS⟩ := hB
  have hl : lv_has ls 2 [(0, .ref h0), (1, .int p0)] := hl
  refine lv_aload_n hx hb dX11_fine_0 rfl (lv_at hl 0 rfl) ?_
  refine lv_iconst (v := 0) hx hb dX11_fine_1 (by decide) ?_
  refine va_put (D := D) (ci := 9) (v := .int 0) (ty := .int) (C := "TuneSchool") (T := TX11) (N := 17) hx hb ht iX11 tyX11 tyX11_ok nmX11 hown hK hP hD hS 0 rfl rfl 14 (by decide) (ht _ q1_221) (fun _ h9 => h9) rfl (by decide +kernel) rfl rfl (Nat.le_of_ble_eq_true rfl) dX11_fine_2 (fun H locs hP hD hS => ?_)
  have hP : va_P D clsL [(h0, .inr (9, oX11 r (va_up v 14 0)))] H := hP
  have hD : va_D A [(h0, .inr (9, oX11 r (va_up v 14 0)))] := hD
  refine lv_iload_n hx hb dX11_fine_5 rfl (lv_at hl 1 rfl) ?_
  exact W.iret (v := p0) hx hb hr (fun t ht hW => ⟨⟨p0, (), rfl, rfl, nilP, nilD⟩, hS.F ht⟩) hS.2.2 dX11_fine_6
set_option maxHeartbeats 4000000 in
set_option maxRecDepth 100000 in
theorem c_X11_goThrough (l : Launch) (D : va_G) (k : Nat → ClassId) (hv : Nat) (rv : Nat → Nat) : CP l yX11_goThrough cX11_goThrough 1 (some .int) 0 0 D k [(hv, .inr (8, oX10 rv f0))] [.ref hv] (fun r => r = 1) := by
  intro sz
  refine mtX (Qc := fun _ => vp_Si (fun r => r = 1)) (free := fun _ _ => False) (by decide) (Nat.le_of_ble_eq_true rfl) ?_
  intro p e s m below meth c ls A hB hl
  obtain ⟨hx, hb, hml, hr, hlocks, hnm, hown, ht, hK, hN, hA, hP, hD, hS⟩ := hB
  have hl : lv_has ls 1 [(0, .ref hv)] := hl
  refine lv_aload_n hx hb dX11_goThrough_0 rfl (lv_at hl 0 rfl) ?_
  refine va_get (D := D) (ci := 8) (v := .int 0) (C := "TuneSchool$Voice") (T := TX10) (N := 5) hx hb ht iX10 hown hK hP 0 rfl rfl 4 (by decide) (ht _ q1_46) (fun _ h9 => h9) rfl dX11_goThrough_1 ?_
  refine lv_if_ne (tgt := 9) hx hb dX11_goThrough_4 (by decide) (fun c_ => absurd c_ (by decide)) (fun _ => ?_)
  refine lv_iconst (v := 1) hx hb dX11_goThrough_7 (by decide) ?_
  exact W.iret (v := 1) hx hb hr (fun t ht hW => ⟨1, rfl, rfl, ht⟩) (fun _ h => by cases h) dX11_goThrough_8
set_option maxHeartbeats 4000000 in
set_option maxRecDepth 100000 in
theorem c_X5_openTrace (l : Launch) (D : va_G) (k : Nat → ClassId) (h0 : Nat) (r : Nat → Nat) : CV l yX5_openTrace cX5_openTrace 1 0 0 0 0 D k [(h0, .inr (5, oX5 r f5))] [.ref h0] (S := Unit) (fun (_ : Unit) => True) (fun _ => []) := by
  intro sz
  refine mtX (Qc := fun A => va_Qv (S := Unit) (fun (_ : Unit) => True) (fun u t => WX D A ((fun _ => []) u) t) A) (free := fun A => A) (by decide) (Nat.le_of_ble_eq_true rfl) ?_
  intro p e s m below meth c ls A hB hl
  obtain ⟨hx, hb, hml, hr, hlocks, hnm, hown, ht, hK, hN, hA, hP, hD, hS⟩ := hB
  have hl : lv_has ls 1 [(0, .ref h0)] := hl
  refine lv_aload_n hx hb dX5_openTrace_0 rfl (lv_at hl 0 rfl) ?_
  refine lv_iconst (v := 0) hx hb dX5_openTrace_1 (by decide) ?_
  refine va_put (D := D) (ci := 5) (v := .int 0) (ty := .int) (C := "TuneSchool$Moment") (T := TX5) (N := 11) hx hb ht iX5 tyX5 tyX5_ok nmX5 hown hK hP hD hS 0 rfl rfl 1 (by decide) (ht _ q1_69) (fun _ h9 => h9) rfl (by decide +kernel) rfl rfl (Nat.le_of_ble_eq_true rfl) dX5_openTrace_2 (fun H locs hP hD hS => ?_)
  have hP : va_P D clsL [(h0, .inr (5, oX5 r (va_up f5 1 0)))] H := hP
  have hD : va_D A [(h0, .inr (5, oX5 r (va_up f5 1 0)))] := hD
  refine lv_aload_n hx hb dX5_openTrace_5 rfl (lv_at hl 0 rfl) ?_
  refine lv_iconst (v := 1) hx hb dX5_openTrace_6 (by decide) ?_
  refine va_put (D := D) (ci := 5) (v := .int 1) (ty := .boolean) (C := "TuneSchool$Moment") (T := TX5) (N := 11) hx hb ht iX5 tyX5 tyX5_ok nmX5 hown hK hP hD hS 0 rfl rfl 2 (by decide) (ht _ q1_71) (fun _ h9 => h9) rfl (by decide +kernel) rfl rfl (Nat.le_of_ble_eq_true rfl) dX5_openTrace_7 (fun H locs hP hD hS => ?_)
  have hP : va_P D clsL [(h0, .inr (5, oX5 r (va_up (va_up f5 1 0) 2 1)))] H := hP
  have hD : va_D A [(h0, .inr (5, oX5 r (va_up (va_up f5 1 0) 2 1)))] := hD
  exact W.vret hx hb hr (fun t ht hW => ⟨⟨(), rfl, trivial, nilP, nilD⟩, hS.F ht⟩) hS.2.2 dX5_openTrace_10
set_option maxHeartbeats 4000000 in
set_option maxRecDepth 100000 in
theorem c_X1_isWorked (l : Launch) (D : va_G) (k : Nat → ClassId) (h0 : Nat) (r : Nat → Nat) : CP l yX1_isWorked cX1_isWorked 1 (some .boolean) 0 0 D k [(h0, .inr (1, oX1 r f1))] [.ref h0] (fun r => r = 0) := by
  intro sz
  refine mtX (Qc := fun _ => vp_Si (fun r => r = 0)) (free := fun _ _ => False) (by decide) (Nat.le_of_ble_eq_true rfl) ?_
  intro p e s m below meth c ls A hB hl
  obtain ⟨hx, hb, hml, hr, hlocks, hnm, hown, ht, hK, hN, hA, hP, hD, hS⟩ := hB
  have hl : lv_has ls 1 [(0, .ref h0)] := hl
  refine lv_aload_n hx hb dX1_isWorked_0 rfl (lv_at hl 0 rfl) ?_
  refine va_get (D := D) (ci := 1) (v := .int 0) (C := "TuneSchool$Desk") (T := TX1) (N := 17) hx hb ht iX1 hown hK hP 0 rfl rfl 3 (by decide) (ht _ q1_134) (fun _ h9 => h9) rfl dX1_isWorked_1 ?_
  refine lv_if_eq (tgt := 22) hx hb dX1_isWorked_4 (by decide) (fun _ => ?_) (fun c_ => absurd c_ (by decide))
  refine lv_iconst (v := 0) hx hb dX1_isWorked_22 (by decide) ?_
  exact W.zret (v := 0) (ty := .boolean) hx hb hr rfl (fun t ht hW => ⟨0, rfl, rfl, ht⟩) (fun _ h => by cases h) dX1_isWorked_23
set_option maxHeartbeats 4000000 in
set_option maxRecDepth 100000 in
theorem c_X11_standsAs (l : Launch) (D : va_G) (k : Nat → ClassId) (p0 : Int32) : CP l yX11_standsAs cX11_standsAs 2 (some .boolean) 0 0 D k [] [.null, .int p0] (fun r => r = 0) := by
  intro sz
  refine mtX (Qc := fun _ => vp_Si (fun r => r = 0)) (free := fun _ _ => False) (by decide) (Nat.le_of_ble_eq_true rfl) ?_
  intro p e s m below meth c ls A hB hl
  obtain ⟨hx, hb, hml, hr, hlocks, hnm, hown, ht, hK, hN, hA, hP, hD, hS⟩ := hB
  have hl : lv_has ls 2 [(0, .null), (1, .int p0)] := hl
  refine lv_iload_n hx hb dX11_standsAs_0 rfl (lv_at hl 1 rfl) ?_
  rcases (show (p0.toInt < 0 ∨ 3 < p0.toInt) ∨ p0.toInt = 0 ∨ p0.toInt = 1 ∨ p0.toInt = 2 ∨ p0.toInt = 3 by omega) with c_1 | c_1 | c_1 | c_1 | c_1
  · skip
    refine lv_tableOut (tgt := 52) hx hb dX11_standsAs_1 c_1 (by decide) ?_
    refine lv_aload_nN hx hb dX11_standsAs_52 rfl (lv_at hl 0 rfl) ?_
    refine lv_instN hx hb dX11_standsAs_53 ?_
    exact W.zret (v := 0) (ty := .boolean) hx hb hr rfl (fun t ht hW => ⟨0, rfl, rfl, ht⟩) (fun _ h => by cases h) dX11_standsAs_56
  · skip
    obtain rfl : p0 = 0 := eqI (by decide) c_1
    refine lv_tableIn (off := 31) (tgt := 32) hx hb dX11_standsAs_1 (by decide) (by decide) (by decide) (by decide) ?_
    refine lv_aload_nN hx hb dX11_standsAs_32 rfl (lv_at hl 0 rfl) ?_
    refine lv_instN hx hb dX11_standsAs_33 ?_
    exact W.zret (v := 0) (ty := .boolean) hx hb hr rfl (fun t ht hW => ⟨0, rfl, rfl, ht⟩) (fun _ h => by cases h) dX11_standsAs_36
  · skip
    obtain rfl : p0 = 1 := eqI (by decide) c_1
    refine lv_tableIn (off := 36) (tgt := 37) hx hb dX11_standsAs_1 (by decide) (by decide) (by decide) (by decide) ?_
    refine lv_aload_nN hx hb dX11_standsAs_37 rfl (lv_at hl 0 rfl) ?_
    refine lv_instN hx hb dX11_standsAs_38 ?_
    exact W.zret (v := 0) (ty := .boolean) hx hb hr rfl (fun t ht hW => ⟨0, rfl, rfl, ht⟩) (fun _ h => by cases h) dX11_standsAs_41
  · skip
    obtain rfl : p0 = 2 := eqI (by decide) c_1
    refine lv_tableIn (off := 41) (tgt := 42) hx hb dX11_standsAs_1 (by decide) (by decide) (by decide) (by decide) ?_
    refine lv_aload_nN hx hb dX11_standsAs_42 rfl (lv_at hl 0 rfl) ?_
    refine lv_instN hx hb dX11_standsAs_43 ?_
    exact W.zret (v := 0) (ty := .boolean) hx hb hr rfl (fun t ht hW => ⟨0, rfl, rfl, ht⟩) (fun _ h => by cases h) dX11_standsAs_46
  · skip
    obtain rfl : p0 = 3 := eqI (by decide) c_1
    refine lv_tableIn (off := 46) (tgt := 47) hx hb dX11_standsAs_1 (by decide) (by decide) (by decide) (by decide) ?_
    refine lv_aload_nN hx hb dX11_standsAs_47 rfl (lv_at hl 0 rfl) ?_
    refine lv_instN hx hb dX11_standsAs_48 ?_
    exact W.zret (v := 0) (ty := .boolean) hx hb hr rfl (fun t ht hW => ⟨0, rfl, rfl, ht⟩) (fun _ h => by cases h) dX11_standsAs_51
