set_option maxHeartbeats 400000 in
set_option maxRecDepth 100000 in
theorem voice_loop {p : Program} {l : Launch} {e : Env} {R : Room} {s : State} {m : MethodId} {args : Array Value} {below : List Frame} {meth : Method} {c : Code} {D : va_G} {k : Nat → ClassId} {A : Nat → Prop} {Q : State → Prop} {h0 j N : Nat} {r : Nat → Nat} {v ft fs : Nat → Int32} (hj : j < 6) (hN : N ≤ 24) (hx : p.tables.exec = Jvm.exec) (hb : c.code = cX12_voice) (hown : s.vm.findClass "TuneSchoolModel" = some m.cls) (ht : ∀ w ∈ gtb, w.before args s = true) (hK : va_K D clsL (tyL k) s)
    (kk : ∀ (f : Nat → Int32) (H : Heap) (locs : List Loc) (ls : Array Slot), va_S A s.heap H locs → W p l e R s m args below meth c H locs (0 + 0) (0 + 0) Q (F0 m 103 ls [])) :
    ∀ (n i : Nat) (f : Nat → Int32) (H : Heap) (locs : List Loc) (ls : Array Slot), i ≤ N → N + 1 ≤ i + n → va_P D clsL [(h0, .inr (10, oX12 r v)), ((r 2), .inl (k 1, 6, .inl ft)), ((r 3), .inl (k 0, 12, .inl fs)), ((r 4), .inl (k 0, 288, .inl f))] H → va_D A [(h0, .inr (10, oX12 r v)), ((r 2), .inl (k 1, 6, .inl ft)), ((r 3), .inl (k 0, 12, .inl fs)), ((r 4), .inl (k 0, 288, .inl f))] → va_S A s.heap H locs → lv_has ls 4 [(0, .ref h0), (1, .int (nI j)), (2, .int (nI N)), (3, .int (nI i))] → W p l e R s m args below meth c H locs (0 + 0) (0 + 0) Q (F0 m 64 ls []) := by
  intro n
  induction n with
  | zero => intro i f H locs ls h1 h2; omega
  | succ n ih =>
    intro i f H locs ls hi hn hP hD hS hl
    refine lv_iload_n hx hb dX12_voice_64 rfl (lv_at hl 3 rfl) ?_
    refine lv_iload_n hx hb dX12_voice_65 rfl (lv_at hl 2 rfl) ?_
    refine lv_icmp_ge (tgt := 103) hx hb dX12_voice_66 (by decide) (fun c_ => ?_) (fun c_ => ?_)
    · exact kk f H locs ls hS
    · have hlt : i < N := by
        rcases Nat.lt_or_ge i N with q | q
        · exact q
        · exact absurd (nI_le q (by omega)) c_
      refine lv_aload_n hx hb dX12_voice_69 rfl (lv_at hl 0 rfl) ?_
      refine va_get (D := D) (ci := 10) (v := .ref (r 4)) (C := "TuneSchoolModel") (T := TX12) (N := 71) hx hb ht iX12 hown hK hP 0 rfl rfl 4 (by decide) (ht _ q4_236) (fun _ h9 => h9) rfl dX12_voice_70 ?_
      refine lv_bipush (v := 48) hx hb dX12_voice_73 (by decide) ?_
      refine lv_iload_n hx hb dX12_voice_75 rfl (lv_at hl 1 rfl) ?_
      refine ev_imul (v := (nI (48 * j))) hx hb dX12_voice_76 (pk_mul 48 j) ?_
      refine lv_iload_n hx hb dX12_voice_77 rfl (lv_at hl 3 rfl) ?_
      refine ev_iadd (v := (nI ((48 * j) + i))) hx hb dX12_voice_78 (nI_add (48 * j) i) ?_
      refine lv_iconst (v := 0) hx hb dX12_voice_79 (by decide) ?_
      refine stI hx hb hK hP hD hS 3 rfl (vp_in_nI (by omega) (by decide)) dX12_voice_80 (fun H locs hP hD hS => ?_)
      have hP : va_P D clsL [(h0, .inr (10, oX12 r v)), ((r 2), .inl (k 1, 6, .inl ft)), ((r 3), .inl (k 0, 12, .inl fs)), ((r 4), .inl (k 0, 288, .inl (upd f (nI ((48 * j) + i)).toNatClampNeg 0)))] H := hP
      have hD : va_D A [(h0, .inr (10, oX12 r v)), ((r 2), .inl (k 1, 6, .inl ft)), ((r 3), .inl (k 0, 12, .inl fs)), ((r 4), .inl (k 0, 288, .inl (upd f (nI ((48 * j) + i)).toNatClampNeg 0)))] := hD
      refine lv_aload_n hx hb dX12_voice_81 rfl (lv_at hl 0 rfl) ?_
      refine va_get (D := D) (ci := 10) (v := .ref (r 4)) (C := "TuneSchoolModel") (T := TX12) (N := 71) hx hb ht iX12 hown hK hP 0 rfl rfl 4 (by decide) (ht _ q4_236) (fun _ h9 => h9) rfl dX12_voice_82 ?_
      refine lv_bipush (v := 24) hx hb dX12_voice_85 (by decide) ?_
      refine lv_iconst (v := 2) hx hb dX12_voice_87 (by decide) ?_
      refine lv_iload_n hx hb dX12_voice_88 rfl (lv_at hl 1 rfl) ?_
      refine ev_imul (v := (nI (2 * j))) hx hb dX12_voice_89 (pk_mul 2 j) ?_
      refine lv_iconst (v := 1) hx hb dX12_voice_90 (by decide) ?_
      refine ev_iadd (v := (nI ((2 * j) + 1))) hx hb dX12_voice_91 (nI_add (2 * j) 1) ?_
      refine ev_imul (v := (nI (24 * ((2 * j) + 1)))) hx hb dX12_voice_92 (pk_mul 24 ((2 * j) + 1)) ?_
      refine lv_iload_n hx hb dX12_voice_93 rfl (lv_at hl 3 rfl) ?_
      refine ev_iadd (v := (nI ((24 * ((2 * j) + 1)) + i))) hx hb dX12_voice_94 (nI_add (24 * ((2 * j) + 1)) i) ?_
      refine lv_iconst (v := 1) hx hb dX12_voice_95 (by decide) ?_
      refine stI hx hb hK hP hD hS 3 rfl (vp_in_nI (by omega) (by decide)) dX12_voice_96 (fun H locs hP hD hS => ?_)
      have hP : va_P D clsL [(h0, .inr (10, oX12 r v)), ((r 2), .inl (k 1, 6, .inl ft)), ((r 3), .inl (k 0, 12, .inl fs)), ((r 4), .inl (k 0, 288, .inl (upd (upd f (nI ((48 * j) + i)).toNatClampNeg 0) (nI ((24 * ((2 * j) + 1)) + i)).toNatClampNeg 1)))] H := hP
      have hD : va_D A [(h0, .inr (10, oX12 r v)), ((r 2), .inl (k 1, 6, .inl ft)), ((r 3), .inl (k 0, 12, .inl fs)), ((r 4), .inl (k 0, 288, .inl (upd (upd f (nI ((48 * j) + i)).toNatClampNeg 0) (nI ((24 * ((2 * j) + 1)) + i)).toNatClampNeg 1)))] := hD
      refine lv_iinc (v := nI (i + 1)) (lv' := [(3, .int (nI (i + 1))), (0, .ref h0), (1, .int (nI j)), (2, .int (nI N))]) hx hb dX12_voice_97 hl (k := 3) rfl (nI_1 i) (by decide) rfl (fun ls hl => ?_)
      refine lv_goto (tgt := 64) hx hb dX12_voice_100 (by decide) ?_
      exact ih (i + 1) _ H locs ls hlt (by omega) hP hD hS (lv_sub hl [1, 2, 3, 0] rfl)
set_option maxHeartbeats 400000 in
set_option maxRecDepth 100000 in
theorem c_X12_voice (l : Launch) (D : va_G) (k : Nat → ClassId) (h0 : Nat) (r : Nat → Nat) (p0 p1 : Int32)  : CI l yX12_voice cX12_voice 4 (some .int) 2 42 0 0 D k [(h0, .inr (10, oX12 r fm)), ((r 2), .inl (k 1, 6, .inl (fun _ => 0))), ((r 3), .inl (k 0, 12, .inl (fun _ => 0))), ((r 4), .inl (k 0, 288, .inl (fun _ => 0))), ((r 8), .inl (k 0, 2, .inl (fun _ => 0))), ((r 9), .inl (k 0, 48, .inl (fun _ => 0)))] [.ref h0, .int p0, .int p1] (S := Unit) (fun (r : Int32) (_ : Unit) => r = an_voice p0 p1) (fun _ => ([] : va_W)) := by
  intro sz
  refine mtX (Qc := fun A => va_Qi (S := Unit) (fun (r : Int32) (_ : Unit) => r = an_voice p0 p1) (fun u t => WX D A ((fun _ => ([] : va_W)) u) t) A) (free := fun A => A) (by decide) (Nat.le_of_ble_eq_true rfl) ?_
  intro p e s m below meth c ls A hB hl
  obtain ⟨hx, hb, hml, hr, hlocks, hnm, hown, ht, hK, hN, hA, hP, hD, hS⟩ := hB
  have hl : lv_has ls 4 [(0, .ref h0), (1, .int p0), (2, .int p1)] := hl
  refine lv_iload_n hx hb dX12_voice_0 rfl (lv_at hl 1 rfl) ?_
  refine afterP (xS (fr := 1) (lo := 22) (mc := 0) (ms := 0) (As := [.int p0]) (rest := []) (wc := []) ⟨hx, hb, hml, hown, ht⟩ (c_X12_isVoice l D k p0 _) hK hN nilP (nilD (A := A)) q5_211 q5_212 q1_6 q5_213 md_X12_isVoice ⟨by decide, by decide⟩ rfl hl.1 rfl (Nat.le_of_ble_eq_true rfl) dX12_voice_1 ⟨by decide, by decide⟩) (fun r_1 h_2 => ?_)
  rcases h_2 with ⟨rfl, h_2⟩ | ⟨rfl, h_2⟩
  · skip
    refine lv_if_eq (tgt := 13) hx hb dX12_voice_4 (by decide) (fun c_ => absurd c_ (by decide)) (fun _ => ?_)
    refine lv_iload_n hx hb dX12_voice_7 rfl (lv_at hl 2 rfl) ?_
    refine lv_bipush (v := 24) hx hb dX12_voice_8 (by decide) ?_
    refine lv_icmp_le (tgt := 15) hx hb dX12_voice_10 (by decide) (fun c_3 => ?_) (fun c_3 => ?_)
    · skip
      have c_3 := i_le (a := p1.toInt) (b := 24) rfl (by decide) c_3
      refine lv_aload_n hx hb dX12_voice_15 rfl (lv_at hl 0 rfl) ?_
      refine lv_iconst (v := 0) hx hb dX12_voice_16 (by decide) ?_
      refine va_put (D := D) (ci := 10) (v := .int 0) (ty := .int) (C := "TuneSchoolModel") (T := TX12) (N := 71) hx hb ht iX12 tyX12 tyX12_ok nmX12 hown hK hP hD hS 0 rfl rfl 0 (by decide) (ht _ q4_232) (fun _ h9 => h9) rfl (by decide +kernel) rfl rfl (Nat.le_of_ble_eq_true rfl) dX12_voice_17 (fun H locs hP hD hS => ?_)
      have hP : va_P D clsL [(h0, .inr (10, oX12 r (va_up fm 0 0))), ((r 2), .inl (k 1, 6, .inl (fun _ => 0))), ((r 3), .inl (k 0, 12, .inl (fun _ => 0))), ((r 4), .inl (k 0, 288, .inl (fun _ => 0))), ((r 8), .inl (k 0, 2, .inl (fun _ => 0))), ((r 9), .inl (k 0, 48, .inl (fun _ => 0)))] H := hP
      have hD : va_D A [(h0, .inr (10, oX12 r (va_up fm 0 0))), ((r 2), .inl (k 1, 6, .inl (fun _ => 0))), ((r 3), .inl (k 0, 12, .inl (fun _ => 0))), ((r 4), .inl (k 0, 288, .inl (fun _ => 0))), ((r 8), .inl (k 0, 2, .inl (fun _ => 0))), ((r 9), .inl (k 0, 48, .inl (fun _ => 0)))] := hD
      refine lv_iload_n hx hb dX12_voice_20 rfl (lv_at hl 2 rfl) ?_
      refine lv_if_ge (tgt := 30) hx hb dX12_voice_21 (by decide) (fun c_4 => ?_) (fun c_4 => ?_)
      · skip
        have c_4 := i_le (a := 0) (b := p1.toInt) (by decide) rfl c_4
        refine lv_aload_n hx hb dX12_voice_30 rfl (lv_at hl 0 rfl) ?_
        refine lv_iload_n hx hb dX12_voice_31 rfl (lv_at hl 1 rfl) ?_
        refine afterV (wr := []) (xV (fr := 0) (lo := 0) (mc := 0) (ms := 0) (As := [.int p0]) (rest := []) (wc := [(h0, .inr (10, oX12 r (va_up fm 0 0))), ((r 2), .inl (k 1, 6, .inl (fun _ => 0))), ((r 3), .inl (k 0, 12, .inl (fun _ => 0))), ((r 4), .inl (k 0, 288, .inl (fun _ => 0))), ((r 8), .inl (k 0, 2, .inl (fun _ => 0))), ((r 9), .inl (k 0, 48, .inl (fun _ => 0)))]) ⟨hx, hb, hml, hown, ht⟩ (c_X12_keep l D k h0 r (va_up fm 0 0) p0 (by omega) (by omega) _) hK hN (hP.sub (ws' := [(h0, .inr (10, oX12 r (va_up fm 0 0))), ((r 2), .inl (k 1, 6, .inl (fun _ => 0))), ((r 3), .inl (k 0, 12, .inl (fun _ => 0))), ((r 4), .inl (k 0, 288, .inl (fun _ => 0))), ((r 8), .inl (k 0, 2, .inl (fun _ => 0))), ((r 9), .inl (k 0, 48, .inl (fun _ => 0)))]) [0, 1, 2, 3, 4, 5] rfl) (hD.sub (ws' := [(h0, .inr (10, oX12 r (va_up fm 0 0))), ((r 2), .inl (k 1, 6, .inl (fun _ => 0))), ((r 3), .inl (k 0, 12, .inl (fun _ => 0))), ((r 4), .inl (k 0, 288, .inl (fun _ => 0))), ((r 8), .inl (k 0, 2, .inl (fun _ => 0))), ((r 9), .inl (k 0, 48, .inl (fun _ => 0)))]) [0, 1, 2, 3, 4, 5] (by decide) rfl) 10 0 rfl rfl rfl q5_221 q5_223 qs_18 q1_6 q5_224 md_X12_keep ⟨by decide, by decide⟩ rfl hl.1 rfl (Nat.le_of_ble_eq_true rfl) dX12_voice_32 ⟨by decide, by decide⟩) hP hD hS hA [0, 1, 2, 3, 4, 5] [] rfl rfl rfl (by decide) (fun u_6 H locs h_7 hP hD hS => ?_)
        have hP : va_P D clsL [(h0, .inr (10, oX12 r (va_up (va_up (va_up (va_up fm 0 0) 5 1) 6 p0) 7 0))), ((r 2), .inl (k 1, 6, .inl (fun _ => 0))), ((r 3), .inl (k 0, 12, .inl (fun _ => 0))), ((r 4), .inl (k 0, 288, .inl (fun _ => 0)))] H := hP
        have hD : va_D A [(h0, .inr (10, oX12 r (va_up (va_up (va_up (va_up fm 0 0) 5 1) 6 p0) 7 0))), ((r 2), .inl (k 1, 6, .inl (fun _ => 0))), ((r 3), .inl (k 0, 12, .inl (fun _ => 0))), ((r 4), .inl (k 0, 288, .inl (fun _ => 0)))] := hD
        obtain ⟨j, hj, rfl⟩ := vp_in_of (vin (n := 6) (i := p0) (by omega) (by omega)) (by decide)
        have hjt : (nI j).toInt = (j : Int) := nI_toInt (by omega)
        refine lv_aload_n hx hb dX12_voice_35 rfl (lv_at hl 0 rfl) ?_
        refine va_get (D := D) (ci := 10) (v := .ref (r 2)) (C := "TuneSchoolModel") (T := TX12) (N := 71) hx hb ht iX12 hown hK hP 0 rfl rfl 2 (by decide) (ht _ q4_234) (fun _ h9 => h9) rfl dX12_voice_36 ?_
        refine lv_iload_n hx hb dX12_voice_39 rfl (lv_at hl 1 rfl) ?_
        refine lv_iconst (v := 1) hx hb dX12_voice_40 (by decide) ?_
        refine stZ hx hb hK hP hD hS 1 rfl (vp_in_nI (by omega) (by decide)) dX12_voice_41 (fun H locs hP hD hS => ?_)
        have hP : va_P D clsL [(h0, .inr (10, oX12 r (va_up (va_up (va_up (va_up fm 0 0) 5 1) 6 (nI j)) 7 0))), ((r 2), .inl (k 1, 6, .inl (upd (fun _ => 0) (nI j).toNatClampNeg (vp_nar .boolean 1)))), ((r 3), .inl (k 0, 12, .inl (fun _ => 0))), ((r 4), .inl (k 0, 288, .inl (fun _ => 0)))] H := hP
        have hD : va_D A [(h0, .inr (10, oX12 r (va_up (va_up (va_up (va_up fm 0 0) 5 1) 6 (nI j)) 7 0))), ((r 2), .inl (k 1, 6, .inl (upd (fun _ => 0) (nI j).toNatClampNeg (vp_nar .boolean 1)))), ((r 3), .inl (k 0, 12, .inl (fun _ => 0))), ((r 4), .inl (k 0, 288, .inl (fun _ => 0)))] := hD
        refine lv_aload_n hx hb dX12_voice_42 rfl (lv_at hl 0 rfl) ?_
        refine va_get (D := D) (ci := 10) (v := .ref (r 3)) (C := "TuneSchoolModel") (T := TX12) (N := 71) hx hb ht iX12 hown hK hP 0 rfl rfl 3 (by decide) (ht _ q4_235) (fun _ h9 => h9) rfl dX12_voice_43 ?_
        refine lv_iconst (v := 2) hx hb dX12_voice_46 (by decide) ?_
        refine lv_iload_n hx hb dX12_voice_47 rfl (lv_at hl 1 rfl) ?_
        refine ev_imul (v := (nI (2 * j))) hx hb dX12_voice_48 (pk_mul 2 j) ?_
        refine lv_iload_n hx hb dX12_voice_49 rfl (lv_at hl 2 rfl) ?_
        refine stI hx hb hK hP hD hS 2 rfl (vp_in_nI (by omega) (by decide)) dX12_voice_50 (fun H locs hP hD hS => ?_)
        have hP : va_P D clsL [(h0, .inr (10, oX12 r (va_up (va_up (va_up (va_up fm 0 0) 5 1) 6 (nI j)) 7 0))), ((r 2), .inl (k 1, 6, .inl (upd (fun _ => 0) (nI j).toNatClampNeg (vp_nar .boolean 1)))), ((r 3), .inl (k 0, 12, .inl (upd (fun _ => 0) (nI (2 * j)).toNatClampNeg p1))), ((r 4), .inl (k 0, 288, .inl (fun _ => 0)))] H := hP
        have hD : va_D A [(h0, .inr (10, oX12 r (va_up (va_up (va_up (va_up fm 0 0) 5 1) 6 (nI j)) 7 0))), ((r 2), .inl (k 1, 6, .inl (upd (fun _ => 0) (nI j).toNatClampNeg (vp_nar .boolean 1)))), ((r 3), .inl (k 0, 12, .inl (upd (fun _ => 0) (nI (2 * j)).toNatClampNeg p1))), ((r 4), .inl (k 0, 288, .inl (fun _ => 0)))] := hD
        refine lv_aload_n hx hb dX12_voice_51 rfl (lv_at hl 0 rfl) ?_
        refine va_get (D := D) (ci := 10) (v := .ref (r 3)) (C := "TuneSchoolModel") (T := TX12) (N := 71) hx hb ht iX12 hown hK hP 0 rfl rfl 3 (by decide) (ht _ q4_235) (fun _ h9 => h9) rfl dX12_voice_52 ?_
        refine lv_iconst (v := 2) hx hb dX12_voice_55 (by decide) ?_
        refine lv_iload_n hx hb dX12_voice_56 rfl (lv_at hl 1 rfl) ?_
        refine ev_imul (v := (nI (2 * j))) hx hb dX12_voice_57 (pk_mul 2 j) ?_
        refine lv_iconst (v := 1) hx hb dX12_voice_58 (by decide) ?_
        refine ev_iadd (v := (nI ((2 * j) + 1))) hx hb dX12_voice_59 (nI_add (2 * j) 1) ?_
        refine lv_iload_n hx hb dX12_voice_60 rfl (lv_at hl 2 rfl) ?_
        refine stI hx hb hK hP hD hS 2 rfl (vp_in_nI (by omega) (by decide)) dX12_voice_61 (fun H locs hP hD hS => ?_)
        have hP : va_P D clsL [(h0, .inr (10, oX12 r (va_up (va_up (va_up (va_up fm 0 0) 5 1) 6 (nI j)) 7 0))), ((r 2), .inl (k 1, 6, .inl (upd (fun _ => 0) (nI j).toNatClampNeg (vp_nar .boolean 1)))), ((r 3), .inl (k 0, 12, .inl (upd (upd (fun _ => 0) (nI (2 * j)).toNatClampNeg p1) (nI ((2 * j) + 1)).toNatClampNeg p1))), ((r 4), .inl (k 0, 288, .inl (fun _ => 0)))] H := hP
        have hD : va_D A [(h0, .inr (10, oX12 r (va_up (va_up (va_up (va_up fm 0 0) 5 1) 6 (nI j)) 7 0))), ((r 2), .inl (k 1, 6, .inl (upd (fun _ => 0) (nI j).toNatClampNeg (vp_nar .boolean 1)))), ((r 3), .inl (k 0, 12, .inl (upd (upd (fun _ => 0) (nI (2 * j)).toNatClampNeg p1) (nI ((2 * j) + 1)).toNatClampNeg p1))), ((r 4), .inl (k 0, 288, .inl (fun _ => 0)))] := hD
        refine lv_iconst (v := 0) hx hb dX12_voice_62 (by decide) ?_
        refine lv_istore_n (lv' := [(3, .int 0), (0, .ref h0), (1, .int (nI j)), (2, .int p1)]) hx hb dX12_voice_63 rfl hl (by decide) rfl (fun ls hl => ?_)
        obtain ⟨N, hN, rfl⟩ := vp_in_of (vin (n := 25) (i := p1) (by omega) (by omega)) (by decide)
        have hNt : (nI N).toInt = (N : Int) := nI_toInt (by omega)
        have hP := hP.sub (ws' := [(h0, .inr (10, oX12 r (va_up (va_up (va_up (va_up fm 0 0) 5 1) 6 (nI j)) 7 0))), ((r 2), .inl (k 1, 6, .inl (upd (fun _ => 0) (nI j).toNatClampNeg (vp_nar .boolean 1)))), ((r 3), .inl (k 0, 12, .inl (upd (upd (fun _ => 0) (nI (2 * j)).toNatClampNeg (nI N)) (nI ((2 * j) + 1)).toNatClampNeg (nI N)))), ((r 4), .inl (k 0, 288, .inl (fun _ => 0)))]) [0, 1, 2, 3] rfl
        have hD := hD.sub (ws' := [(h0, .inr (10, oX12 r (va_up (va_up (va_up (va_up fm 0 0) 5 1) 6 (nI j)) 7 0))), ((r 2), .inl (k 1, 6, .inl (upd (fun _ => 0) (nI j).toNatClampNeg (vp_nar .boolean 1)))), ((r 3), .inl (k 0, 12, .inl (upd (upd (fun _ => 0) (nI (2 * j)).toNatClampNeg (nI N)) (nI ((2 * j) + 1)).toNatClampNeg (nI N)))), ((r 4), .inl (k 0, 288, .inl (fun _ => 0)))]) [0, 1, 2, 3] (by decide) rfl
        refine voice_loop hj (by omega) hx hb hown ht hK (fun f H locs ls hS => ?_) (N + 1) 0 _ _ _ _ (by omega) (by omega) hP hD hS (lv_sub hl [1, 2, 3, 0] rfl)
        refine lv_iconst (v := 1) hx hb dX12_voice_103 (by decide) ?_
        exact W.iret (v := 1) hx hb hr (fun t ht hW => ⟨⟨1, (), rfl, (by first | (unfold an_voice; (repeat' split) <;> first | rfl | (exfalso; omega)) | rfl | decide), nilP, nilD⟩, hS.F ht⟩) hS.2.2 dX12_voice_104
      · skip
        have c_4 := i_nle (a := 0) (b := p1.toInt) (by decide) rfl c_4
        refine lv_aload_n hx hb dX12_voice_24 rfl (lv_at hl 0 rfl) ?_
        refine lv_iconst (v := 5) hx hb dX12_voice_25 (by decide) ?_
        refine afterI (wr := [((r 2), .inl (k 1, 6, .inl (fun _ => 0))), ((r 3), .inl (k 0, 12, .inl (fun _ => 0))), ((r 4), .inl (k 0, 288, .inl (fun _ => 0))), ((r 8), .inl (k 0, 2, .inl (fun _ => 0))), ((r 9), .inl (k 0, 48, .inl (fun _ => 0)))]) (xV (fr := 0) (lo := 0) (mc := 0) (ms := 0) (As := [.int 5]) (rest := []) (wc := [(h0, .inr (10, oX12 r (va_up fm 0 0)))]) ⟨hx, hb, hml, hown, ht⟩ (c_X12_finds l D k h0 r (va_up fm 0 0) 5 _) hK hN (hP.sub (ws' := [(h0, .inr (10, oX12 r (va_up fm 0 0)))]) [0] rfl) (hD.sub (ws' := [(h0, .inr (10, oX12 r (va_up fm 0 0)))]) [0] (by decide) rfl) 10 0 rfl rfl rfl q5_217 q5_219 qs_17 q1_6 q5_220 md_X12_finds ⟨by decide, by decide⟩ rfl hl.1 rfl (Nat.le_of_ble_eq_true rfl) dX12_voice_26 ⟨by decide, by decide⟩) hP hD hS hA [0] [1, 2, 3, 4, 5] rfl rfl rfl (by decide) (fun r_8 u_9 H locs h_10 hP hD hS => ?_)
        obtain rfl : r_8 = (-15) := h_10.trans (by decide)
        have hP : va_P D clsL [((r 2), .inl (k 1, 6, .inl (fun _ => 0))), ((r 3), .inl (k 0, 12, .inl (fun _ => 0))), ((r 4), .inl (k 0, 288, .inl (fun _ => 0))), ((r 8), .inl (k 0, 2, .inl (fun _ => 0))), ((r 9), .inl (k 0, 48, .inl (fun _ => 0)))] H := hP
        have hD : va_D A [((r 2), .inl (k 1, 6, .inl (fun _ => 0))), ((r 3), .inl (k 0, 12, .inl (fun _ => 0))), ((r 4), .inl (k 0, 288, .inl (fun _ => 0))), ((r 8), .inl (k 0, 2, .inl (fun _ => 0))), ((r 9), .inl (k 0, 48, .inl (fun _ => 0)))] := hD
        exact W.iret (v := (-15)) hx hb hr (fun t ht hW => ⟨⟨(-15), (), rfl, (by first | (unfold an_voice; (repeat' split) <;> first | rfl | (exfalso; omega)) | rfl | decide), nilP, nilD⟩, hS.F ht⟩) hS.2.2 dX12_voice_29
    · skip
      have c_3 := i_nle (a := p1.toInt) (b := 24) rfl (by decide) c_3
      refine lv_iconst (v := (-1)) hx hb dX12_voice_13 (by decide) ?_
      exact W.iret (v := (-1)) hx hb hr (fun t ht hW => ⟨⟨(-1), (), rfl, (by first | (unfold an_voice; (repeat' split) <;> first | rfl | (exfalso; omega)) | rfl | decide), nilP, nilD⟩, hS.F ht⟩) hS.2.2 dX12_voice_14
  · skip
    refine lv_if_eq (tgt := 13) hx hb dX12_voice_4 (by decide) (fun _ => ?_) (fun c_ => absurd c_ (by decide))
    refine lv_iconst (v := (-1)) hx hb dX12_voice_13 (by decide) ?_
    exact W.iret (v := (-1)) hx hb hr (fun t ht hW => ⟨⟨(-1), (), rfl, (by first | (unfold an_voice; (repeat' split) <;> first | rfl | (exfalso; omega)) | rfl | decide), nilP, nilD⟩, hS.F ht⟩) hS.2.2 dX12_voice_14
