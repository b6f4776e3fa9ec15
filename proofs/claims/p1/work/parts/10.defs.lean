abbrev f0 : Nat → Int32 := fun _ => 0
abbrev f9 : Nat → Int32 := fun j => if j = 13 then -2 else 0
abbrev f5 : Nat → Int32 := fun j => if j = 3 then 4 else 0
abbrev f1 : Nat → Int32 := fun j => if j = 2 then 4095 else if j = 8 then 1 else if j = 9 then 1 else 0
abbrev fm : Nat → Int32 := fun j => if j = 24 then 4 else if j = 25 then 4095 else 0
theorem eqI {x c : Int32} {n : Int} (hc : c.toInt = n) (h : x.toInt = n) : x = c := Int32.toInt_inj.mp (by rw [hc]; exact h)
theorem subI {x y : Int32} (h1 : 0 ≤ x.toInt) (h2 : 0 ≤ y.toInt) : (x - y).toInt = x.toInt - y.toInt := by
  have a1 := Int32.toInt_lt x
  have a2 := Int32.toInt_lt y
  obtain ⟨a, ha, rfl⟩ := nI_of (x := x) (fun q => by rw [Int32.lt_iff_toInt_lt] at q; have h0 : (0 : Int32).toInt = 0 := by decide
                                                     omega)
  obtain ⟨b, hb, rfl⟩ := nI_of (x := y) (fun q => by rw [Int32.lt_iff_toInt_lt] at q; have h0 : (0 : Int32).toInt = 0 := by decide
                                                     omega)
  rw [Int32.toInt_sub, nI_toInt ha, nI_toInt hb]
  exact Int.bmod_eq_of_le (by omega) (by omega)
def an_voice (p0 p1 : Int32) : Int32 := if ¬ (0 ≤ p0.toInt ∧ p0.toInt ≤ 5) ∨ 24 < p1.toInt then -1 else if p1.toInt < 0 then -15 else 1
def an_drop (p0 : Int32) : Int32 := if ¬ (0 ≤ p0.toInt ∧ p0.toInt ≤ 5) then -1 else 0
def an_note (p0 p1 p2 p3 : Int32) : Int32 := if ¬ (0 ≤ p0.toInt ∧ p0.toInt ≤ 5) ∨ ¬ (0 ≤ p2.toInt ∧ p2.toInt ≤ 120) ∨ ¬ (0 ≤ p3.toInt ∧ p3.toInt ≤ 8) then -1 else -11
def an_cut (p0 p1 p2 : Int32) : Int32 := if ¬ (0 ≤ p0.toInt ∧ p0.toInt ≤ 5) ∨ ¬ (0 ≤ p1.toInt ∧ p1.toInt ≤ 1) ∨ 24 < p2.toInt then -1 else -11
def an_size (p0 p1 : Int32) : Int32 := if ¬ (0 ≤ p0.toInt ∧ p0.toInt ≤ 5) ∨ ¬ (0 ≤ p1.toInt ∧ p1.toInt ≤ 1) then -1 else -11
def an_number (p0 p1 p2 : Int32) : Int32 := if ¬ (0 ≤ p0.toInt ∧ p0.toInt ≤ 5) ∨ ¬ (0 ≤ p1.toInt ∧ p1.toInt ≤ 1) then -1 else -11
def an_end (p0 : Int32) : Int32 := if ¬ (0 ≤ p0.toInt ∧ p0.toInt ≤ 5) then -1 else -11
def an_sounds (p0 p1 : Int32) : Int32 := if ¬ (0 ≤ p0.toInt ∧ p0.toInt ≤ 5) ∨ p1.toInt < 0 then -1 else -11
def an_transpose (p0 p1 : Int32) : Int32 := if ¬ (0 ≤ p0.toInt ∧ p0.toInt ≤ 5) ∨ ¬ (-60 ≤ p1.toInt ∧ p1.toInt ≤ 60) then -1 else -11
def an_copy (p0 p1 p2 p3 p4 : Int32) : Int32 := if ¬ (0 ≤ p0.toInt ∧ p0.toInt ≤ 5) ∨ ¬ (0 ≤ p2.toInt ∧ p2.toInt ≤ 5) then -1 else -11
def an_undo  : Int32 := -17
def an_rule (p0 p1 : Int32) : Int32 := if ¬ (0 ≤ p0.toInt ∧ p0.toInt ≤ 15) ∨ ¬ (0 ≤ p1.toInt ∧ p1.toInt ≤ 3) then -1 else 1
def an_school (p0 p1 p2 : Int32) : Int32 := if ¬ (0 ≤ p0.toInt ∧ p0.toInt ≤ 15) ∨ ¬ (0 ≤ p1.toInt ∧ p1.toInt ≤ 2) ∨ 8 < p2.toInt then -1 else if p2.toInt < 0 then -15 else 1
def an_clear (p0 : Int32) : Int32 := if ¬ (0 ≤ p0.toInt ∧ p0.toInt ≤ 15) then -1 else 0
def an_truth (p0 p1 p2 p3 : Int32) : Int32 := if ¬ (0 ≤ p0.toInt ∧ p0.toInt ≤ 15) ∨ ¬ (0 ≤ p1.toInt ∧ p1.toInt ≤ 2) then -1 else -11
def an_is (p0 p1 : Int32) : Int32 := if ¬ (0 ≤ p0.toInt ∧ p0.toInt ≤ 15) ∨ ¬ (0 ≤ p1.toInt ∧ p1.toInt ≤ 4) then -1 else 0
def an_seat (p0 p1 p2 : Int32) : Int32 := if ¬ (0 ≤ p0.toInt ∧ p0.toInt ≤ 15) ∨ ¬ (0 ≤ p2.toInt ∧ p2.toInt ≤ 15) then -1 else -11
def an_seated (p0 p1 : Int32) : Int32 := if ¬ (0 ≤ p0.toInt ∧ p0.toInt ≤ 15) then -1 else -11
def an_strong (p0 : Int32) : Int32 := if ¬ (1 ≤ p0.toInt ∧ p0.toInt ≤ 16) then -1 else 4
def an_key (p0 : Int32) : Int32 := if ¬ (0 ≤ p0.toInt ∧ p0.toInt ≤ 4095) then -1 else 4095
def an_weight (p0 p1 : Int32) : Int32 := if ¬ (0 ≤ p0.toInt ∧ p0.toInt ≤ 2) ∨ ¬ (0 ≤ p1.toInt ∧ p1.toInt ≤ 9) then -1 else 1
def an_faults (p0 : Int32) : Int32 := if ¬ (0 ≤ p0.toInt ∧ p0.toInt ≤ 15) then -1 else -11
def an_fault (p0 p1 : Int32) : Int32 := if ¬ (0 ≤ p1.toInt ∧ p1.toInt ≤ 3) then -1 else -2
def an_mend (p0 : Int32) : Int32 := -2
def an_canon (p0 p1 p2 p3 p4 : Int32) : Int32 := if ¬ (0 ≤ p0.toInt ∧ p0.toInt ≤ 5) ∨ ¬ (0 ≤ p1.toInt ∧ p1.toInt ≤ 15) ∨ ¬ (0 ≤ p2.toInt ∧ p2.toInt ≤ 60) ∨ ¬ (-60 ≤ p3.toInt ∧ p3.toInt ≤ 60) ∨ ¬ (0 ≤ p4.toInt ∧ p4.toInt ≤ 2) then -1 else -11
def an_canons (p0 p1 p2 p3 : Int32) : Int32 := if ¬ (0 ≤ p0.toInt ∧ p0.toInt ≤ 5) ∨ ¬ (0 ≤ p1.toInt ∧ p1.toInt ≤ 15) ∨ ¬ (-60 ≤ p2.toInt ∧ p2.toInt ≤ 60) ∨ ¬ (0 ≤ p3.toInt ∧ p3.toInt ≤ 2) then -1 else -11
def an_follows (p0 p1 p2 p3 p4 : Int32) : Int32 := if ¬ (0 ≤ p0.toInt ∧ p0.toInt ≤ 5) ∨ ¬ (0 ≤ p1.toInt ∧ p1.toInt ≤ 1000) ∨ ¬ (0 ≤ p2.toInt ∧ p2.toInt ≤ 60) ∨ ¬ (-60 ≤ p3.toInt ∧ p3.toInt ≤ 60) ∨ ¬ (0 ≤ p4.toInt ∧ p4.toInt ≤ 2) then -1 else -11
def an_set (p0 p1 p2 p3 p4 p5 p6 : Int32) : Int32 := if ¬ (0 ≤ p0.toInt ∧ p0.toInt ≤ 5) ∨ ¬ (0 ≤ p1.toInt ∧ p1.toInt ≤ 5) ∨ ¬ (0 ≤ p2.toInt ∧ p2.toInt ≤ 15) ∨ ¬ (0 ≤ p6.toInt ∧ p6.toInt ≤ 30) ∨ ¬ (1 ≤ p4.toInt ∧ p4.toInt ≤ 120) ∨ ¬ (p4.toInt ≤ p5.toInt ∧ p5.toInt ≤ 120) ∨ 15 < p5.toInt - p4.toInt then -1 else -11
def an_goOn (p0 : Int32) : Int32 := if ¬ (0 ≤ p0.toInt ∧ p0.toInt ≤ 30) then -1 else -17
def an_least  : Int32 := -2
def an_many  : Int32 := -2
def an_row (p0 p1 p2 : Int32) : Int32 := -2
def an_spoil (p0 p1 p2 p3 : Int32) : Int32 := -2
def an_check  : Int32 := -2
def an_print (p0 : Int32) : Int32 := if ¬ (0 ≤ p0.toInt ∧ p0.toInt ≤ 5) then -1 else -11
def an_read (p0 : Int32) : Int32 := if ¬ (0 ≤ p0.toInt ∧ p0.toInt ≤ 5) then -1 else 0
def an_put (p0 p1 : Int32) : Int32 := if ¬ (0 ≤ p0.toInt ∧ p0.toInt ≤ 0) ∨ ¬ (32 ≤ p1.toInt ∧ p1.toInt ≤ 126) then -1 else 1
def an_cutLine (p0 : Int32) : Int32 := if ¬ (0 ≤ p0.toInt ∧ p0.toInt ≤ 0) then -1 else 0
def an_character (p0 : Int32) : Int32 := -2
def an_status  : Int32 := 0
def an_trace (p0 : Int32) : Int32 := -2
def an_count (p0 : Int32) : Int32 := if ¬ (0 ≤ p0.toInt ∧ p0.toInt ≤ 7) then -1 else 0
