abbrev oX0 (r : Nat → Nat) (v : Nat → Int32) : List Value := [.ref (r 0)]
abbrev oX1 (r : Nat → Nat) (v : Nat → Int32) : List Value := [.ref (r 0), .ref (r 1), .int (v 2), .int (v 3), .int (v 4), .int (v 5), .int (v 6), .int (v 7), .int (v 8), .int (v 9), .int (v 10), .int (v 11), .ref (r 12), .ref (r 13), .ref (r 14), .ref (r 15), .ref (r 16)]
abbrev oX2 (r : Nat → Nat) (v : Nat → Int32) : List Value := [.ref (r 0)]
abbrev oX3 (r : Nat → Nat) (v : Nat → Int32) : List Value := [.ref (r 0)]
abbrev oX4 (r : Nat → Nat) (v : Nat → Int32) : List Value := [.ref (r 0), .int (v 1), .int (v 2)]
abbrev oX5 (r : Nat → Nat) (v : Nat → Int32) : List Value := [.ref (r 0), .int (v 1), .int (v 2), .int (v 3), .int (v 4), .int (v 5), .int (v 6), .int (v 7), .int (v 8), .int (v 9), .null]
abbrev oX6 (r : Nat → Nat) (v : Nat → Int32) : List Value := [.ref (r 0)]
abbrev oX8 (r : Nat → Nat) (v : Nat → Int32) : List Value := [.int (v 0), .ref (r 1)]
abbrev oX10 (r : Nat → Nat) (v : Nat → Int32) : List Value := [.ref (r 0), .ref (r 1), .ref (r 2), .int (v 3), .int (v 4)]
abbrev oX11 (r : Nat → Nat) (v : Nat → Int32) : List Value := [.ref (r 0), .ref (r 1), .ref (r 2), .ref (r 3), .ref (r 4), .ref (r 5), .ref (r 6), .ref (r 7), .ref (r 8), .ref (r 9), .ref (r 10), .int (v 11), .int (v 12), .int (v 13), .int (v 14), .int (v 15), .int (v 16)]
abbrev oX12 (r : Nat → Nat) (v : Nat → Int32) : List Value := [.int (v 0), .int (v 1), .ref (r 2), .ref (r 3), .ref (r 4), .int (v 5), .int (v 6), .int (v 7), .ref (r 8), .ref (r 9), .int (v 10), .ref (r 11), .ref (r 12), .int (v 13), .ref (r 14), .ref (r 15), .ref (r 16), .ref (r 17), .int (v 18), .ref (r 19), .ref (r 20), .ref (r 21), .ref (r 22), .ref (r 23), .int (v 24), .int (v 25), .ref (r 26), .int (v 27), .int (v 28), .ref (r 29), .int (v 30), .int (v 31), .ref (r 32), .ref (r 33), .ref (r 34), .ref (r 35), .ref (r 36), .ref (r 37), .int (v 38), .ref (r 39), .int (v 40), .int (v 41), .int (v 42), .ref (r 43), .int (v 44), .int (v 45), .int (v 46), .int (v 47), .int (v 48), .int (v 49), .int (v 50), .ref (r 51), .ref (r 52), .ref (r 53), .int (v 54), .int (v 55), .int (v 56), .int (v 57), .int (v 58), .int (v 59), .ref (r 60), .ref (r 61), .ref (r 62), .ref (r 63), .int (v 64), .int (v 65), .int (v 66), .ref (r 67), .ref (r 68), .ref (r 69), .int (v 70)]
theorem iX0 : ∀ w ∈ u_ws "TuneSchool$Cadence" TX0 1, w ∈ gtb := by
  intro w hw
  obtain ⟨j, hj, rfl⟩ := List.mem_map.mp hw
  have hj := List.mem_range.mp hj
  match j, hj with
  | 0, _ => exact q2_171
  | j + 1, hj => omega
theorem iX1 : ∀ w ∈ u_ws "TuneSchool$Desk" TX1 17, w ∈ gtb := by
  intro w hw
  obtain ⟨j, hj, rfl⟩ := List.mem_map.mp hw
  have hj := List.mem_range.mp hj
  match j, hj with
  | 0, _ => exact q1_152
  | 1, _ => exact q1_154
  | 2, _ => exact q1_156
  | 3, _ => exact q1_158
  | 4, _ => exact q1_160
  | 5, _ => exact q1_162
  | 6, _ => exact q1_164
  | 7, _ => exact q1_166
  | 8, _ => exact q1_168
  | 9, _ => exact q1_170
  | 10, _ => exact q1_172
  | 11, _ => exact q1_174
  | 12, _ => exact q1_176
  | 13, _ => exact q1_178
  | 14, _ => exact q1_180
  | 15, _ => exact q1_182
  | 16, _ => exact q1_184
  | j + 17, hj => omega
theorem iX2 : ∀ w ∈ u_ws "TuneSchool$Interval" TX2 1, w ∈ gtb := by
  intro w hw
  obtain ⟨j, hj, rfl⟩ := List.mem_map.mp hw
  have hj := List.mem_range.mp hj
  match j, hj with
  | 0, _ => exact q2_176
  | j + 1, hj => omega
theorem iX3 : ∀ w ∈ u_ws "TuneSchool$Leap" TX3 1, w ∈ gtb := by
  intro w hw
  obtain ⟨j, hj, rfl⟩ := List.mem_map.mp hw
  have hj := List.mem_range.mp hj
  match j, hj with
  | 0, _ => exact q2_163
  | j + 1, hj => omega
theorem iX4 : ∀ w ∈ u_ws "TuneSchool$Line" TX4 3, w ∈ gtb := by
  intro w hw
  obtain ⟨j, hj, rfl⟩ := List.mem_map.mp hw
  have hj := List.mem_range.mp hj
  match j, hj with
  | 0, _ => exact q1_198
  | 1, _ => exact q1_200
  | 2, _ => exact q1_202
  | j + 3, hj => omega
theorem iX5 : ∀ w ∈ u_ws "TuneSchool$Moment" TX5 11, w ∈ gtb := by
  intro w hw
  obtain ⟨j, hj, rfl⟩ := List.mem_map.mp hw
  have hj := List.mem_range.mp hj
  match j, hj with
  | 0, _ => exact q1_98
  | 1, _ => exact q1_100
  | 2, _ => exact q1_102
  | 3, _ => exact q1_104
  | 4, _ => exact q1_106
  | 5, _ => exact q1_108
  | 6, _ => exact q1_110
  | 7, _ => exact q1_112
  | 8, _ => exact q1_114
  | 9, _ => exact q1_116
  | 10, _ => exact q1_118
  | j + 11, hj => omega
theorem iX6 : ∀ w ∈ u_ws "TuneSchool$Motion" TX6 1, w ∈ gtb := by
  intro w hw
  obtain ⟨j, hj, rfl⟩ := List.mem_map.mp hw
  have hj := List.mem_range.mp hj
  match j, hj with
  | 0, _ => exact q2_153
  | j + 1, hj => omega
theorem iX8 : ∀ w ∈ u_ws "TuneSchool$School" TX8 2, w ∈ gtb := by
  intro w hw
  obtain ⟨j, hj, rfl⟩ := List.mem_map.mp hw
  have hj := List.mem_range.mp hj
  match j, hj with
  | 0, _ => exact q2_192
  | 1, _ => exact q2_194
  | j + 2, hj => omega
theorem iX10 : ∀ w ∈ u_ws "TuneSchool$Voice" TX10 5, w ∈ gtb := by
  intro w hw
  obtain ⟨j, hj, rfl⟩ := List.mem_map.mp hw
  have hj := List.mem_range.mp hj
  match j, hj with
  | 0, _ => exact q1_47
  | 1, _ => exact q1_49
  | 2, _ => exact q1_51
  | 3, _ => exact q1_53
  | 4, _ => exact q1_55
  | j + 5, hj => omega
theorem iX11 : ∀ w ∈ u_ws "TuneSchool" TX11 17, w ∈ gtb := by
  intro w hw
  obtain ⟨j, hj, rfl⟩ := List.mem_map.mp hw
  have hj := List.mem_range.mp hj
  match j, hj with
  | 0, _ => exact q1_224
  | 1, _ => exact q1_226
  | 2, _ => exact q1_228
  | 3, _ => exact q1_230
  | 4, _ => exact q1_232
  | 5, _ => exact q1_234
  | 6, _ => exact q1_236
  | 7, _ => exact q1_238
  | 8, _ => exact q2_0
  | 9, _ => exact q2_2
  | 10, _ => exact q2_4
  | 11, _ => exact q2_6
  | 12, _ => exact q2_8
  | 13, _ => exact q2_10
  | 14, _ => exact q2_12
  | 15, _ => exact q2_14
  | 16, _ => exact q2_16
  | j + 17, hj => omega
theorem iX12 : ∀ w ∈ u_ws "TuneSchoolModel" TX12 71, w ∈ gtb := by
  intro w hw
  obtain ⟨j, hj, rfl⟩ := List.mem_map.mp hw
  have hj := List.mem_range.mp hj
  match j, hj with
  | 0, _ => exact q5_63
  | 1, _ => exact q5_65
  | 2, _ => exact q5_67
  | 3, _ => exact q5_69
  | 4, _ => exact q5_71
  | 5, _ => exact q5_73
  | 6, _ => exact q5_75
  | 7, _ => exact q5_77
  | 8, _ => exact q5_79
  | 9, _ => exact q5_81
  | 10, _ => exact q5_83
  | 11, _ => exact q5_85
  | 12, _ => exact q5_87
  | 13, _ => exact q5_89
  | 14, _ => exact q5_91
  | 15, _ => exact q5_93
  | 16, _ => exact q5_95
  | 17, _ => exact q5_97
  | 18, _ => exact q5_99
  | 19, _ => exact q5_101
  | 20, _ => exact q5_103
  | 21, _ => exact q5_105
  | 22, _ => exact q5_107
  | 23, _ => exact q5_109
  | 24, _ => exact q5_111
  | 25, _ => exact q5_113
  | 26, _ => exact q5_115
  | 27, _ => exact q5_117
  | 28, _ => exact q5_119
  | 29, _ => exact q5_121
  | 30, _ => exact q5_123
  | 31, _ => exact q5_125
  | 32, _ => exact q5_127
  | 33, _ => exact q5_129
  | 34, _ => exact q5_131
  | 35, _ => exact q5_133
  | 36, _ => exact q5_135
  | 37, _ => exact q5_137
  | 38, _ => exact q5_139
  | 39, _ => exact q5_141
  | 40, _ => exact q5_143
  | 41, _ => exact q5_145
  | 42, _ => exact q5_147
  | 43, _ => exact q5_149
  | 44, _ => exact q5_151
  | 45, _ => exact q5_153
  | 46, _ => exact q5_155
  | 47, _ => exact q5_157
  | 48, _ => exact q5_159
  | 49, _ => exact q5_161
  | 50, _ => exact q5_163
  | 51, _ => exact q5_165
  | 52, _ => exact q5_167
  | 53, _ => exact q5_169
  | 54, _ => exact q5_171
  | 55, _ => exact q5_173
  | 56, _ => exact q5_175
  | 57, _ => exact q5_177
  | 58, _ => exact q5_179
  | 59, _ => exact q5_181
  | 60, _ => exact q5_183
  | 61, _ => exact q5_185
  | 62, _ => exact q5_187
  | 63, _ => exact q5_189
  | 64, _ => exact q5_191
  | 65, _ => exact q5_193
  | 66, _ => exact q5_195
  | 67, _ => exact q5_197
  | 68, _ => exact q5_199
  | 69, _ => exact q5_201
  | 70, _ => exact q5_203
  | j + 71, hj => omega
theorem md_X11_init : mdOk yX11_init 0 := by decide +kernel
theorem md_X11_voice : mdOk yX11_voice 2 := by decide +kernel
theorem md_X11_drop : mdOk yX11_drop 1 := by decide +kernel
theorem md_X11_note : mdOk yX11_note 4 := by decide +kernel
theorem md_X11_cut : mdOk yX11_cut 3 := by decide +kernel
theorem md_X11_size : mdOk yX11_size 2 := by decide +kernel
theorem md_X11_number : mdOk yX11_number 3 := by decide +kernel
theorem md_X11_end : mdOk yX11_end 1 := by decide +kernel
theorem md_X11_sounds : mdOk yX11_sounds 2 := by decide +kernel
theorem md_X11_transpose : mdOk yX11_transpose 2 := by decide +kernel
theorem md_X11_copy : mdOk yX11_copy 5 := by decide +kernel
theorem md_X11_undo : mdOk yX11_undo 0 := by decide +kernel
theorem md_X11_rule : mdOk yX11_rule 2 := by decide +kernel
theorem md_X11_school : mdOk yX11_school 3 := by decide +kernel
theorem md_X11_clear : mdOk yX11_clear 1 := by decide +kernel
theorem md_X11_truth : mdOk yX11_truth 4 := by decide +kernel
theorem md_X11_is : mdOk yX11_is 2 := by decide +kernel
theorem md_X11_seat : mdOk yX11_seat 3 := by decide +kernel
theorem md_X11_seated : mdOk yX11_seated 2 := by decide +kernel
theorem md_X11_strong : mdOk yX11_strong 1 := by decide +kernel
theorem md_X11_key : mdOk yX11_key 1 := by decide +kernel
theorem md_X11_weight : mdOk yX11_weight 2 := by decide +kernel
theorem md_X11_faults : mdOk yX11_faults 1 := by decide +kernel
theorem md_X11_fault : mdOk yX11_fault 2 := by decide +kernel
theorem md_X11_mend : mdOk yX11_mend 1 := by decide +kernel
theorem md_X11_canon : mdOk yX11_canon 5 := by decide +kernel
theorem md_X11_canons : mdOk yX11_canons 4 := by decide +kernel
theorem md_X11_follows : mdOk yX11_follows 5 := by decide +kernel
theorem md_X11_set : mdOk yX11_set 7 := by decide +kernel
theorem md_X11_goOn : mdOk yX11_goOn 1 := by decide +kernel
theorem md_X11_least : mdOk yX11_least 0 := by decide +kernel
theorem md_X11_many : mdOk yX11_many 0 := by decide +kernel
theorem md_X11_row : mdOk yX11_row 3 := by decide +kernel
theorem md_X11_spoil : mdOk yX11_spoil 4 := by decide +kernel
theorem md_X11_check : mdOk yX11_check 0 := by decide +kernel
theorem md_X11_print : mdOk yX11_print 1 := by decide +kernel
theorem md_X11_read : mdOk yX11_read 1 := by decide +kernel
theorem md_X11_put : mdOk yX11_put 2 := by decide +kernel
theorem md_X11_cutLine : mdOk yX11_cutLine 1 := by decide +kernel
theorem md_X11_character : mdOk yX11_character 1 := by decide +kernel
theorem md_X11_status : mdOk yX11_status 0 := by decide +kernel
theorem md_X11_trace : mdOk yX11_trace 1 := by decide +kernel
theorem md_X11_count : mdOk yX11_count 1 := by decide +kernel
theorem md_X11_isWithin : mdOk yX11_isWithin 3 := by decide +kernel
theorem md_X11_isVoice : mdOk yX11_isVoice 1 := by decide +kernel
theorem md_X11_isRow : mdOk yX11_isRow 1 := by decide +kernel
theorem md_X11_isPlace : mdOk yX11_isPlace 1 := by decide +kernel
theorem md_X11_isFollower : mdOk yX11_isFollower 3 := by decide +kernel
theorem md_X11_finding : mdOk yX11_finding 1 := by decide +kernel
theorem md_X11_fine : mdOk yX11_fine 1 := by decide +kernel
theorem md_X11_keep : mdOk yX11_keep 1 := by decide +kernel
theorem md_X11_goThrough : mdOk yX11_goThrough 1 := by decide +kernel
theorem md_X11_voicesThere : mdOk yX11_voicesThere 0 := by decide +kernel
theorem md_X11_placesTaken : mdOk yX11_placesTaken 0 := by decide +kernel
theorem md_X11_newRule : mdOk yX11_newRule 1 := by decide +kernel
theorem md_X11_standsAs : mdOk yX11_standsAs 2 := by decide +kernel
theorem md_X10_init : mdOk yX10_init 0 := by decide +kernel
theorem md_X10_renew : mdOk yX10_renew 1 := by decide +kernel
theorem md_X10_becomeAs : mdOk yX10_becomeAs 1 := by decide +kernel
theorem md_X5_init : mdOk yX5_init 0 := by decide +kernel
theorem md_X5_openTrace : mdOk yX5_openTrace 0 := by decide +kernel
theorem md_X1_init : mdOk yX1_init 1 := by decide +kernel
theorem md_X1_isWorked : mdOk yX1_isWorked 0 := by decide +kernel
theorem md_X4_init : mdOk yX4_init 0 := by decide +kernel
theorem md_X4_wrongPlace : mdOk yX4_wrongPlace 1 := by decide +kernel
theorem md_X9_init : mdOk yX9_init 0 := by decide +kernel
theorem md_X7_init : mdOk yX7_init 0 := by decide +kernel
theorem md_X2_init : mdOk yX2_init 0 := by decide +kernel
theorem md_X6_init : mdOk yX6_init 0 := by decide +kernel
theorem md_X0_init : mdOk yX0_init 0 := by decide +kernel
theorem md_X3_init : mdOk yX3_init 0 := by decide +kernel
theorem md_X8_init : mdOk yX8_init 2 := by decide +kernel
theorem md_J7_fill_53178 : mdOk yJ7_fill_53178 2 := by decide +kernel
theorem md_X12_init : mdOk yX12_init 0 := by decide +kernel
theorem md_X12_in : mdOk yX12_in 3 := by decide +kernel
theorem md_X12_isVoice : mdOk yX12_isVoice 1 := by decide +kernel
theorem md_X12_isPlace : mdOk yX12_isPlace 1 := by decide +kernel
theorem md_X12_finds : mdOk yX12_finds 1 := by decide +kernel
theorem md_X12_keep : mdOk yX12_keep 1 := by decide +kernel
theorem md_X12_against : mdOk yX12_against 1 := by decide +kernel
theorem md_X12_againstCanon : mdOk yX12_againstCanon 2 := by decide +kernel
theorem md_X12_beginTrace : mdOk yX12_beginTrace 0 := by decide +kernel
theorem md_X12_wrongIn : mdOk yX12_wrongIn 0 := by decide +kernel
theorem md_X12_voice : mdOk yX12_voice 2 := by decide +kernel
theorem md_X12_drop : mdOk yX12_drop 1 := by decide +kernel
theorem md_X12_note : mdOk yX12_note 4 := by decide +kernel
theorem md_X12_cut : mdOk yX12_cut 3 := by decide +kernel
theorem md_X12_size : mdOk yX12_size 2 := by decide +kernel
theorem md_X12_number : mdOk yX12_number 3 := by decide +kernel
theorem md_X12_end : mdOk yX12_end 1 := by decide +kernel
theorem md_X12_sounds : mdOk yX12_sounds 2 := by decide +kernel
theorem md_X12_transpose : mdOk yX12_transpose 2 := by decide +kernel
theorem md_X12_copy : mdOk yX12_copy 5 := by decide +kernel
theorem md_X12_undo : mdOk yX12_undo 0 := by decide +kernel
theorem md_X12_rule : mdOk yX12_rule 2 := by decide +kernel
theorem md_X12_school : mdOk yX12_school 3 := by decide +kernel
theorem md_X12_clear : mdOk yX12_clear 1 := by decide +kernel
theorem md_X12_truth : mdOk yX12_truth 4 := by decide +kernel
theorem md_X12_is : mdOk yX12_is 2 := by decide +kernel
theorem md_X12_seat : mdOk yX12_seat 3 := by decide +kernel
theorem md_X12_seated : mdOk yX12_seated 2 := by decide +kernel
theorem md_X12_strong : mdOk yX12_strong 1 := by decide +kernel
theorem md_X12_key : mdOk yX12_key 1 := by decide +kernel
theorem md_X12_weight : mdOk yX12_weight 2 := by decide +kernel
theorem md_X12_faults : mdOk yX12_faults 1 := by decide +kernel
theorem md_X12_fault : mdOk yX12_fault 2 := by decide +kernel
theorem md_X12_mend : mdOk yX12_mend 1 := by decide +kernel
theorem md_X12_canon : mdOk yX12_canon 5 := by decide +kernel
theorem md_X12_canons : mdOk yX12_canons 4 := by decide +kernel
theorem md_X12_follows : mdOk yX12_follows 5 := by decide +kernel
theorem md_X12_set : mdOk yX12_set 7 := by decide +kernel
theorem md_X12_goOn : mdOk yX12_goOn 1 := by decide +kernel
theorem md_X12_least : mdOk yX12_least 0 := by decide +kernel
theorem md_X12_many : mdOk yX12_many 0 := by decide +kernel
theorem md_X12_row : mdOk yX12_row 3 := by decide +kernel
theorem md_X12_spoil : mdOk yX12_spoil 4 := by decide +kernel
theorem md_X12_check : mdOk yX12_check 0 := by decide +kernel
theorem md_X12_print : mdOk yX12_print 1 := by decide +kernel
theorem md_X12_read : mdOk yX12_read 1 := by decide +kernel
theorem md_X12_put : mdOk yX12_put 2 := by decide +kernel
theorem md_X12_cutLine : mdOk yX12_cutLine 1 := by decide +kernel
theorem md_X12_character : mdOk yX12_character 1 := by decide +kernel
theorem md_X12_status : mdOk yX12_status 0 := by decide +kernel
theorem md_X12_trace : mdOk yX12_trace 1 := by decide +kernel
theorem md_X12_count : mdOk yX12_count 1 := by decide +kernel
theorem vin {i : Int32} {n : Nat} (h1 : 0 ≤ i.toInt) (h2 : i.toInt < n) : vp_in i n := vp_in_iff.mpr ⟨h1, h2⟩
theorem i_le {x y : Int32} {a b : Int} (hx : x.toInt = a) (hy : y.toInt = b) (h : x ≤ y) : a ≤ b := by rw [← hx, ← hy]; exact Int32.le_iff_toInt_le.mp h
theorem i_nle {x y : Int32} {a b : Int} (hx : x.toInt = a) (hy : y.toInt = b) (h : ¬ x ≤ y) : b < a := by rw [Int32.le_iff_toInt_le, hx, hy] at h; omega
theorem i_lt {x y : Int32} {a b : Int} (hx : x.toInt = a) (hy : y.toInt = b) (h : x < y) : a < b := by rw [← hx, ← hy]; exact Int32.lt_iff_toInt_lt.mp h
theorem i_nlt {x y : Int32} {a b : Int} (hx : x.toInt = a) (hy : y.toInt = b) (h : ¬ x < y) : b ≤ a := by rw [Int32.lt_iff_toInt_lt, hx, hy] at h; omega
theorem i_eq {x y : Int32} {a b : Int} (hx : x.toInt = a) (hy : y.toInt = b) (h : x = y) : a = b := by rw [← hx, ← hy, h]
theorem i_neq {x y : Int32} {a b : Int} (hx : x.toInt = a) (hy : y.toInt = b) (h : ¬ x = y) : ¬ a = b := fun q => h (Int32.toInt_inj.mp (by rw [hx, hy, q]))
section ROWS
variable {p : Program} {l : Launch} {e : Env} {R : Room} {s : State} {m : MethodId} {args : Array Value} {below : List Frame} {meth : Method} {c : Code} {H : Heap} {locs : List Loc} {cells slots : Nat} {Q : State → Prop}
variable {D : va_G} {k : Nat → ClassId} {A : Nat → Prop} {ws : va_W} {H0 : Heap} {cc : ByteArray} {pc : Nat} {rest : List Value} {ls : Array Slot} {a : Nat} {x y v : Int32}
theorem ev_iadd (hx : p.tables.exec = Jvm.exec) (hb : c.code = cc) (hdg : decode cc pc = .ok (.iadd, 1)) (hv : x + y = v) (kk : W p l e R s m args below meth c H locs cells slots Q (F0 m (pc + 1) ls (.int v :: rest))) : W p l e R s m args below meth c H locs cells slots Q (F0 m pc ls (.int y :: .int x :: rest)) := lv_iadd hx hb hdg (by rw [hv]; exact kk)
theorem ev_isub (hx : p.tables.exec = Jvm.exec) (hb : c.code = cc) (hdg : decode cc pc = .ok (.isub, 1)) (hv : x - y = v) (kk : W p l e R s m args below meth c H locs cells slots Q (F0 m (pc + 1) ls (.int v :: rest))) : W p l e R s m args below meth c H locs cells slots Q (F0 m pc ls (.int y :: .int x :: rest)) := lv_isub hx hb hdg (by rw [hv]; exact kk)
theorem ev_imul (hx : p.tables.exec = Jvm.exec) (hb : c.code = cc) (hdg : decode cc pc = .ok (.imul, 1)) (hv : x * y = v) (kk : W p l e R s m args below meth c H locs cells slots Q (F0 m (pc + 1) ls (.int v :: rest))) : W p l e R s m args below meth c H locs cells slots Q (F0 m pc ls (.int y :: .int x :: rest)) := lv_imul hx hb hdg (by rw [hv]; exact kk)
theorem ldI (hx : p.tables.exec = Jvm.exec) (hb : c.code = cc) (hK : va_K D clsL (tyL k) s) (hP : va_P D clsL ws H) (q0 : Nat) {n : Nat} {f : Nat → Int32} (ha : ws[q0]? = some (a, .inl (k 0, n, .inl f))) {i : Int32} (hin : vp_in i n) (hv : f i.toNatClampNeg = v) (hdg : decode cc pc = .ok (.iaload, 1))
    (kk : W p l e R s m args below meth c H locs cells slots Q (F0 m (pc + 1) ls (.int v :: rest))) : W p l e R s m args below meth c H locs cells slots Q (F0 m pc ls (.int i :: .ref a :: rest)) := va_iald hx hb hK hP q0 0 ha rfl hin hdg (by rw [hv]; exact kk)
theorem ldZ (hx : p.tables.exec = Jvm.exec) (hb : c.code = cc) (hK : va_K D clsL (tyL k) s) (hP : va_P D clsL ws H) (q0 : Nat) {n : Nat} {f : Nat → Int32} (ha : ws[q0]? = some (a, .inl (k 1, n, .inl f))) {i : Int32} (hin : vp_in i n) (hv : f i.toNatClampNeg = v) (hdg : decode cc pc = .ok (.baload, 1))
    (kk : W p l e R s m args below meth c H locs cells slots Q (F0 m (pc + 1) ls (.int v :: rest))) : W p l e R s m args below meth c H locs cells slots Q (F0 m pc ls (.int i :: .ref a :: rest)) := va_zald hx hb hK hP q0 1 ha rfl hin hdg (by rw [hv]; exact kk)
theorem ldQ (hx : p.tables.exec = Jvm.exec) (hb : c.code = cc) (hK : va_K D clsL (tyL k) s) (hP : va_P D clsL ws H) (q0 t0 : Nat) {C : String} (ht : (tyL k)[t0]? = some (k t0, .object C)) {n w : Nat} {f : Nat → Option Nat} (ha : ws[q0]? = some (a, .inl (k t0, n, .inr (.inr (.inr (.inr f)))))) {i : Int32} (hin : vp_in i n) (hv : f i.toNatClampNeg = some w) (hdg : decode cc pc = .ok (.aaload, 1))
    (kk : W p l e R s m args below meth c H locs cells slots Q (F0 m (pc + 1) ls (.ref w :: rest))) : W p l e R s m args below meth c H locs cells slots Q (F0 m pc ls (.int i :: .ref a :: rest)) := va_aldq hx hb hK hP q0 t0 ha ht hin hdg (by rw [hv]; exact kk)
theorem ldN (hx : p.tables.exec = Jvm.exec) (hb : c.code = cc) (hK : va_K D clsL (tyL k) s) (hP : va_P D clsL ws H) (q0 t0 : Nat) {C : String} (ht : (tyL k)[t0]? = some (k t0, .object C)) {n : Nat} {f : Nat → Option Nat} (ha : ws[q0]? = some (a, .inl (k t0, n, .inr (.inr (.inr (.inr f)))))) {i : Int32} (hin : vp_in i n) (hv : f i.toNatClampNeg = none) (hdg : decode cc pc = .ok (.aaload, 1))
    (kk : W p l e R s m args below meth c H locs cells slots Q (F0 m (pc + 1) ls (.null :: rest))) : W p l e R s m args below meth c H locs cells slots Q (F0 m pc ls (.int i :: .ref a :: rest)) := va_aldq hx hb hK hP q0 t0 ha ht hin hdg (by rw [hv]; exact kk)
theorem stI (hx : p.tables.exec = Jvm.exec) (hb : c.code = cc) (hK : va_K D clsL (tyL k) s) (hP : va_P D clsL ws H) (hD : va_D A ws) (hS : va_S A H0 H locs) (q0 : Nat) {n : Nat} {f : Nat → Int32} (ha : ws[q0]? = some (a, .inl (k 0, n, .inl f))) {i : Int32} (hin : vp_in i n) (hdg : decode cc pc = .ok (.iastore, 1))
    (kk : ∀ (H1 : Heap) (locs1 : List Loc), va_P D clsL (ws.set q0 (a, .inl (k 0, n, .inl (upd f i.toNatClampNeg x)))) H1 → va_D A (ws.set q0 (a, .inl (k 0, n, .inl (upd f i.toNatClampNeg x)))) → va_S A H0 H1 locs1 → W p l e R s m args below meth c H1 locs1 cells slots Q (F0 m (pc + 1) ls rest)) : W p l e R s m args below meth c H locs cells slots Q (F0 m pc ls (.int x :: .int i :: .ref a :: rest)) := va_iast hx hb hK hP hD hS q0 0 ha rfl hin hdg kk
theorem stZ (hx : p.tables.exec = Jvm.exec) (hb : c.code = cc) (hK : va_K D clsL (tyL k) s) (hP : va_P D clsL ws H) (hD : va_D A ws) (hS : va_S A H0 H locs) (q0 : Nat) {n : Nat} {f : Nat → Int32} (ha : ws[q0]? = some (a, .inl (k 1, n, .inl f))) {i : Int32} (hin : vp_in i n) (hdg : decode cc pc = .ok (.bastore, 1))
    (kk : ∀ (H1 : Heap) (locs1 : List Loc), va_P D clsL (ws.set q0 (a, .inl (k 1, n, .inl (upd f i.toNatClampNeg (vp_nar .boolean x))))) H1 → va_D A (ws.set q0 (a, .inl (k 1, n, .inl (upd f i.toNatClampNeg (vp_nar .boolean x))))) → va_S A H0 H1 locs1 → W p l e R s m args below meth c H1 locs1 cells slots Q (F0 m (pc + 1) ls rest)) : W p l e R s m args below meth c H locs cells slots Q (F0 m pc ls (.int x :: .int i :: .ref a :: rest)) := va_zast hx hb hK hP hD hS q0 1 ha rfl hin hdg kk
end ROWS
