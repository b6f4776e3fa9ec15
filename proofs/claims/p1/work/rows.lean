section
-- ===== PART A: goes FIRST, ahead of the names: the tables' words, and 'selects' of the private methods out of them =====
/-- a private method of a class that the tables say can be made, by its rows of tables_1 -/
def lw_okq (q : MethodName × Nat) : Prop := (q.1.cls ≠ "java/lang/invoke/MethodHandle" ∧ q.1.cls ≠ "java/lang/invoke/VarHandle") ∧ Cond.instantiable q.1.cls q.2 ∈ tables_1 ∧ Cond.privateMethod q.1 ∈ tables_1 ∧ Cond.instanceMethod q.1 ∈ tables_1
theorem lw_p0 : lw_okq (⟨"TuneSchool", "finding", "(I)I"⟩, 17) := ⟨⟨by decide +kernel, by decide +kernel⟩, List.mem_of_getElem? (i := 18) (by decide +kernel), List.mem_of_getElem? (i := 267) (by decide +kernel), List.mem_of_getElem? (i := 268) (by decide +kernel)⟩
theorem lw_p1 : lw_okq (⟨"TuneSchool", "keep", "(I)V"⟩, 17) := ⟨⟨by decide +kernel, by decide +kernel⟩, List.mem_of_getElem? (i := 18) (by decide +kernel), List.mem_of_getElem? (i := 271) (by decide +kernel), List.mem_of_getElem? (i := 272) (by decide +kernel)⟩
theorem lw_p2 : lw_okq (⟨"TuneSchool", "fine", "(I)I"⟩, 17) := ⟨⟨by decide +kernel, by decide +kernel⟩, List.mem_of_getElem? (i := 18) (by decide +kernel), List.mem_of_getElem? (i := 289) (by decide +kernel), List.mem_of_getElem? (i := 290) (by decide +kernel)⟩
theorem lw_p3 : lw_okq (⟨"TuneSchool", "findLasts", "()V"⟩, 17) := ⟨⟨by decide +kernel, by decide +kernel⟩, List.mem_of_getElem? (i := 18) (by decide +kernel), List.mem_of_getElem? (i := 524) (by decide +kernel), List.mem_of_getElem? (i := 525) (by decide +kernel)⟩
theorem lw_p4 : lw_okq (⟨"TuneSchool", "askPair", "(LTuneSchool$Standing;III)V"⟩, 17) := ⟨⟨by decide +kernel, by decide +kernel⟩, List.mem_of_getElem? (i := 18) (by decide +kernel), List.mem_of_getElem? (i := 531) (by decide +kernel), List.mem_of_getElem? (i := 532) (by decide +kernel)⟩
theorem lw_p5 : lw_okq (⟨"TuneSchool", "noteFault", "(LTuneSchool$Rule;III)V"⟩, 17) := ⟨⟨by decide +kernel, by decide +kernel⟩, List.mem_of_getElem? (i := 18) (by decide +kernel), List.mem_of_getElem? (i := 649) (by decide +kernel), List.mem_of_getElem? (i := 650) (by decide +kernel)⟩
theorem lw_p6 : lw_okq (⟨"TuneSchool", "faultNumber", "(II)I"⟩, 17) := ⟨⟨by decide +kernel, by decide +kernel⟩, List.mem_of_getElem? (i := 18) (by decide +kernel), List.mem_of_getElem? (i := 657) (by decide +kernel), List.mem_of_getElem? (i := 658) (by decide +kernel)⟩
theorem lw_p7 : lw_okq (⟨"TuneSchool", "firstFault", "(LTuneSchool$Voice;LTuneSchool$Standing;III)I"⟩, 17) := ⟨⟨by decide +kernel, by decide +kernel⟩, List.mem_of_getElem? (i := 18) (by decide +kernel), List.mem_of_getElem? (i := 689) (by decide +kernel), List.mem_of_getElem? (i := 690) (by decide +kernel)⟩
theorem lw_p8 : lw_okq (⟨"TuneSchool", "tellsAny", "(LTuneSchool$Standing;)Z"⟩, 17) := ⟨⟨by decide +kernel, by decide +kernel⟩, List.mem_of_getElem? (i := 18) (by decide +kernel), List.mem_of_getElem? (i := 705) (by decide +kernel), List.mem_of_getElem? (i := 706) (by decide +kernel)⟩
theorem lw_p9 : lw_okq (⟨"TuneSchool", "advance", "(I)I"⟩, 17) := ⟨⟨by decide +kernel, by decide +kernel⟩, List.mem_of_getElem? (i := 18) (by decide +kernel), List.mem_of_getElem? (i := 799) (by decide +kernel), List.mem_of_getElem? (i := 800) (by decide +kernel)⟩
theorem lw_p10 : lw_okq (⟨"TuneSchool", "writeTune", "()I"⟩, 17) := ⟨⟨by decide +kernel, by decide +kernel⟩, List.mem_of_getElem? (i := 18) (by decide +kernel), List.mem_of_getElem? (i := 818) (by decide +kernel), List.mem_of_getElem? (i := 819) (by decide +kernel)⟩
theorem lw_p11 : lw_okq (⟨"TuneSchool$Line", "add", "(I)V"⟩, 3) := ⟨⟨by decide +kernel, by decide +kernel⟩, List.mem_of_getElem? (i := 188) (by decide +kernel), List.mem_of_getElem? (i := 887) (by decide +kernel), List.mem_of_getElem? (i := 888) (by decide +kernel)⟩
theorem lw_p12 : lw_okq (⟨"TuneSchool$Line", "addPitch", "(I)V"⟩, 3) := ⟨⟨by decide +kernel, by decide +kernel⟩, List.mem_of_getElem? (i := 188) (by decide +kernel), List.mem_of_getElem? (i := 891) (by decide +kernel), List.mem_of_getElem? (i := 892) (by decide +kernel)⟩
theorem lw_p13 : lw_okq (⟨"TuneSchool$Line", "takePitch", "()I"⟩, 3) := ⟨⟨by decide +kernel, by decide +kernel⟩, List.mem_of_getElem? (i := 188) (by decide +kernel), List.mem_of_getElem? (i := 904) (by decide +kernel), List.mem_of_getElem? (i := 905) (by decide +kernel)⟩
theorem lw_p14 : lw_okq (⟨"TuneSchool$Line", "here", "()I"⟩, 3) := ⟨⟨by decide +kernel, by decide +kernel⟩, List.mem_of_getElem? (i := 188) (by decide +kernel), List.mem_of_getElem? (i := 908) (by decide +kernel), List.mem_of_getElem? (i := 909) (by decide +kernel)⟩
theorem lw_p15 : lw_okq (⟨"TuneSchool", "voicesThere", "()I"⟩, 17) := ⟨⟨by decide +kernel, by decide +kernel⟩, List.mem_of_getElem? (i := 18) (by decide +kernel), List.mem_of_getElem? (i := 939) (by decide +kernel), List.mem_of_getElem? (i := 940) (by decide +kernel)⟩
def lw_privs_1 : List (MethodName × Nat) := [(⟨"TuneSchool", "finding", "(I)I"⟩, 17), (⟨"TuneSchool", "keep", "(I)V"⟩, 17), (⟨"TuneSchool", "fine", "(I)I"⟩, 17), (⟨"TuneSchool", "findLasts", "()V"⟩, 17), (⟨"TuneSchool", "askPair", "(LTuneSchool$Standing;III)V"⟩, 17), (⟨"TuneSchool", "noteFault", "(LTuneSchool$Rule;III)V"⟩, 17), (⟨"TuneSchool", "faultNumber", "(II)I"⟩, 17), (⟨"TuneSchool", "firstFault", "(LTuneSchool$Voice;LTuneSchool$Standing;III)I"⟩, 17), (⟨"TuneSchool", "tellsAny", "(LTuneSchool$Standing;)Z"⟩, 17), (⟨"TuneSchool", "advance", "(I)I"⟩, 17), (⟨"TuneSchool", "writeTune", "()I"⟩, 17), (⟨"TuneSchool$Line", "add", "(I)V"⟩, 3), (⟨"TuneSchool$Line", "addPitch", "(I)V"⟩, 3), (⟨"TuneSchool$Line", "takePitch", "()I"⟩, 3), (⟨"TuneSchool$Line", "here", "()I"⟩, 3), (⟨"TuneSchool", "voicesThere", "()I"⟩, 17)]
theorem lw_r1 : ∀ q ∈ lw_privs_1, lw_okq q := List.forall_mem_cons.mpr ⟨lw_p0, List.forall_mem_cons.mpr ⟨lw_p1, List.forall_mem_cons.mpr ⟨lw_p2, List.forall_mem_cons.mpr ⟨lw_p3, List.forall_mem_cons.mpr ⟨lw_p4, List.forall_mem_cons.mpr ⟨lw_p5, List.forall_mem_cons.mpr ⟨lw_p6, List.forall_mem_cons.mpr ⟨lw_p7, List.forall_mem_cons.mpr ⟨lw_p8, List.forall_mem_cons.mpr ⟨lw_p9, List.forall_mem_cons.mpr ⟨lw_p10, List.forall_mem_cons.mpr ⟨lw_p11, List.forall_mem_cons.mpr ⟨lw_p12, List.forall_mem_cons.mpr ⟨lw_p13, List.forall_mem_cons.mpr ⟨lw_p14, List.forall_mem_cons.mpr ⟨lw_p15, fun _ h => absurd h List.not_mem_nil⟩⟩⟩⟩⟩⟩⟩⟩⟩⟩⟩⟩⟩⟩⟩⟩
theorem lw_p16 : lw_okq (⟨"TuneSchool", "placesTaken", "()I"⟩, 17) := ⟨⟨by decide +kernel, by decide +kernel⟩, List.mem_of_getElem? (i := 18) (by decide +kernel), List.mem_of_getElem? (i := 943) (by decide +kernel), List.mem_of_getElem? (i := 944) (by decide +kernel)⟩
theorem lw_p17 : lw_okq (⟨"TuneSchoolModel", "finds", "(I)I"⟩, 71) := ⟨⟨by decide +kernel, by decide +kernel⟩, List.mem_of_getElem? (i := 947) (by decide +kernel), List.mem_of_getElem? (i := 1178) (by decide +kernel), List.mem_of_getElem? (i := 1179) (by decide +kernel)⟩
theorem lw_p18 : lw_okq (⟨"TuneSchoolModel", "keep", "(I)V"⟩, 71) := ⟨⟨by decide +kernel, by decide +kernel⟩, List.mem_of_getElem? (i := 947) (by decide +kernel), List.mem_of_getElem? (i := 1182) (by decide +kernel), List.mem_of_getElem? (i := 1183) (by decide +kernel)⟩
theorem lw_p19 : lw_okq (⟨"TuneSchoolModel", "against", "(I)I"⟩, 71) := ⟨⟨by decide +kernel, by decide +kernel⟩, List.mem_of_getElem? (i := 947) (by decide +kernel), List.mem_of_getElem? (i := 1210) (by decide +kernel), List.mem_of_getElem? (i := 1211) (by decide +kernel)⟩
theorem lw_p20 : lw_okq (⟨"TuneSchoolModel", "lay", "(I)V"⟩, 71) := ⟨⟨by decide +kernel, by decide +kernel⟩, List.mem_of_getElem? (i := 947) (by decide +kernel), List.mem_of_getElem? (i := 1214) (by decide +kernel), List.mem_of_getElem? (i := 1215) (by decide +kernel)⟩
theorem lw_p21 : lw_okq (⟨"TuneSchoolModel", "lengthAt", "(II)I"⟩, 71) := ⟨⟨by decide +kernel, by decide +kernel⟩, List.mem_of_getElem? (i := 947) (by decide +kernel), List.mem_of_getElem? (i := 1218) (by decide +kernel), List.mem_of_getElem? (i := 1219) (by decide +kernel)⟩
theorem lw_p22 : lw_okq (⟨"TuneSchoolModel", "pitchAt", "(II)I"⟩, 71) := ⟨⟨by decide +kernel, by decide +kernel⟩, List.mem_of_getElem? (i := 947) (by decide +kernel), List.mem_of_getElem? (i := 1222) (by decide +kernel), List.mem_of_getElem? (i := 1223) (by decide +kernel)⟩
theorem lw_p23 : lw_okq (⟨"TuneSchoolModel", "soundAt", "(II)I"⟩, 71) := ⟨⟨by decide +kernel, by decide +kernel⟩, List.mem_of_getElem? (i := 947) (by decide +kernel), List.mem_of_getElem? (i := 1230) (by decide +kernel), List.mem_of_getElem? (i := 1231) (by decide +kernel)⟩
theorem lw_p24 : lw_okq (⟨"TuneSchoolModel", "copyRow", "(IIIIII)Z"⟩, 71) := ⟨⟨by decide +kernel, by decide +kernel⟩, List.mem_of_getElem? (i := 947) (by decide +kernel), List.mem_of_getElem? (i := 1242) (by decide +kernel), List.mem_of_getElem? (i := 1243) (by decide +kernel)⟩
theorem lw_p25 : lw_okq (⟨"TuneSchoolModel", "isOf", "(II)Z"⟩, 71) := ⟨⟨by decide +kernel, by decide +kernel⟩, List.mem_of_getElem? (i := 947) (by decide +kernel), List.mem_of_getElem? (i := 1269) (by decide +kernel), List.mem_of_getElem? (i := 1270) (by decide +kernel)⟩
theorem lw_p26 : lw_okq (⟨"TuneSchoolModel", "told", "([ZIZ)I"⟩, 71) := ⟨⟨by decide +kernel, by decide +kernel⟩, List.mem_of_getElem? (i := 947) (by decide +kernel), List.mem_of_getElem? (i := 1273) (by decide +kernel), List.mem_of_getElem? (i := 1274) (by decide +kernel)⟩
theorem lw_p27 : lw_okq (⟨"TuneSchoolModel", "beginTrace", "()V"⟩, 71) := ⟨⟨by decide +kernel, by decide +kernel⟩, List.mem_of_getElem? (i := 947) (by decide +kernel), List.mem_of_getElem? (i := 1305) (by decide +kernel), List.mem_of_getElem? (i := 1306) (by decide +kernel)⟩
theorem lw_p28 : lw_okq (⟨"TuneSchoolModel", "pair", "(II)V"⟩, 71) := ⟨⟨by decide +kernel, by decide +kernel⟩, List.mem_of_getElem? (i := 947) (by decide +kernel), List.mem_of_getElem? (i := 1309) (by decide +kernel), List.mem_of_getElem? (i := 1310) (by decide +kernel)⟩
theorem lw_p29 : lw_okq (⟨"TuneSchoolModel", "look", "(IIII)V"⟩, 71) := ⟨⟨by decide +kernel, by decide +kernel⟩, List.mem_of_getElem? (i := 947) (by decide +kernel), List.mem_of_getElem? (i := 1313) (by decide +kernel), List.mem_of_getElem? (i := 1314) (by decide +kernel)⟩
theorem lw_p30 : lw_okq (⟨"TuneSchoolModel", "askedAt", "(I)I"⟩, 71) := ⟨⟨by decide +kernel, by decide +kernel⟩, List.mem_of_getElem? (i := 947) (by decide +kernel), List.mem_of_getElem? (i := 1317) (by decide +kernel), List.mem_of_getElem? (i := 1318) (by decide +kernel)⟩
theorem lw_p31 : lw_okq (⟨"TuneSchoolModel", "ruleAt", "(II)I"⟩, 71) := ⟨⟨by decide +kernel, by decide +kernel⟩, List.mem_of_getElem? (i := 947) (by decide +kernel), List.mem_of_getElem? (i := 1321) (by decide +kernel), List.mem_of_getElem? (i := 1322) (by decide +kernel)⟩
def lw_privs_2 : List (MethodName × Nat) := [(⟨"TuneSchool", "placesTaken", "()I"⟩, 17), (⟨"TuneSchoolModel", "finds", "(I)I"⟩, 71), (⟨"TuneSchoolModel", "keep", "(I)V"⟩, 71), (⟨"TuneSchoolModel", "against", "(I)I"⟩, 71), (⟨"TuneSchoolModel", "lay", "(I)V"⟩, 71), (⟨"TuneSchoolModel", "lengthAt", "(II)I"⟩, 71), (⟨"TuneSchoolModel", "pitchAt", "(II)I"⟩, 71), (⟨"TuneSchoolModel", "soundAt", "(II)I"⟩, 71), (⟨"TuneSchoolModel", "copyRow", "(IIIIII)Z"⟩, 71), (⟨"TuneSchoolModel", "isOf", "(II)Z"⟩, 71), (⟨"TuneSchoolModel", "told", "([ZIZ)I"⟩, 71), (⟨"TuneSchoolModel", "beginTrace", "()V"⟩, 71), (⟨"TuneSchoolModel", "pair", "(II)V"⟩, 71), (⟨"TuneSchoolModel", "look", "(IIII)V"⟩, 71), (⟨"TuneSchoolModel", "askedAt", "(I)I"⟩, 71), (⟨"TuneSchoolModel", "ruleAt", "(II)I"⟩, 71)]
theorem lw_r2 : ∀ q ∈ lw_privs_2, lw_okq q := List.forall_mem_cons.mpr ⟨lw_p16, List.forall_mem_cons.mpr ⟨lw_p17, List.forall_mem_cons.mpr ⟨lw_p18, List.forall_mem_cons.mpr ⟨lw_p19, List.forall_mem_cons.mpr ⟨lw_p20, List.forall_mem_cons.mpr ⟨lw_p21, List.forall_mem_cons.mpr ⟨lw_p22, List.forall_mem_cons.mpr ⟨lw_p23, List.forall_mem_cons.mpr ⟨lw_p24, List.forall_mem_cons.mpr ⟨lw_p25, List.forall_mem_cons.mpr ⟨lw_p26, List.forall_mem_cons.mpr ⟨lw_p27, List.forall_mem_cons.mpr ⟨lw_p28, List.forall_mem_cons.mpr ⟨lw_p29, List.forall_mem_cons.mpr ⟨lw_p30, List.forall_mem_cons.mpr ⟨lw_p31, fun _ h => absurd h List.not_mem_nil⟩⟩⟩⟩⟩⟩⟩⟩⟩⟩⟩⟩⟩⟩⟩⟩
theorem lw_p32 : lw_okq (⟨"TuneSchoolModel", "asks", "(II)Z"⟩, 71) := ⟨⟨by decide +kernel, by decide +kernel⟩, List.mem_of_getElem? (i := 947) (by decide +kernel), List.mem_of_getElem? (i := 1325) (by decide +kernel), List.mem_of_getElem? (i := 1326) (by decide +kernel)⟩
theorem lw_p33 : lw_okq (⟨"TuneSchoolModel", "listens", "(I)Z"⟩, 71) := ⟨⟨by decide +kernel, by decide +kernel⟩, List.mem_of_getElem? (i := 947) (by decide +kernel), List.mem_of_getElem? (i := 1329) (by decide +kernel), List.mem_of_getElem? (i := 1330) (by decide +kernel)⟩
theorem lw_p34 : lw_okq (⟨"TuneSchoolModel", "tell", "(I)V"⟩, 71) := ⟨⟨by decide +kernel, by decide +kernel⟩, List.mem_of_getElem? (i := 947) (by decide +kernel), List.mem_of_getElem? (i := 1333) (by decide +kernel), List.mem_of_getElem? (i := 1334) (by decide +kernel)⟩
theorem lw_p35 : lw_okq (⟨"TuneSchoolModel", "hasFault", "(IIII)Z"⟩, 71) := ⟨⟨by decide +kernel, by decide +kernel⟩, List.mem_of_getElem? (i := 947) (by decide +kernel), List.mem_of_getElem? (i := 1337) (by decide +kernel), List.mem_of_getElem? (i := 1338) (by decide +kernel)⟩
theorem lw_p36 : lw_okq (⟨"TuneSchoolModel", "byInterval", "(IIII)Z"⟩, 71) := ⟨⟨by decide +kernel, by decide +kernel⟩, List.mem_of_getElem? (i := 947) (by decide +kernel), List.mem_of_getElem? (i := 1341) (by decide +kernel), List.mem_of_getElem? (i := 1342) (by decide +kernel)⟩
theorem lw_p37 : lw_okq (⟨"TuneSchoolModel", "byMotion", "(IIII)Z"⟩, 71) := ⟨⟨by decide +kernel, by decide +kernel⟩, List.mem_of_getElem? (i := 947) (by decide +kernel), List.mem_of_getElem? (i := 1348) (by decide +kernel), List.mem_of_getElem? (i := 1349) (by decide +kernel)⟩
theorem lw_p38 : lw_okq (⟨"TuneSchoolModel", "byLeap", "(III)Z"⟩, 71) := ⟨⟨by decide +kernel, by decide +kernel⟩, List.mem_of_getElem? (i := 947) (by decide +kernel), List.mem_of_getElem? (i := 1352) (by decide +kernel), List.mem_of_getElem? (i := 1353) (by decide +kernel)⟩
theorem lw_p39 : lw_okq (⟨"TuneSchoolModel", "byCadence", "(IIII)Z"⟩, 71) := ⟨⟨by decide +kernel, by decide +kernel⟩, List.mem_of_getElem? (i := 947) (by decide +kernel), List.mem_of_getElem? (i := 1356) (by decide +kernel), List.mem_of_getElem? (i := 1357) (by decide +kernel)⟩
theorem lw_p40 : lw_okq (⟨"TuneSchoolModel", "nearest", "(IIII)I"⟩, 71) := ⟨⟨by decide +kernel, by decide +kernel⟩, List.mem_of_getElem? (i := 947) (by decide +kernel), List.mem_of_getElem? (i := 1368) (by decide +kernel), List.mem_of_getElem? (i := 1369) (by decide +kernel)⟩
theorem lw_p41 : lw_okq (⟨"TuneSchoolModel", "againstCanon", "(II)I"⟩, 71) := ⟨⟨by decide +kernel, by decide +kernel⟩, List.mem_of_getElem? (i := 947) (by decide +kernel), List.mem_of_getElem? (i := 1376) (by decide +kernel), List.mem_of_getElem? (i := 1377) (by decide +kernel)⟩
theorem lw_p42 : lw_okq (⟨"TuneSchoolModel", "firstFault", "(IIIII)I"⟩, 71) := ⟨⟨by decide +kernel, by decide +kernel⟩, List.mem_of_getElem? (i := 947) (by decide +kernel), List.mem_of_getElem? (i := 1380) (by decide +kernel), List.mem_of_getElem? (i := 1381) (by decide +kernel)⟩
theorem lw_p43 : lw_okq (⟨"TuneSchoolModel", "followed", "(IIIII)I"⟩, 71) := ⟨⟨by decide +kernel, by decide +kernel⟩, List.mem_of_getElem? (i := 947) (by decide +kernel), List.mem_of_getElem? (i := 1384) (by decide +kernel), List.mem_of_getElem? (i := 1385) (by decide +kernel)⟩
theorem lw_p44 : lw_okq (⟨"TuneSchoolModel", "goesOn", "(I)I"⟩, 71) := ⟨⟨by decide +kernel, by decide +kernel⟩, List.mem_of_getElem? (i := 947) (by decide +kernel), List.mem_of_getElem? (i := 1400) (by decide +kernel), List.mem_of_getElem? (i := 1401) (by decide +kernel)⟩
theorem lw_p45 : lw_okq (⟨"TuneSchoolModel", "laySetting", "()V"⟩, 71) := ⟨⟨by decide +kernel, by decide +kernel⟩, List.mem_of_getElem? (i := 947) (by decide +kernel), List.mem_of_getElem? (i := 1404) (by decide +kernel), List.mem_of_getElem? (i := 1405) (by decide +kernel)⟩
theorem lw_p46 : lw_okq (⟨"TuneSchoolModel", "work", "(I)V"⟩, 71) := ⟨⟨by decide +kernel, by decide +kernel⟩, List.mem_of_getElem? (i := 947) (by decide +kernel), List.mem_of_getElem? (i := 1408) (by decide +kernel), List.mem_of_getElem? (i := 1409) (by decide +kernel)⟩
theorem lw_p47 : lw_okq (⟨"TuneSchoolModel", "isHeard", "(I)Z"⟩, 71) := ⟨⟨by decide +kernel, by decide +kernel⟩, List.mem_of_getElem? (i := 947) (by decide +kernel), List.mem_of_getElem? (i := 1412) (by decide +kernel), List.mem_of_getElem? (i := 1413) (by decide +kernel)⟩
def lw_privs_3 : List (MethodName × Nat) := [(⟨"TuneSchoolModel", "asks", "(II)Z"⟩, 71), (⟨"TuneSchoolModel", "listens", "(I)Z"⟩, 71), (⟨"TuneSchoolModel", "tell", "(I)V"⟩, 71), (⟨"TuneSchoolModel", "hasFault", "(IIII)Z"⟩, 71), (⟨"TuneSchoolModel", "byInterval", "(IIII)Z"⟩, 71), (⟨"TuneSchoolModel", "byMotion", "(IIII)Z"⟩, 71), (⟨"TuneSchoolModel", "byLeap", "(III)Z"⟩, 71), (⟨"TuneSchoolModel", "byCadence", "(IIII)Z"⟩, 71), (⟨"TuneSchoolModel", "nearest", "(IIII)I"⟩, 71), (⟨"TuneSchoolModel", "againstCanon", "(II)I"⟩, 71), (⟨"TuneSchoolModel", "firstFault", "(IIIII)I"⟩, 71), (⟨"TuneSchoolModel", "followed", "(IIIII)I"⟩, 71), (⟨"TuneSchoolModel", "goesOn", "(I)I"⟩, 71), (⟨"TuneSchoolModel", "laySetting", "()V"⟩, 71), (⟨"TuneSchoolModel", "work", "(I)V"⟩, 71), (⟨"TuneSchoolModel", "isHeard", "(I)Z"⟩, 71)]
theorem lw_r3 : ∀ q ∈ lw_privs_3, lw_okq q := List.forall_mem_cons.mpr ⟨lw_p32, List.forall_mem_cons.mpr ⟨lw_p33, List.forall_mem_cons.mpr ⟨lw_p34, List.forall_mem_cons.mpr ⟨lw_p35, List.forall_mem_cons.mpr ⟨lw_p36, List.forall_mem_cons.mpr ⟨lw_p37, List.forall_mem_cons.mpr ⟨lw_p38, List.forall_mem_cons.mpr ⟨lw_p39, List.forall_mem_cons.mpr ⟨lw_p40, List.forall_mem_cons.mpr ⟨lw_p41, List.forall_mem_cons.mpr ⟨lw_p42, List.forall_mem_cons.mpr ⟨lw_p43, List.forall_mem_cons.mpr ⟨lw_p44, List.forall_mem_cons.mpr ⟨lw_p45, List.forall_mem_cons.mpr ⟨lw_p46, List.forall_mem_cons.mpr ⟨lw_p47, fun _ h => absurd h List.not_mem_nil⟩⟩⟩⟩⟩⟩⟩⟩⟩⟩⟩⟩⟩⟩⟩⟩
theorem lw_p48 : lw_okq (⟨"TuneSchoolModel", "fit", "(I)V"⟩, 71) := ⟨⟨by decide +kernel, by decide +kernel⟩, List.mem_of_getElem? (i := 947) (by decide +kernel), List.mem_of_getElem? (i := 1416) (by decide +kernel), List.mem_of_getElem? (i := 1417) (by decide +kernel)⟩
theorem lw_p49 : lw_okq (⟨"TuneSchoolModel", "nextHeard", "(I)I"⟩, 71) := ⟨⟨by decide +kernel, by decide +kernel⟩, List.mem_of_getElem? (i := 947) (by decide +kernel), List.mem_of_getElem? (i := 1420) (by decide +kernel), List.mem_of_getElem? (i := 1421) (by decide +kernel)⟩
theorem lw_p50 : lw_okq (⟨"TuneSchoolModel", "isJoined", "(II)Z"⟩, 71) := ⟨⟨by decide +kernel, by decide +kernel⟩, List.mem_of_getElem? (i := 947) (by decide +kernel), List.mem_of_getElem? (i := 1424) (by decide +kernel), List.mem_of_getElem? (i := 1425) (by decide +kernel)⟩
theorem lw_p51 : lw_okq (⟨"TuneSchoolModel", "fits", "(III)Z"⟩, 71) := ⟨⟨by decide +kernel, by decide +kernel⟩, List.mem_of_getElem? (i := 947) (by decide +kernel), List.mem_of_getElem? (i := 1428) (by decide +kernel), List.mem_of_getElem? (i := 1429) (by decide +kernel)⟩
theorem lw_p52 : lw_okq (⟨"TuneSchoolModel", "reckon", "(III)V"⟩, 71) := ⟨⟨by decide +kernel, by decide +kernel⟩, List.mem_of_getElem? (i := 947) (by decide +kernel), List.mem_of_getElem? (i := 1432) (by decide +kernel), List.mem_of_getElem? (i := 1433) (by decide +kernel)⟩
theorem lw_p53 : lw_okq (⟨"TuneSchoolModel", "dueBehind", "(III)I"⟩, 71) := ⟨⟨by decide +kernel, by decide +kernel⟩, List.mem_of_getElem? (i := 947) (by decide +kernel), List.mem_of_getElem? (i := 1437) (by decide +kernel), List.mem_of_getElem? (i := 1438) (by decide +kernel)⟩
theorem lw_p54 : lw_okq (⟨"TuneSchoolModel", "mustAnswer", "(I)Z"⟩, 71) := ⟨⟨by decide +kernel, by decide +kernel⟩, List.mem_of_getElem? (i := 947) (by decide +kernel), List.mem_of_getElem? (i := 1441) (by decide +kernel), List.mem_of_getElem? (i := 1442) (by decide +kernel)⟩
theorem lw_p55 : lw_okq (⟨"TuneSchoolModel", "step", "(II)I"⟩, 71) := ⟨⟨by decide +kernel, by decide +kernel⟩, List.mem_of_getElem? (i := 947) (by decide +kernel), List.mem_of_getElem? (i := 1445) (by decide +kernel), List.mem_of_getElem? (i := 1446) (by decide +kernel)⟩
theorem lw_p56 : lw_okq (⟨"TuneSchoolModel", "at", "(III)I"⟩, 71) := ⟨⟨by decide +kernel, by decide +kernel⟩, List.mem_of_getElem? (i := 947) (by decide +kernel), List.mem_of_getElem? (i := 1449) (by decide +kernel), List.mem_of_getElem? (i := 1450) (by decide +kernel)⟩
theorem lw_p57 : lw_okq (⟨"TuneSchoolModel", "finish", "()V"⟩, 71) := ⟨⟨by decide +kernel, by decide +kernel⟩, List.mem_of_getElem? (i := 947) (by decide +kernel), List.mem_of_getElem? (i := 1454) (by decide +kernel), List.mem_of_getElem? (i := 1455) (by decide +kernel)⟩
theorem lw_p58 : lw_okq (⟨"TuneSchoolModel", "reckonTune", "()V"⟩, 71) := ⟨⟨by decide +kernel, by decide +kernel⟩, List.mem_of_getElem? (i := 947) (by decide +kernel), List.mem_of_getElem? (i := 1458) (by decide +kernel), List.mem_of_getElem? (i := 1459) (by decide +kernel)⟩
theorem lw_p59 : lw_okq (⟨"TuneSchoolModel", "hasLeast", "(I)Z"⟩, 71) := ⟨⟨by decide +kernel, by decide +kernel⟩, List.mem_of_getElem? (i := 947) (by decide +kernel), List.mem_of_getElem? (i := 1478) (by decide +kernel), List.mem_of_getElem? (i := 1479) (by decide +kernel)⟩
theorem lw_p60 : lw_okq (⟨"TuneSchoolModel", "say", "(I)V"⟩, 71) := ⟨⟨by decide +kernel, by decide +kernel⟩, List.mem_of_getElem? (i := 947) (by decide +kernel), List.mem_of_getElem? (i := 1494) (by decide +kernel), List.mem_of_getElem? (i := 1495) (by decide +kernel)⟩
theorem lw_p61 : lw_okq (⟨"TuneSchoolModel", "wrongIn", "()I"⟩, 71) := ⟨⟨by decide +kernel, by decide +kernel⟩, List.mem_of_getElem? (i := 947) (by decide +kernel), List.mem_of_getElem? (i := 1502) (by decide +kernel), List.mem_of_getElem? (i := 1503) (by decide +kernel)⟩
theorem lw_p62 : lw_okq (⟨"TuneSchoolModel", "charAt", "(I)I"⟩, 71) := ⟨⟨by decide +kernel, by decide +kernel⟩, List.mem_of_getElem? (i := 947) (by decide +kernel), List.mem_of_getElem? (i := 1506) (by decide +kernel), List.mem_of_getElem? (i := 1507) (by decide +kernel)⟩
def lw_privs_4 : List (MethodName × Nat) := [(⟨"TuneSchoolModel", "fit", "(I)V"⟩, 71), (⟨"TuneSchoolModel", "nextHeard", "(I)I"⟩, 71), (⟨"TuneSchoolModel", "isJoined", "(II)Z"⟩, 71), (⟨"TuneSchoolModel", "fits", "(III)Z"⟩, 71), (⟨"TuneSchoolModel", "reckon", "(III)V"⟩, 71), (⟨"TuneSchoolModel", "dueBehind", "(III)I"⟩, 71), (⟨"TuneSchoolModel", "mustAnswer", "(I)Z"⟩, 71), (⟨"TuneSchoolModel", "step", "(II)I"⟩, 71), (⟨"TuneSchoolModel", "at", "(III)I"⟩, 71), (⟨"TuneSchoolModel", "finish", "()V"⟩, 71), (⟨"TuneSchoolModel", "reckonTune", "()V"⟩, 71), (⟨"TuneSchoolModel", "hasLeast", "(I)Z"⟩, 71), (⟨"TuneSchoolModel", "say", "(I)V"⟩, 71), (⟨"TuneSchoolModel", "wrongIn", "()I"⟩, 71), (⟨"TuneSchoolModel", "charAt", "(I)I"⟩, 71)]
theorem lw_r4 : ∀ q ∈ lw_privs_4, lw_okq q := List.forall_mem_cons.mpr ⟨lw_p48, List.forall_mem_cons.mpr ⟨lw_p49, List.forall_mem_cons.mpr ⟨lw_p50, List.forall_mem_cons.mpr ⟨lw_p51, List.forall_mem_cons.mpr ⟨lw_p52, List.forall_mem_cons.mpr ⟨lw_p53, List.forall_mem_cons.mpr ⟨lw_p54, List.forall_mem_cons.mpr ⟨lw_p55, List.forall_mem_cons.mpr ⟨lw_p56, List.forall_mem_cons.mpr ⟨lw_p57, List.forall_mem_cons.mpr ⟨lw_p58, List.forall_mem_cons.mpr ⟨lw_p59, List.forall_mem_cons.mpr ⟨lw_p60, List.forall_mem_cons.mpr ⟨lw_p61, List.forall_mem_cons.mpr ⟨lw_p62, fun _ h => absurd h List.not_mem_nil⟩⟩⟩⟩⟩⟩⟩⟩⟩⟩⟩⟩⟩⟩⟩
def lw_privs : List (MethodName × Nat) := lw_privs_1 ++ (lw_privs_2 ++ (lw_privs_3 ++ (lw_privs_4)))
def lw_tbl : List Cond := k2_sels lw_privs ++ tables_1
theorem lw_privs_ok : ∀ q ∈ lw_privs, lw_okq q := by
  show ∀ q ∈ lw_privs_1 ++ (lw_privs_2 ++ (lw_privs_3 ++ (lw_privs_4))), lw_okq q
  exact List.forall_mem_append.mpr ⟨lw_r1, List.forall_mem_append.mpr ⟨lw_r2, List.forall_mem_append.mpr ⟨lw_r3, lw_r4⟩⟩⟩
-- ===== end of PART A; then your names; then what follows =====
/-! THE CLAIM OUT OF ONE WALK OF THE LAW'S BODY. Your part is whole_start (and what it stands on); all else here is the same for every law, but numbers. -/
def R_law : String := "TuneSchoolLaw"
def lw_P (b : Addr) (xs : List Int32) (args : Array Value) (s : State) : Prop := args = #[.ref b] ∧ s.IntsAt b xs ∧ xs.length ≤ 8 ∧ (Jvm.Cond.and given_1 narrow_1).before args s = true
def lw_Q (_ : Array Value) (s : State) (o : Outcome) (t : State) : Prop := o = .returned (some (.int 1)) ∧ Framed s o t [] 600000 7302250
def lw_Z (below : List Frame) (a : Array Value) (s : State) : State → Prop := fun t => ∃ o, t.status = .running ∧ Ended t below o ∧ lw_Q a s o t
/-- the law's own end, with 1 on the stack, nothing written that was there before, its room as the claim has it -/
theorem lw_ret {p : Program} {l : Launch} {e : Env} {s : State} {m : MethodId} {below : List Frame} {meth : Method} {c : Code} {b : Nat} (hx : p.tables.exec = Jvm.exec) (hb : c.code = code) (hr : meth.sig.returnType = ret) (hlocks : meth.locks = false) {pc : Nat} {H : Heap} {ls : Array Slot} (hdg : decode code pc = .ok (.ireturn, 1)) : W p l e room_1 s m #[Value.ref b] below meth c H [] 600000 7302250 (lw_Z below #[Value.ref b] s) (F0 m pc ls [.int 1]) := by
  intro T hT X
  obtain ⟨fs, hret, hrun, hended, hW, hframe⟩ := X.leave (v := some (.int 1)) (hlocks := hlocks) (fun h => by rw [hr] at h; cases h)
  have hmeth' : T.vm.method? m = some meth := X.method'
  refine ⟨T.setFrames fs, ?_, .returned (some (.int 1)), hrun, hended, rfl, ⟨_, rfl⟩, hW, hframe⟩
  jvm_step X.here [X.here.top, hx, hb, hdg, hmeth', hr, ret, narrow_b1]
  (try refine ⟨rfl, ?_⟩); (try refine ⟨rfl, ?_⟩)
  first | (intro acts; rw [hret _ acts rfl rfl rfl]) | rw [hret _ _ rfl rfl rfl]
  exact Steps.refl _
/-- what holds at the law's entry: the machine, the code, the tables' words (any of lw_tbl by 'hts w (by decide +kernel)'), the script of L ints xs at the cell b, what the Statement gives of the start (any of its parts by flat_of_before) -/
def lw_At (p : Program) (s : State) (m : MethodId) (meth : Method) (c : Code) (b L : Nat) (xs : Nat → Int32) : Prop :=
  p.tables.exec = Jvm.exec ∧ c.code = code ∧ meth.sig.returnType = ret ∧ c.maxLocals = 4 ∧ s.vm.findClass R_law = some m.cls ∧ (∀ w ∈ lw_tbl, w.before #[Value.ref b] s = true) ∧ va_X b L xs s s.heap ∧ b < s.heap.size ∧ meth.locks = false ∧ (Jvm.Cond.and given_1 narrow_1).before #[Value.ref b] s = true
end
section
def RX0 : String := "TuneSchool$Cadence"
def TX0 : u_T := fun k => match k with
  | _ => ("TuneSchool$Rule", "truths", "[J", true)
def tyX0 : Nat → FieldType := fun k => match k with
  | _ => .array .long
abbrev wsX00 : List Cond := u_ws RX0 TX0 1
theorem nmX0 : ∀ a, a < 1 → ∀ b, b < 1 → a ≠ b → (TX0 a).2.1 ≠ (TX0 b).2.1 := by decide +kernel
theorem tyX0_ok : ∀ k, k < 1 → parseFieldDescriptor (TX0 k).2.2.1 = some (tyX0 k) := by decide +kernel
abbrev cX0_init : ByteArray := prog_2_method_1_code
def yX0_init : MethodName := ⟨RX0, "<init>", "()V"⟩
abbrev cX0_kind : ByteArray := prog_2_method_2_code
def yX0_kind : MethodName := ⟨RX0, "kind", "()I"⟩
abbrev cX0_tells : ByteArray := prog_2_method_3_code
def yX0_tells : MethodName := ⟨RX0, "tells", "(LTuneSchool$Moment;)Z"⟩
abbrev cX0_mends : ByteArray := prog_2_method_4_code
def yX0_mends : MethodName := ⟨RX0, "mends", "(LTuneSchool$Moment;)I"⟩
def RX1 : String := "TuneSchool$Desk"
def TX1 : u_T := fun k => match k with
  | 0 => ("TuneSchool$Desk", "m", "LTuneSchool$Moment;", true)
  | 1 => ("TuneSchool$Desk", "weights", "[I", true)
  | 2 => ("TuneSchool$Desk", "keys", "I", false)
  | 3 => ("TuneSchool$Desk", "begun", "Z", false)
  | 4 => ("TuneSchool$Desk", "ended", "Z", false)
  | 5 => ("TuneSchool$Desk", "target", "I", false)
  | 6 => ("TuneSchool$Desk", "place", "I", false)
  | 7 => ("TuneSchool$Desk", "above", "Z", false)
  | 8 => ("TuneSchool$Desk", "low", "I", false)
  | 9 => ("TuneSchool$Desk", "high", "I", false)
  | 10 => ("TuneSchool$Desk", "done", "I", false)
  | 11 => ("TuneSchool$Desk", "lastHeardTick", "I", false)
  | 12 => ("TuneSchool$Desk", "given", "LTuneSchool$Voice;", true)
  | 13 => ("TuneSchool$Desk", "begins", "[I", true)
  | 14 => ("TuneSchool$Desk", "leasts", "[I", true)
  | 15 => ("TuneSchool$Desk", "choices", "[I", true)
  | _ => ("TuneSchool$Desk", "tunesFrom", "[I", true)
def tyX1 : Nat → FieldType := fun k => match k with
  | 0 => .object "TuneSchool$Moment"
  | 1 => .array .int
  | 2 => .int
  | 3 => .boolean
  | 4 => .boolean
  | 5 => .int
  | 6 => .int
  | 7 => .boolean
  | 8 => .int
  | 9 => .int
  | 10 => .int
  | 11 => .int
  | 12 => .object "TuneSchool$Voice"
  | 13 => .array .int
  | 14 => .array .int
  | 15 => .array .int
  | _ => .array .int
abbrev wsX10 : List Cond := u_ws RX1 TX1 17
theorem nmX1 : ∀ a, a < 17 → ∀ b, b < 17 → a ≠ b → (TX1 a).2.1 ≠ (TX1 b).2.1 := by decide +kernel
theorem tyX1_ok : ∀ k, k < 17 → parseFieldDescriptor (TX1 k).2.2.1 = some (tyX1 k) := by decide +kernel
abbrev cX1_init : ByteArray := prog_3_method_1_code
def yX1_init : MethodName := ⟨RX1, "<init>", "(LTuneSchool$Moment;)V"⟩
abbrev cX1_begin : ByteArray := prog_3_method_2_code
def yX1_begin : MethodName := ⟨RX1, "begin", "(LTuneSchool$Voice;ZII)V"⟩
abbrev cX1_notes : ByteArray := prog_3_method_3_code
def yX1_notes : MethodName := ⟨RX1, "notes", "()I"⟩
abbrev cX1_left : ByteArray := prog_3_method_4_code
def yX1_left : MethodName := ⟨RX1, "left", "()I"⟩
abbrev cX1_isWorked : ByteArray := prog_3_method_5_code
def yX1_isWorked : MethodName := ⟨RX1, "isWorked", "()Z"⟩
abbrev cX1_isHeard : ByteArray := prog_3_method_6_code
def yX1_isHeard : MethodName := ⟨RX1, "isHeard", "(I)Z"⟩
abbrev cX1_takes : ByteArray := prog_3_method_7_code
def yX1_takes : MethodName := ⟨RX1, "takes", "(II)Z"⟩
abbrev cX1_hasWorked : ByteArray := prog_3_method_8_code
def yX1_hasWorked : MethodName := ⟨RX1, "hasWorked", "(I)Z"⟩
abbrev cX1_cell : ByteArray := prog_3_method_9_code
def yX1_cell : MethodName := ⟨RX1, "cell", "(III)I"⟩
abbrev cX1_tuneWeight : ByteArray := prog_3_method_10_code
def yX1_tuneWeight : MethodName := ⟨RX1, "tuneWeight", "()I"⟩
abbrev cX1_hasTune : ByteArray := prog_3_method_11_code
def yX1_hasTune : MethodName := ⟨RX1, "hasTune", "()Z"⟩
abbrev cX1_tunes : ByteArray := prog_3_method_12_code
def yX1_tunes : MethodName := ⟨RX1, "tunes", "()I"⟩
abbrev cX1_nextHeard : ByteArray := prog_3_method_13_code
def yX1_nextHeard : MethodName := ⟨RX1, "nextHeard", "(I)I"⟩
abbrev cX1_takeStep : ByteArray := prog_3_method_14_code
def yX1_takeStep : MethodName := ⟨RX1, "takeStep", "()V"⟩
abbrev cX1_takeFresh : ByteArray := prog_3_method_15_code
def yX1_takeFresh : MethodName := ⟨RX1, "takeFresh", "(I)V"⟩
abbrev cX1_work : ByteArray := prog_3_method_16_code
def yX1_work : MethodName := ⟨RX1, "work", "(ILTuneSchool$Standing;)V"⟩
abbrev cX1_isAllowed : ByteArray := prog_3_method_17_code
def yX1_isAllowed : MethodName := ⟨RX1, "isAllowed", "(II)Z"⟩
abbrev cX1_refuses : ByteArray := prog_3_method_18_code
def yX1_refuses : MethodName := ⟨RX1, "refuses", "(LTuneSchool$Standing;IIII)Z"⟩
abbrev cX1_openFresh : ByteArray := prog_3_method_19_code
def yX1_openFresh : MethodName := ⟨RX1, "openFresh", "(IZ)V"⟩
abbrev cX1_offer : ByteArray := prog_3_method_20_code
def yX1_offer : MethodName := ⟨RX1, "offer", "(LTuneSchool$Standing;IZII)V"⟩
abbrev cX1_closeFresh : ByteArray := prog_3_method_21_code
def yX1_closeFresh : MethodName := ⟨RX1, "closeFresh", "(II)V"⟩
abbrev cX1_weightBetween : ByteArray := prog_3_method_22_code
def yX1_weightBetween : MethodName := ⟨RX1, "weightBetween", "(II)I"⟩
abbrev cX1_mayCome : ByteArray := prog_3_method_23_code
def yX1_mayCome : MethodName := ⟨RX1, "mayCome", "(III)Z"⟩
abbrev cX1_dueBehind : ByteArray := prog_3_method_24_code
def yX1_dueBehind : MethodName := ⟨RX1, "dueBehind", "(LTuneSchool$Standing;II)I"⟩
abbrev cX1_isAsTold : ByteArray := prog_3_method_25_code
def yX1_isAsTold : MethodName := ⟨RX1, "isAsTold", "(LTuneSchool$Standing;)Z"⟩
abbrev cX1_write : ByteArray := prog_3_method_26_code
def yX1_write : MethodName := ⟨RX1, "write", "(LTuneSchool$Voice;)V"⟩
def RX2 : String := "TuneSchool$Interval"
def TX2 : u_T := fun k => match k with
  | _ => ("TuneSchool$Rule", "truths", "[J", true)
def tyX2 : Nat → FieldType := fun k => match k with
  | _ => .array .long
abbrev wsX20 : List Cond := u_ws RX2 TX2 1
theorem nmX2 : ∀ a, a < 1 → ∀ b, b < 1 → a ≠ b → (TX2 a).2.1 ≠ (TX2 b).2.1 := by decide +kernel
theorem tyX2_ok : ∀ k, k < 1 → parseFieldDescriptor (TX2 k).2.2.1 = some (tyX2 k) := by decide +kernel
abbrev cX2_init : ByteArray := prog_4_method_1_code
def yX2_init : MethodName := ⟨RX2, "<init>", "()V"⟩
abbrev cX2_kind : ByteArray := prog_4_method_2_code
def yX2_kind : MethodName := ⟨RX2, "kind", "()I"⟩
abbrev cX2_tells : ByteArray := prog_4_method_3_code
def yX2_tells : MethodName := ⟨RX2, "tells", "(LTuneSchool$Moment;)Z"⟩
abbrev cX2_mends : ByteArray := prog_4_method_4_code
def yX2_mends : MethodName := ⟨RX2, "mends", "(LTuneSchool$Moment;)I"⟩
def RX3 : String := "TuneSchool$Leap"
def TX3 : u_T := fun k => match k with
  | _ => ("TuneSchool$Rule", "truths", "[J", true)
def tyX3 : Nat → FieldType := fun k => match k with
  | _ => .array .long
abbrev wsX30 : List Cond := u_ws RX3 TX3 1
theorem nmX3 : ∀ a, a < 1 → ∀ b, b < 1 → a ≠ b → (TX3 a).2.1 ≠ (TX3 b).2.1 := by decide +kernel
theorem tyX3_ok : ∀ k, k < 1 → parseFieldDescriptor (TX3 k).2.2.1 = some (tyX3 k) := by decide +kernel
abbrev cX3_init : ByteArray := prog_5_method_1_code
def yX3_init : MethodName := ⟨RX3, "<init>", "()V"⟩
abbrev cX3_kind : ByteArray := prog_5_method_2_code
def yX3_kind : MethodName := ⟨RX3, "kind", "()I"⟩
abbrev cX3_listens : ByteArray := prog_5_method_3_code
def yX3_listens : MethodName := ⟨RX3, "listens", "(LTuneSchool$Moment;)Z"⟩
abbrev cX3_tells : ByteArray := prog_5_method_4_code
def yX3_tells : MethodName := ⟨RX3, "tells", "(LTuneSchool$Moment;)Z"⟩
abbrev cX3_wantsAnswer : ByteArray := prog_5_method_5_code
def yX3_wantsAnswer : MethodName := ⟨RX3, "wantsAnswer", "(II)Z"⟩
def RX4 : String := "TuneSchool$Line"
def TX4 : u_T := fun k => match k with
  | 0 => ("TuneSchool$Line", "characters", "[I", true)
  | 1 => ("TuneSchool$Line", "length", "I", false)
  | _ => ("TuneSchool$Line", "at", "I", false)
def tyX4 : Nat → FieldType := fun k => match k with
  | 0 => .array .int
  | 1 => .int
  | _ => .int
abbrev wsX40 : List Cond := u_ws RX4 TX4 3
theorem nmX4 : ∀ a, a < 3 → ∀ b, b < 3 → a ≠ b → (TX4 a).2.1 ≠ (TX4 b).2.1 := by decide +kernel
theorem tyX4_ok : ∀ k, k < 3 → parseFieldDescriptor (TX4 k).2.2.1 = some (tyX4 k) := by decide +kernel
abbrev cX4_init : ByteArray := prog_6_method_1_code
def yX4_init : MethodName := ⟨RX4, "<init>", "()V"⟩
abbrev cX4_tell : ByteArray := prog_6_method_2_code
def yX4_tell : MethodName := ⟨RX4, "tell", "(LTuneSchool$Voice;)V"⟩
abbrev cX4_addPitch : ByteArray := prog_6_method_3_code
def yX4_addPitch : MethodName := ⟨RX4, "addPitch", "(I)V"⟩
abbrev cX4_add : ByteArray := prog_6_method_4_code
def yX4_add : MethodName := ⟨RX4, "add", "(I)V"⟩
abbrev cX4_wrongPlace : ByteArray := prog_6_method_5_code
def yX4_wrongPlace : MethodName := ⟨RX4, "wrongPlace", "(LTuneSchool$Voice;)I"⟩
abbrev cX4_here : ByteArray := prog_6_method_6_code
def yX4_here : MethodName := ⟨RX4, "here", "()I"⟩
abbrev cX4_takePitch : ByteArray := prog_6_method_7_code
def yX4_takePitch : MethodName := ⟨RX4, "takePitch", "()I"⟩
def RX5 : String := "TuneSchool$Moment"
def TX5 : u_T := fun k => match k with
  | 0 => ("TuneSchool$Moment", "numbers", "[I", true)
  | 1 => ("TuneSchool$Moment", "traced", "I", false)
  | 2 => ("TuneSchool$Moment", "open", "Z", false)
  | 3 => ("TuneSchool$Moment", "strongEach", "I", false)
  | 4 => ("TuneSchool$Moment", "tick", "I", false)
  | 5 => ("TuneSchool$Moment", "p", "I", false)
  | 6 => ("TuneSchool$Moment", "q", "I", false)
  | 7 => ("TuneSchool$Moment", "pBefore", "I", false)
  | 8 => ("TuneSchool$Moment", "qBefore", "I", false)
  | 9 => ("TuneSchool$Moment", "last", "Z", false)
  | _ => ("TuneSchool$Moment", "alone", "LTuneSchool$Voice;", false)
def tyX5 : Nat → FieldType := fun k => match k with
  | 0 => .array .int
  | 1 => .int
  | 2 => .boolean
  | 3 => .int
  | 4 => .int
  | 5 => .int
  | 6 => .int
  | 7 => .int
  | 8 => .int
  | 9 => .boolean
  | _ => .object "TuneSchool$Voice"
abbrev wsX50 : List Cond := u_ws RX5 TX5 11
theorem nmX5 : ∀ a, a < 11 → ∀ b, b < 11 → a ≠ b → (TX5 a).2.1 ≠ (TX5 b).2.1 := by decide +kernel
theorem tyX5_ok : ∀ k, k < 11 → parseFieldDescriptor (TX5 k).2.2.1 = some (tyX5 k) := by decide +kernel
abbrev cX5_init : ByteArray := prog_7_method_1_code
def yX5_init : MethodName := ⟨RX5, "<init>", "()V"⟩
abbrev cX5_openTrace : ByteArray := prog_7_method_2_code
def yX5_openTrace : MethodName := ⟨RX5, "openTrace", "()V"⟩
abbrev cX5_mark : ByteArray := prog_7_method_3_code
def yX5_mark : MethodName := ⟨RX5, "mark", "(I)V"⟩
abbrev cX5_stand : ByteArray := prog_7_method_4_code
def yX5_stand : MethodName := ⟨RX5, "stand", "(LTuneSchool$Voice;LTuneSchool$Voice;II)V"⟩
abbrev cX5_comeFrom : ByteArray := prog_7_method_5_code
def yX5_comeFrom : MethodName := ⟨RX5, "comeFrom", "(II)V"⟩
abbrev cX5_bothSound : ByteArray := prog_7_method_6_code
def yX5_bothSound : MethodName := ⟨RX5, "bothSound", "()Z"⟩
abbrev cX5_isStrong : ByteArray := prog_7_method_7_code
def yX5_isStrong : MethodName := ⟨RX5, "isStrong", "()Z"⟩
abbrev cX5_step : ByteArray := prog_7_method_8_code
def yX5_step : MethodName := ⟨RX5, "step", "()I"⟩
abbrev cX5_moved : ByteArray := prog_7_method_9_code
def yX5_moved : MethodName := ⟨RX5, "moved", "()Z"⟩
abbrev cX5_way : ByteArray := prog_7_method_10_code
def yX5_way : MethodName := ⟨RX5, "way", "()I"⟩
def RX6 : String := "TuneSchool$Motion"
def TX6 : u_T := fun k => match k with
  | _ => ("TuneSchool$Rule", "truths", "[J", true)
def tyX6 : Nat → FieldType := fun k => match k with
  | _ => .array .long
abbrev wsX60 : List Cond := u_ws RX6 TX6 1
theorem nmX6 : ∀ a, a < 1 → ∀ b, b < 1 → a ≠ b → (TX6 a).2.1 ≠ (TX6 b).2.1 := by decide +kernel
theorem tyX6_ok : ∀ k, k < 1 → parseFieldDescriptor (TX6 k).2.2.1 = some (tyX6 k) := by decide +kernel
abbrev cX6_init : ByteArray := prog_8_method_1_code
def yX6_init : MethodName := ⟨RX6, "<init>", "()V"⟩
abbrev cX6_kind : ByteArray := prog_8_method_2_code
def yX6_kind : MethodName := ⟨RX6, "kind", "()I"⟩
abbrev cX6_tells : ByteArray := prog_8_method_3_code
def yX6_tells : MethodName := ⟨RX6, "tells", "(LTuneSchool$Moment;)Z"⟩
def RX7 : String := "TuneSchool$Rule"
def TX7 : u_T := fun k => match k with
  | _ => ("", "", "", false)
def tyX7 : Nat → FieldType := fun k => match k with
  | _ => .int
abbrev wsX70 : List Cond := u_ws RX7 TX7 0
theorem nmX7 : ∀ a, a < 0 → ∀ b, b < 0 → a ≠ b → (TX7 a).2.1 ≠ (TX7 b).2.1 := by decide +kernel
theorem tyX7_ok : ∀ k, k < 0 → parseFieldDescriptor (TX7 k).2.2.1 = some (tyX7 k) := by decide +kernel
abbrev cX7_init : ByteArray := prog_9_method_1_code
def yX7_init : MethodName := ⟨RX7, "<init>", "()V"⟩
abbrev cX7_width : ByteArray := prog_9_method_4_code
def yX7_width : MethodName := ⟨RX7, "width", "()I"⟩
abbrev cX7_ruleAt : ByteArray := prog_9_method_5_code
def yX7_ruleAt : MethodName := ⟨RX7, "ruleAt", "(I)LTuneSchool$Rule;"⟩
abbrev cX7_holds : ByteArray := prog_9_method_6_code
def yX7_holds : MethodName := ⟨RX7, "holds", "(II)Z"⟩
abbrev cX7_change : ByteArray := prog_9_method_7_code
def yX7_change : MethodName := ⟨RX7, "change", "(IIZ)V"⟩
abbrev cX7_listens : ByteArray := prog_9_method_8_code
def yX7_listens : MethodName := ⟨RX7, "listens", "(LTuneSchool$Moment;)Z"⟩
abbrev cX7_mends : ByteArray := prog_9_method_9_code
def yX7_mends : MethodName := ⟨RX7, "mends", "(LTuneSchool$Moment;)I"⟩
def RX8 : String := "TuneSchool$School"
def TX8 : u_T := fun k => match k with
  | 0 => ("TuneSchool$School", "type", "I", true)
  | _ => ("TuneSchool$School", "seats", "[LTuneSchool$Rule;", true)
def tyX8 : Nat → FieldType := fun k => match k with
  | 0 => .int
  | _ => .array (.object "TuneSchool$Rule")
abbrev wsX80 : List Cond := u_ws RX8 TX8 2
theorem nmX8 : ∀ a, a < 2 → ∀ b, b < 2 → a ≠ b → (TX8 a).2.1 ≠ (TX8 b).2.1 := by decide +kernel
theorem tyX8_ok : ∀ k, k < 2 → parseFieldDescriptor (TX8 k).2.2.1 = some (tyX8 k) := by decide +kernel
abbrev cX8_init : ByteArray := prog_10_method_1_code
def yX8_init : MethodName := ⟨RX8, "<init>", "(II)V"⟩
abbrev cX8_width : ByteArray := prog_10_method_2_code
def yX8_width : MethodName := ⟨RX8, "width", "()I"⟩
abbrev cX8_ruleAt : ByteArray := prog_10_method_3_code
def yX8_ruleAt : MethodName := ⟨RX8, "ruleAt", "(I)LTuneSchool$Rule;"⟩
abbrev cX8_isFor : ByteArray := prog_10_method_4_code
def yX8_isFor : MethodName := ⟨RX8, "isFor", "(LTuneSchool$Standing;)Z"⟩
def RX9 : String := "TuneSchool$Standing"
def TX9 : u_T := fun k => match k with
  | _ => ("", "", "", false)
def tyX9 : Nat → FieldType := fun k => match k with
  | _ => .int
abbrev wsX90 : List Cond := u_ws RX9 TX9 0
theorem nmX9 : ∀ a, a < 0 → ∀ b, b < 0 → a ≠ b → (TX9 a).2.1 ≠ (TX9 b).2.1 := by decide +kernel
theorem tyX9_ok : ∀ k, k < 0 → parseFieldDescriptor (TX9 k).2.2.1 = some (tyX9 k) := by decide +kernel
abbrev cX9_init : ByteArray := prog_11_method_1_code
def yX9_init : MethodName := ⟨RX9, "<init>", "()V"⟩
def RX10 : String := "TuneSchool$Voice"
def TX10 : u_T := fun k => match k with
  | 0 => ("TuneSchool$Voice", "rows", "[[I", true)
  | 1 => ("TuneSchool$Voice", "sizes", "[I", true)
  | 2 => ("TuneSchool$Voice", "ticks", "[I", true)
  | 3 => ("TuneSchool$Voice", "behindAll", "I", false)
  | _ => ("TuneSchool$Voice", "there", "Z", false)
def tyX10 : Nat → FieldType := fun k => match k with
  | 0 => .array (.array .int)
  | 1 => .array .int
  | 2 => .array .int
  | 3 => .int
  | _ => .boolean
abbrev wsX100 : List Cond := u_ws RX10 TX10 5
theorem nmX10 : ∀ a, a < 5 → ∀ b, b < 5 → a ≠ b → (TX10 a).2.1 ≠ (TX10 b).2.1 := by decide +kernel
theorem tyX10_ok : ∀ k, k < 5 → parseFieldDescriptor (TX10 k).2.2.1 = some (tyX10 k) := by decide +kernel
abbrev cX10_init : ByteArray := prog_12_method_1_code
def yX10_init : MethodName := ⟨RX10, "<init>", "()V"⟩
abbrev cX10_renew : ByteArray := prog_12_method_2_code
def yX10_renew : MethodName := ⟨RX10, "renew", "(I)V"⟩
abbrev cX10_becomeAs : ByteArray := prog_12_method_3_code
def yX10_becomeAs : MethodName := ⟨RX10, "becomeAs", "(LTuneSchool$Voice;)V"⟩
abbrev cX10_has : ByteArray := prog_12_method_4_code
def yX10_has : MethodName := ⟨RX10, "has", "(II)Z"⟩
abbrev cX10_hasPart : ByteArray := prog_12_method_5_code
def yX10_hasPart : MethodName := ⟨RX10, "hasPart", "(III)Z"⟩
abbrev cX10_walk : ByteArray := prog_12_method_6_code
def yX10_walk : MethodName := ⟨RX10, "walk", "()Z"⟩
abbrev cX10_at : ByteArray := prog_12_method_7_code
def yX10_at : MethodName := ⟨RX10, "at", "(I)I"⟩
abbrev cX10_otherBehind : ByteArray := prog_12_method_8_code
def yX10_otherBehind : MethodName := ⟨RX10, "otherBehind", "(I)I"⟩
abbrev cX10_firstPitch : ByteArray := prog_12_method_9_code
def yX10_firstPitch : MethodName := ⟨RX10, "firstPitch", "()I"⟩
abbrev cX10_canShift : ByteArray := prog_12_method_10_code
def yX10_canShift : MethodName := ⟨RX10, "canShift", "(I)Z"⟩
abbrev cX10_shift : ByteArray := prog_12_method_11_code
def yX10_shift : MethodName := ⟨RX10, "shift", "(I)I"⟩
abbrev cX10_followed : ByteArray := prog_12_method_12_code
def yX10_followed : MethodName := ⟨RX10, "followed", "(IIII)I"⟩
abbrev cX10_follow : ByteArray := prog_12_method_13_code
def yX10_follow : MethodName := ⟨RX10, "follow", "(LTuneSchool$Voice;III)V"⟩
def RX11 : String := "TuneSchool"
def TX11 : u_T := fun k => match k with
  | 0 => ("TuneSchool", "voices", "[LTuneSchool$Voice;", true)
  | 1 => ("TuneSchool", "kept", "LTuneSchool$Voice;", true)
  | 2 => ("TuneSchool", "draft", "LTuneSchool$Voice;", true)
  | 3 => ("TuneSchool", "follower", "LTuneSchool$Voice;", true)
  | 4 => ("TuneSchool", "places", "[LTuneSchool$Standing;", true)
  | 5 => ("TuneSchool", "moment", "LTuneSchool$Moment;", true)
  | 6 => ("TuneSchool", "desk", "LTuneSchool$Desk;", true)
  | 7 => ("TuneSchool", "line", "LTuneSchool$Line;", true)
  | 8 => ("TuneSchool", "lasts", "[I", true)
  | 9 => ("TuneSchool", "faultRules", "[LTuneSchool$Rule;", true)
  | 10 => ("TuneSchool", "faultNumbers", "[I", true)
  | 11 => ("TuneSchool", "noted", "I", false)
  | 12 => ("TuneSchool", "faultsFound", "I", false)
  | 13 => ("TuneSchool", "keptNumber", "I", false)
  | 14 => ("TuneSchool", "latestFinding", "I", false)
  | 15 => ("TuneSchool", "findings", "I", false)
  | _ => ("TuneSchool", "rowsCopied", "I", false)
def tyX11 : Nat → FieldType := fun k => match k with
  | 0 => .array (.object "TuneSchool$Voice")
  | 1 => .object "TuneSchool$Voice"
  | 2 => .object "TuneSchool$Voice"
  | 3 => .object "TuneSchool$Voice"
  | 4 => .array (.object "TuneSchool$Standing")
  | 5 => .object "TuneSchool$Moment"
  | 6 => .object "TuneSchool$Desk"
  | 7 => .object "TuneSchool$Line"
  | 8 => .array .int
  | 9 => .array (.object "TuneSchool$Rule")
  | 10 => .array .int
  | 11 => .int
  | 12 => .int
  | 13 => .int
  | 14 => .int
  | 15 => .int
  | _ => .int
abbrev wsX110 : List Cond := u_ws RX11 TX11 17
theorem nmX11 : ∀ a, a < 17 → ∀ b, b < 17 → a ≠ b → (TX11 a).2.1 ≠ (TX11 b).2.1 := by decide +kernel
theorem tyX11_ok : ∀ k, k < 17 → parseFieldDescriptor (TX11 k).2.2.1 = some (tyX11 k) := by decide +kernel
abbrev cX11_init : ByteArray := prog_1_method_1_code
def yX11_init : MethodName := ⟨RX11, "<init>", "()V"⟩
abbrev cX11_voice : ByteArray := prog_1_method_2_code
def yX11_voice : MethodName := ⟨RX11, "voice", "(II)I"⟩
abbrev cX11_drop : ByteArray := prog_1_method_3_code
def yX11_drop : MethodName := ⟨RX11, "drop", "(I)I"⟩
abbrev cX11_note : ByteArray := prog_1_method_4_code
def yX11_note : MethodName := ⟨RX11, "note", "(IIII)I"⟩
abbrev cX11_cut : ByteArray := prog_1_method_5_code
def yX11_cut : MethodName := ⟨RX11, "cut", "(III)I"⟩
abbrev cX11_size : ByteArray := prog_1_method_6_code
def yX11_size : MethodName := ⟨RX11, "size", "(II)I"⟩
abbrev cX11_number : ByteArray := prog_1_method_7_code
def yX11_number : MethodName := ⟨RX11, "number", "(III)I"⟩
abbrev cX11_end : ByteArray := prog_1_method_8_code
def yX11_end : MethodName := ⟨RX11, "end", "(I)I"⟩
abbrev cX11_sounds : ByteArray := prog_1_method_9_code
def yX11_sounds : MethodName := ⟨RX11, "sounds", "(II)I"⟩
abbrev cX11_transpose : ByteArray := prog_1_method_10_code
def yX11_transpose : MethodName := ⟨RX11, "transpose", "(II)I"⟩
abbrev cX11_copy : ByteArray := prog_1_method_11_code
def yX11_copy : MethodName := ⟨RX11, "copy", "(IIIII)I"⟩
abbrev cX11_undo : ByteArray := prog_1_method_12_code
def yX11_undo : MethodName := ⟨RX11, "undo", "()I"⟩
abbrev cX11_rule : ByteArray := prog_1_method_13_code
def yX11_rule : MethodName := ⟨RX11, "rule", "(II)I"⟩
abbrev cX11_school : ByteArray := prog_1_method_14_code
def yX11_school : MethodName := ⟨RX11, "school", "(III)I"⟩
abbrev cX11_clear : ByteArray := prog_1_method_15_code
def yX11_clear : MethodName := ⟨RX11, "clear", "(I)I"⟩
abbrev cX11_truth : ByteArray := prog_1_method_16_code
def yX11_truth : MethodName := ⟨RX11, "truth", "(IIIZ)I"⟩
abbrev cX11_is : ByteArray := prog_1_method_17_code
def yX11_is : MethodName := ⟨RX11, "is", "(II)I"⟩
abbrev cX11_seat : ByteArray := prog_1_method_18_code
def yX11_seat : MethodName := ⟨RX11, "seat", "(III)I"⟩
abbrev cX11_seated : ByteArray := prog_1_method_19_code
def yX11_seated : MethodName := ⟨RX11, "seated", "(II)I"⟩
abbrev cX11_strong : ByteArray := prog_1_method_20_code
def yX11_strong : MethodName := ⟨RX11, "strong", "(I)I"⟩
abbrev cX11_key : ByteArray := prog_1_method_21_code
def yX11_key : MethodName := ⟨RX11, "key", "(I)I"⟩
abbrev cX11_weight : ByteArray := prog_1_method_22_code
def yX11_weight : MethodName := ⟨RX11, "weight", "(II)I"⟩
abbrev cX11_faults : ByteArray := prog_1_method_23_code
def yX11_faults : MethodName := ⟨RX11, "faults", "(I)I"⟩
abbrev cX11_fault : ByteArray := prog_1_method_24_code
def yX11_fault : MethodName := ⟨RX11, "fault", "(II)I"⟩
abbrev cX11_mend : ByteArray := prog_1_method_25_code
def yX11_mend : MethodName := ⟨RX11, "mend", "(I)I"⟩
abbrev cX11_canon : ByteArray := prog_1_method_26_code
def yX11_canon : MethodName := ⟨RX11, "canon", "(IIIII)I"⟩
abbrev cX11_canons : ByteArray := prog_1_method_27_code
def yX11_canons : MethodName := ⟨RX11, "canons", "(IIII)I"⟩
abbrev cX11_follows : ByteArray := prog_1_method_28_code
def yX11_follows : MethodName := ⟨RX11, "follows", "(IIIII)I"⟩
abbrev cX11_set : ByteArray := prog_1_method_29_code
def yX11_set : MethodName := ⟨RX11, "set", "(IIIZIII)I"⟩
abbrev cX11_goOn : ByteArray := prog_1_method_30_code
def yX11_goOn : MethodName := ⟨RX11, "goOn", "(I)I"⟩
abbrev cX11_least : ByteArray := prog_1_method_31_code
def yX11_least : MethodName := ⟨RX11, "least", "()I"⟩
abbrev cX11_many : ByteArray := prog_1_method_32_code
def yX11_many : MethodName := ⟨RX11, "many", "()I"⟩
abbrev cX11_row : ByteArray := prog_1_method_33_code
def yX11_row : MethodName := ⟨RX11, "row", "(III)I"⟩
abbrev cX11_spoil : ByteArray := prog_1_method_34_code
def yX11_spoil : MethodName := ⟨RX11, "spoil", "(IIII)I"⟩
abbrev cX11_check : ByteArray := prog_1_method_35_code
def yX11_check : MethodName := ⟨RX11, "check", "()I"⟩
abbrev cX11_print : ByteArray := prog_1_method_36_code
def yX11_print : MethodName := ⟨RX11, "print", "(I)I"⟩
abbrev cX11_read : ByteArray := prog_1_method_37_code
def yX11_read : MethodName := ⟨RX11, "read", "(I)I"⟩
abbrev cX11_put : ByteArray := prog_1_method_38_code
def yX11_put : MethodName := ⟨RX11, "put", "(II)I"⟩
abbrev cX11_cutLine : ByteArray := prog_1_method_39_code
def yX11_cutLine : MethodName := ⟨RX11, "cutLine", "(I)I"⟩
abbrev cX11_character : ByteArray := prog_1_method_40_code
def yX11_character : MethodName := ⟨RX11, "character", "(I)I"⟩
abbrev cX11_status : ByteArray := prog_1_method_41_code
def yX11_status : MethodName := ⟨RX11, "status", "()I"⟩
abbrev cX11_trace : ByteArray := prog_1_method_42_code
def yX11_trace : MethodName := ⟨RX11, "trace", "(I)I"⟩
abbrev cX11_count : ByteArray := prog_1_method_43_code
def yX11_count : MethodName := ⟨RX11, "count", "(I)I"⟩
abbrev cX11_isWithin : ByteArray := prog_1_method_44_code
def yX11_isWithin : MethodName := ⟨RX11, "isWithin", "(III)Z"⟩
abbrev cX11_isVoice : ByteArray := prog_1_method_45_code
def yX11_isVoice : MethodName := ⟨RX11, "isVoice", "(I)Z"⟩
abbrev cX11_isRow : ByteArray := prog_1_method_46_code
def yX11_isRow : MethodName := ⟨RX11, "isRow", "(I)Z"⟩
abbrev cX11_isPlace : ByteArray := prog_1_method_47_code
def yX11_isPlace : MethodName := ⟨RX11, "isPlace", "(I)Z"⟩
abbrev cX11_isFollower : ByteArray := prog_1_method_48_code
def yX11_isFollower : MethodName := ⟨RX11, "isFollower", "(III)Z"⟩
abbrev cX11_finding : ByteArray := prog_1_method_49_code
def yX11_finding : MethodName := ⟨RX11, "finding", "(I)I"⟩
abbrev cX11_fine : ByteArray := prog_1_method_50_code
def yX11_fine : MethodName := ⟨RX11, "fine", "(I)I"⟩
abbrev cX11_keep : ByteArray := prog_1_method_51_code
def yX11_keep : MethodName := ⟨RX11, "keep", "(I)V"⟩
abbrev cX11_goThrough : ByteArray := prog_1_method_52_code
def yX11_goThrough : MethodName := ⟨RX11, "goThrough", "(LTuneSchool$Voice;)I"⟩
abbrev cX11_voicesThere : ByteArray := prog_1_method_53_code
def yX11_voicesThere : MethodName := ⟨RX11, "voicesThere", "()I"⟩
abbrev cX11_placesTaken : ByteArray := prog_1_method_54_code
def yX11_placesTaken : MethodName := ⟨RX11, "placesTaken", "()I"⟩
abbrev cX11_newRule : ByteArray := prog_1_method_55_code
def yX11_newRule : MethodName := ⟨RX11, "newRule", "(I)LTuneSchool$Rule;"⟩
abbrev cX11_standsAs : ByteArray := prog_1_method_56_code
def yX11_standsAs : MethodName := ⟨RX11, "standsAs", "(LTuneSchool$Standing;I)Z"⟩
abbrev cX11_lastOfBoth : ByteArray := prog_1_method_57_code
def yX11_lastOfBoth : MethodName := ⟨RX11, "lastOfBoth", "(LTuneSchool$Voice;LTuneSchool$Voice;)I"⟩
abbrev cX11_findLasts : ByteArray := prog_1_method_58_code
def yX11_findLasts : MethodName := ⟨RX11, "findLasts", "()V"⟩
abbrev cX11_askPair : ByteArray := prog_1_method_59_code
def yX11_askPair : MethodName := ⟨RX11, "askPair", "(LTuneSchool$Standing;III)V"⟩
abbrev cX11_noteFault : ByteArray := prog_1_method_60_code
def yX11_noteFault : MethodName := ⟨RX11, "noteFault", "(LTuneSchool$Rule;III)V"⟩
abbrev cX11_faultNumber : ByteArray := prog_1_method_61_code
def yX11_faultNumber : MethodName := ⟨RX11, "faultNumber", "(II)I"⟩
abbrev cX11_firstFault : ByteArray := prog_1_method_62_code
def yX11_firstFault : MethodName := ⟨RX11, "firstFault", "(LTuneSchool$Voice;LTuneSchool$Standing;III)I"⟩
abbrev cX11_tellsAny : ByteArray := prog_1_method_63_code
def yX11_tellsAny : MethodName := ⟨RX11, "tellsAny", "(LTuneSchool$Standing;)Z"⟩
abbrev cX11_advance : ByteArray := prog_1_method_64_code
def yX11_advance : MethodName := ⟨RX11, "advance", "(I)I"⟩
abbrev cX11_writeTune : ByteArray := prog_1_method_65_code
def yX11_writeTune : MethodName := ⟨RX11, "writeTune", "()I"⟩
def RX12 : String := "TuneSchoolModel"
def TX12 : u_T := fun k => match k with
  | 0 => ("TuneSchoolModel", "status", "I", false)
  | 1 => ("TuneSchoolModel", "findings", "I", false)
  | 2 => ("TuneSchoolModel", "isThere", "[Z", true)
  | 3 => ("TuneSchoolModel", "sizes", "[I", true)
  | 4 => ("TuneSchoolModel", "numbers", "[I", true)
  | 5 => ("TuneSchoolModel", "isKept", "Z", false)
  | 6 => ("TuneSchoolModel", "keptVoice", "I", false)
  | 7 => ("TuneSchoolModel", "keptThere", "Z", false)
  | 8 => ("TuneSchoolModel", "keptSizes", "[I", true)
  | 9 => ("TuneSchoolModel", "keptNumbers", "[I", true)
  | 10 => ("TuneSchoolModel", "copied", "I", false)
  | 11 => ("TuneSchoolModel", "sound", "[I", true)
  | 12 => ("TuneSchoolModel", "ends", "[I", true)
  | 13 => ("TuneSchoolModel", "rules", "I", false)
  | 14 => ("TuneSchoolModel", "kindOf", "[I", true)
  | 15 => ("TuneSchoolModel", "rests", "[Z", true)
  | 16 => ("TuneSchoolModel", "comes", "[Z", true)
  | 17 => ("TuneSchoolModel", "answered", "[Z", true)
  | 18 => ("TuneSchoolModel", "schools", "I", false)
  | 19 => ("TuneSchoolModel", "typeOf", "[I", true)
  | 20 => ("TuneSchoolModel", "seatsOf", "[I", true)
  | 21 => ("TuneSchoolModel", "seats", "[I", true)
  | 22 => ("TuneSchoolModel", "sort", "[I", true)
  | 23 => ("TuneSchoolModel", "what", "[I", true)
  | 24 => ("TuneSchoolModel", "strong", "I", false)
  | 25 => ("TuneSchoolModel", "key", "I", false)
  | 26 => ("TuneSchoolModel", "weights", "[I", true)
  | 27 => ("TuneSchoolModel", "isTracing", "Z", false)
  | 28 => ("TuneSchoolModel", "traced", "I", false)
  | 29 => ("TuneSchoolModel", "traces", "[I", true)
  | 30 => ("TuneSchoolModel", "faultCount", "I", false)
  | 31 => ("TuneSchoolModel", "noted", "I", false)
  | 32 => ("TuneSchoolModel", "faultSeat", "[I", true)
  | 33 => ("TuneSchoolModel", "faultTick", "[I", true)
  | 34 => ("TuneSchoolModel", "faultA", "[I", true)
  | 35 => ("TuneSchoolModel", "faultB", "[I", true)
  | 36 => ("TuneSchoolModel", "faultRule", "[I", true)
  | 37 => ("TuneSchoolModel", "line", "[I", true)
  | 38 => ("TuneSchoolModel", "lineSize", "I", false)
  | 39 => ("TuneSchoolModel", "middle", "[I", true)
  | 40 => ("TuneSchoolModel", "rowA", "I", false)
  | 41 => ("TuneSchoolModel", "rowB", "I", false)
  | 42 => ("TuneSchoolModel", "lastBoth", "I", false)
  | 43 => ("TuneSchoolModel", "lasts", "[I", true)
  | 44 => ("TuneSchoolModel", "isSet", "Z", false)
  | 45 => ("TuneSchoolModel", "setVoice", "I", false)
  | 46 => ("TuneSchoolModel", "setPlace", "I", false)
  | 47 => ("TuneSchoolModel", "setAbove", "Z", false)
  | 48 => ("TuneSchoolModel", "setLow", "I", false)
  | 49 => ("TuneSchoolModel", "setHigh", "I", false)
  | 50 => ("TuneSchoolModel", "notes", "I", false)
  | 51 => ("TuneSchoolModel", "gPitch", "[I", true)
  | 52 => ("TuneSchoolModel", "gLength", "[I", true)
  | 53 => ("TuneSchoolModel", "gBegin", "[I", true)
  | 54 => ("TuneSchoolModel", "stepsDone", "I", false)
  | 55 => ("TuneSchoolModel", "isWorked", "Z", false)
  | 56 => ("TuneSchoolModel", "isOver", "Z", false)
  | 57 => ("TuneSchoolModel", "hasTune", "Z", false)
  | 58 => ("TuneSchoolModel", "tuneWeight", "I", false)
  | 59 => ("TuneSchoolModel", "tuneMany", "I", false)
  | 60 => ("TuneSchoolModel", "leasts", "[I", true)
  | 61 => ("TuneSchoolModel", "chosen", "[I", true)
  | 62 => ("TuneSchoolModel", "manies", "[I", true)
  | 63 => ("TuneSchoolModel", "fitting", "[Z", true)
  | 64 => ("TuneSchoolModel", "best", "I", false)
  | 65 => ("TuneSchoolModel", "choice", "I", false)
  | 66 => ("TuneSchoolModel", "many", "I", false)
  | 67 => ("TuneSchoolModel", "tune", "[I", true)
  | 68 => ("TuneSchoolModel", "readPitch", "[I", true)
  | 69 => ("TuneSchoolModel", "readLength", "[I", true)
  | _ => ("TuneSchoolModel", "readNotes", "I", false)
def tyX12 : Nat → FieldType := fun k => match k with
  | 0 => .int
  | 1 => .int
  | 2 => .array .boolean
  | 3 => .array .int
  | 4 => .array .int
  | 5 => .boolean
  | 6 => .int
  | 7 => .boolean
  | 8 => .array .int
  | 9 => .array .int
  | 10 => .int
  | 11 => .array .int
  | 12 => .array .int
  | 13 => .int
  | 14 => .array .int
  | 15 => .array .boolean
  | 16 => .array .boolean
  | 17 => .array .boolean
  | 18 => .int
  | 19 => .array .int
  | 20 => .array .int
  | 21 => .array .int
  | 22 => .array .int
  | 23 => .array .int
  | 24 => .int
  | 25 => .int
  | 26 => .array .int
  | 27 => .boolean
  | 28 => .int
  | 29 => .array .int
  | 30 => .int
  | 31 => .int
  | 32 => .array .int
  | 33 => .array .int
  | 34 => .array .int
  | 35 => .array .int
  | 36 => .array .int
  | 37 => .array .int
  | 38 => .int
  | 39 => .array .int
  | 40 => .int
  | 41 => .int
  | 42 => .int
  | 43 => .array .int
  | 44 => .boolean
  | 45 => .int
  | 46 => .int
  | 47 => .boolean
  | 48 => .int
  | 49 => .int
  | 50 => .int
  | 51 => .array .int
  | 52 => .array .int
  | 53 => .array .int
  | 54 => .int
  | 55 => .boolean
  | 56 => .boolean
  | 57 => .boolean
  | 58 => .int
  | 59 => .int
  | 60 => .array .int
  | 61 => .array .int
  | 62 => .array .int
  | 63 => .array .boolean
  | 64 => .int
  | 65 => .int
  | 66 => .int
  | 67 => .array .int
  | 68 => .array .int
  | 69 => .array .int
  | _ => .int
abbrev wsX120 : List Cond := u_ws RX12 TX12 71
theorem nmX12 : ∀ a, a < 71 → ∀ b, b < 71 → a ≠ b → (TX12 a).2.1 ≠ (TX12 b).2.1 := by decide +kernel
theorem tyX12_ok : ∀ k, k < 71 → parseFieldDescriptor (TX12 k).2.2.1 = some (tyX12 k) := by decide +kernel
abbrev cX12_init : ByteArray := prog_14_method_1_code
def yX12_init : MethodName := ⟨RX12, "<init>", "()V"⟩
abbrev cX12_in : ByteArray := prog_14_method_3_code
def yX12_in : MethodName := ⟨RX12, "in", "(III)Z"⟩
abbrev cX12_isVoice : ByteArray := prog_14_method_4_code
def yX12_isVoice : MethodName := ⟨RX12, "isVoice", "(I)Z"⟩
abbrev cX12_isPlace : ByteArray := prog_14_method_5_code
def yX12_isPlace : MethodName := ⟨RX12, "isPlace", "(I)Z"⟩
abbrev cX12_finds : ByteArray := prog_14_method_6_code
def yX12_finds : MethodName := ⟨RX12, "finds", "(I)I"⟩
abbrev cX12_distance : ByteArray := prog_14_method_7_code
def yX12_distance : MethodName := ⟨RX12, "distance", "(II)I"⟩
abbrev cX12_keep : ByteArray := prog_14_method_8_code
def yX12_keep : MethodName := ⟨RX12, "keep", "(I)V"⟩
abbrev cX12_pitchAt : ByteArray := prog_14_method_9_code
def yX12_pitchAt : MethodName := ⟨RX12, "pitchAt", "(II)I"⟩
abbrev cX12_lengthAt : ByteArray := prog_14_method_10_code
def yX12_lengthAt : MethodName := ⟨RX12, "lengthAt", "(II)I"⟩
abbrev cX12_against : ByteArray := prog_14_method_11_code
def yX12_against : MethodName := ⟨RX12, "against", "(I)I"⟩
abbrev cX12_lay : ByteArray := prog_14_method_12_code
def yX12_lay : MethodName := ⟨RX12, "lay", "(I)V"⟩
abbrev cX12_soundAt : ByteArray := prog_14_method_13_code
def yX12_soundAt : MethodName := ⟨RX12, "soundAt", "(II)I"⟩
abbrev cX12_voice : ByteArray := prog_14_method_14_code
def yX12_voice : MethodName := ⟨RX12, "voice", "(II)I"⟩
abbrev cX12_drop : ByteArray := prog_14_method_15_code
def yX12_drop : MethodName := ⟨RX12, "drop", "(I)I"⟩
abbrev cX12_note : ByteArray := prog_14_method_16_code
def yX12_note : MethodName := ⟨RX12, "note", "(IIII)I"⟩
abbrev cX12_cut : ByteArray := prog_14_method_17_code
def yX12_cut : MethodName := ⟨RX12, "cut", "(III)I"⟩
abbrev cX12_size : ByteArray := prog_14_method_18_code
def yX12_size : MethodName := ⟨RX12, "size", "(II)I"⟩
abbrev cX12_number : ByteArray := prog_14_method_19_code
def yX12_number : MethodName := ⟨RX12, "number", "(III)I"⟩
abbrev cX12_end : ByteArray := prog_14_method_20_code
def yX12_end : MethodName := ⟨RX12, "end", "(I)I"⟩
abbrev cX12_sounds : ByteArray := prog_14_method_21_code
def yX12_sounds : MethodName := ⟨RX12, "sounds", "(II)I"⟩
abbrev cX12_transpose : ByteArray := prog_14_method_22_code
def yX12_transpose : MethodName := ⟨RX12, "transpose", "(II)I"⟩
abbrev cX12_copyRow : ByteArray := prog_14_method_23_code
def yX12_copyRow : MethodName := ⟨RX12, "copyRow", "(IIIIII)Z"⟩
abbrev cX12_copy : ByteArray := prog_14_method_24_code
def yX12_copy : MethodName := ⟨RX12, "copy", "(IIIII)I"⟩
abbrev cX12_undo : ByteArray := prog_14_method_25_code
def yX12_undo : MethodName := ⟨RX12, "undo", "()I"⟩
abbrev cX12_rule : ByteArray := prog_14_method_26_code
def yX12_rule : MethodName := ⟨RX12, "rule", "(II)I"⟩
abbrev cX12_school : ByteArray := prog_14_method_27_code
def yX12_school : MethodName := ⟨RX12, "school", "(III)I"⟩
abbrev cX12_clear : ByteArray := prog_14_method_28_code
def yX12_clear : MethodName := ⟨RX12, "clear", "(I)I"⟩
abbrev cX12_isOf : ByteArray := prog_14_method_29_code
def yX12_isOf : MethodName := ⟨RX12, "isOf", "(II)Z"⟩
abbrev cX12_told : ByteArray := prog_14_method_30_code
def yX12_told : MethodName := ⟨RX12, "told", "([ZIZ)I"⟩
abbrev cX12_truth : ByteArray := prog_14_method_31_code
def yX12_truth : MethodName := ⟨RX12, "truth", "(IIIZ)I"⟩
abbrev cX12_is : ByteArray := prog_14_method_32_code
def yX12_is : MethodName := ⟨RX12, "is", "(II)I"⟩
abbrev cX12_seat : ByteArray := prog_14_method_33_code
def yX12_seat : MethodName := ⟨RX12, "seat", "(III)I"⟩
abbrev cX12_seated : ByteArray := prog_14_method_34_code
def yX12_seated : MethodName := ⟨RX12, "seated", "(II)I"⟩
abbrev cX12_strong : ByteArray := prog_14_method_35_code
def yX12_strong : MethodName := ⟨RX12, "strong", "(I)I"⟩
abbrev cX12_key : ByteArray := prog_14_method_36_code
def yX12_key : MethodName := ⟨RX12, "key", "(I)I"⟩
abbrev cX12_weight : ByteArray := prog_14_method_37_code
def yX12_weight : MethodName := ⟨RX12, "weight", "(II)I"⟩
abbrev cX12_beginTrace : ByteArray := prog_14_method_38_code
def yX12_beginTrace : MethodName := ⟨RX12, "beginTrace", "()V"⟩
abbrev cX12_tell : ByteArray := prog_14_method_39_code
def yX12_tell : MethodName := ⟨RX12, "tell", "(I)V"⟩
abbrev cX12_pair : ByteArray := prog_14_method_40_code
def yX12_pair : MethodName := ⟨RX12, "pair", "(II)V"⟩
abbrev cX12_byInterval : ByteArray := prog_14_method_41_code
def yX12_byInterval : MethodName := ⟨RX12, "byInterval", "(IIII)Z"⟩
abbrev cX12_byMotion : ByteArray := prog_14_method_42_code
def yX12_byMotion : MethodName := ⟨RX12, "byMotion", "(IIII)Z"⟩
abbrev cX12_byCadence : ByteArray := prog_14_method_43_code
def yX12_byCadence : MethodName := ⟨RX12, "byCadence", "(IIII)Z"⟩
abbrev cX12_byLeap : ByteArray := prog_14_method_44_code
def yX12_byLeap : MethodName := ⟨RX12, "byLeap", "(III)Z"⟩
abbrev cX12_hasFault : ByteArray := prog_14_method_45_code
def yX12_hasFault : MethodName := ⟨RX12, "hasFault", "(IIII)Z"⟩
abbrev cX12_listens : ByteArray := prog_14_method_46_code
def yX12_listens : MethodName := ⟨RX12, "listens", "(I)Z"⟩
abbrev cX12_askedAt : ByteArray := prog_14_method_47_code
def yX12_askedAt : MethodName := ⟨RX12, "askedAt", "(I)I"⟩
abbrev cX12_ruleAt : ByteArray := prog_14_method_48_code
def yX12_ruleAt : MethodName := ⟨RX12, "ruleAt", "(II)I"⟩
abbrev cX12_asks : ByteArray := prog_14_method_49_code
def yX12_asks : MethodName := ⟨RX12, "asks", "(II)Z"⟩
abbrev cX12_faults : ByteArray := prog_14_method_50_code
def yX12_faults : MethodName := ⟨RX12, "faults", "(I)I"⟩
abbrev cX12_look : ByteArray := prog_14_method_51_code
def yX12_look : MethodName := ⟨RX12, "look", "(IIII)V"⟩
abbrev cX12_fault : ByteArray := prog_14_method_52_code
def yX12_fault : MethodName := ⟨RX12, "fault", "(II)I"⟩
abbrev cX12_nearest : ByteArray := prog_14_method_53_code
def yX12_nearest : MethodName := ⟨RX12, "nearest", "(IIII)I"⟩
abbrev cX12_mend : ByteArray := prog_14_method_54_code
def yX12_mend : MethodName := ⟨RX12, "mend", "(I)I"⟩
abbrev cX12_followed : ByteArray := prog_14_method_55_code
def yX12_followed : MethodName := ⟨RX12, "followed", "(IIIII)I"⟩
abbrev cX12_firstFault : ByteArray := prog_14_method_56_code
def yX12_firstFault : MethodName := ⟨RX12, "firstFault", "(IIIII)I"⟩
abbrev cX12_againstCanon : ByteArray := prog_14_method_57_code
def yX12_againstCanon : MethodName := ⟨RX12, "againstCanon", "(II)I"⟩
abbrev cX12_canon : ByteArray := prog_14_method_58_code
def yX12_canon : MethodName := ⟨RX12, "canon", "(IIIII)I"⟩
abbrev cX12_canons : ByteArray := prog_14_method_59_code
def yX12_canons : MethodName := ⟨RX12, "canons", "(IIII)I"⟩
abbrev cX12_follows : ByteArray := prog_14_method_60_code
def yX12_follows : MethodName := ⟨RX12, "follows", "(IIIII)I"⟩
abbrev cX12_at : ByteArray := prog_14_method_61_code
def yX12_at : MethodName := ⟨RX12, "at", "(III)I"⟩
abbrev cX12_isHeard : ByteArray := prog_14_method_62_code
def yX12_isHeard : MethodName := ⟨RX12, "isHeard", "(I)Z"⟩
abbrev cX12_nextHeard : ByteArray := prog_14_method_63_code
def yX12_nextHeard : MethodName := ⟨RX12, "nextHeard", "(I)I"⟩
abbrev cX12_isJoined : ByteArray := prog_14_method_64_code
def yX12_isJoined : MethodName := ⟨RX12, "isJoined", "(II)Z"⟩
abbrev cX12_laySetting : ByteArray := prog_14_method_65_code
def yX12_laySetting : MethodName := ⟨RX12, "laySetting", "()V"⟩
abbrev cX12_fits : ByteArray := prog_14_method_66_code
def yX12_fits : MethodName := ⟨RX12, "fits", "(III)Z"⟩
abbrev cX12_mustAnswer : ByteArray := prog_14_method_67_code
def yX12_mustAnswer : MethodName := ⟨RX12, "mustAnswer", "(I)Z"⟩
abbrev cX12_dueBehind : ByteArray := prog_14_method_68_code
def yX12_dueBehind : MethodName := ⟨RX12, "dueBehind", "(III)I"⟩
abbrev cX12_step : ByteArray := prog_14_method_69_code
def yX12_step : MethodName := ⟨RX12, "step", "(II)I"⟩
abbrev cX12_reckon : ByteArray := prog_14_method_70_code
def yX12_reckon : MethodName := ⟨RX12, "reckon", "(III)V"⟩
abbrev cX12_fit : ByteArray := prog_14_method_71_code
def yX12_fit : MethodName := ⟨RX12, "fit", "(I)V"⟩
abbrev cX12_work : ByteArray := prog_14_method_72_code
def yX12_work : MethodName := ⟨RX12, "work", "(I)V"⟩
abbrev cX12_reckonTune : ByteArray := prog_14_method_73_code
def yX12_reckonTune : MethodName := ⟨RX12, "reckonTune", "()V"⟩
abbrev cX12_finish : ByteArray := prog_14_method_74_code
def yX12_finish : MethodName := ⟨RX12, "finish", "()V"⟩
abbrev cX12_set : ByteArray := prog_14_method_75_code
def yX12_set : MethodName := ⟨RX12, "set", "(IIIZIII)I"⟩
abbrev cX12_goOn : ByteArray := prog_14_method_76_code
def yX12_goOn : MethodName := ⟨RX12, "goOn", "(I)I"⟩
abbrev cX12_goesOn : ByteArray := prog_14_method_77_code
def yX12_goesOn : MethodName := ⟨RX12, "goesOn", "(I)I"⟩
abbrev cX12_least : ByteArray := prog_14_method_78_code
def yX12_least : MethodName := ⟨RX12, "least", "()I"⟩
abbrev cX12_many : ByteArray := prog_14_method_79_code
def yX12_many : MethodName := ⟨RX12, "many", "()I"⟩
abbrev cX12_hasLeast : ByteArray := prog_14_method_80_code
def yX12_hasLeast : MethodName := ⟨RX12, "hasLeast", "(I)Z"⟩
abbrev cX12_row : ByteArray := prog_14_method_81_code
def yX12_row : MethodName := ⟨RX12, "row", "(III)I"⟩
abbrev cX12_spoil : ByteArray := prog_14_method_82_code
def yX12_spoil : MethodName := ⟨RX12, "spoil", "(IIII)I"⟩
abbrev cX12_check : ByteArray := prog_14_method_83_code
def yX12_check : MethodName := ⟨RX12, "check", "()I"⟩
abbrev cX12_say : ByteArray := prog_14_method_84_code
def yX12_say : MethodName := ⟨RX12, "say", "(I)V"⟩
abbrev cX12_print : ByteArray := prog_14_method_85_code
def yX12_print : MethodName := ⟨RX12, "print", "(I)I"⟩
abbrev cX12_charAt : ByteArray := prog_14_method_86_code
def yX12_charAt : MethodName := ⟨RX12, "charAt", "(I)I"⟩
abbrev cX12_wrongIn : ByteArray := prog_14_method_87_code
def yX12_wrongIn : MethodName := ⟨RX12, "wrongIn", "()I"⟩
abbrev cX12_read : ByteArray := prog_14_method_88_code
def yX12_read : MethodName := ⟨RX12, "read", "(I)I"⟩
abbrev cX12_put : ByteArray := prog_14_method_89_code
def yX12_put : MethodName := ⟨RX12, "put", "(II)I"⟩
abbrev cX12_cutLine : ByteArray := prog_14_method_90_code
def yX12_cutLine : MethodName := ⟨RX12, "cutLine", "(I)I"⟩
abbrev cX12_character : ByteArray := prog_14_method_91_code
def yX12_character : MethodName := ⟨RX12, "character", "(I)I"⟩
abbrev cX12_status : ByteArray := prog_14_method_92_code
def yX12_status : MethodName := ⟨RX12, "status", "()I"⟩
abbrev cX12_trace : ByteArray := prog_14_method_93_code
def yX12_trace : MethodName := ⟨RX12, "trace", "(I)I"⟩
abbrev cX12_count : ByteArray := prog_14_method_94_code
def yX12_count : MethodName := ⟨RX12, "count", "(I)I"⟩
def RJ9 : String := "java/lang/Math"
def TJ9 : u_T := fun k => match k with
  | _ => ("", "", "", false)
def tyJ9 : Nat → FieldType := fun k => match k with
  | _ => .int
abbrev wsJ90 : List Cond := u_ws RJ9 TJ9 0
theorem nmJ9 : ∀ a, a < 0 → ∀ b, b < 0 → a ≠ b → (TJ9 a).2.1 ≠ (TJ9 b).2.1 := by decide +kernel
theorem tyJ9_ok : ∀ k, k < 0 → parseFieldDescriptor (TJ9 k).2.2.1 = some (tyJ9 k) := by decide +kernel
abbrev cJ9_abs_0f7a4 : ByteArray := prog_15_method_59_code
def yJ9_abs_0f7a4 : MethodName := ⟨RJ9, "abs", "(I)I"⟩
abbrev cJ9_max_7cf53 : ByteArray := prog_15_method_65_code
def yJ9_max_7cf53 : MethodName := ⟨RJ9, "max", "(II)I"⟩
abbrev cJ9_min_7cf53 : ByteArray := prog_15_method_69_code
def yJ9_min_7cf53 : MethodName := ⟨RJ9, "min", "(II)I"⟩
def RJ10 : String := "java/lang/System"
def TJ10 : u_T := fun k => match k with
  | _ => ("", "", "", false)
def tyJ10 : Nat → FieldType := fun k => match k with
  | _ => .int
abbrev wsJ100 : List Cond := u_ws RJ10 TJ10 0
theorem nmJ10 : ∀ a, a < 0 → ∀ b, b < 0 → a ≠ b → (TJ10 a).2.1 ≠ (TJ10 b).2.1 := by decide +kernel
theorem tyJ10_ok : ∀ k, k < 0 → parseFieldDescriptor (TJ10 k).2.2.1 = some (tyJ10 k) := by decide +kernel
def RJ7 : String := "java/util/Arrays"
def TJ7 : u_T := fun k => match k with
  | _ => ("", "", "", false)
def tyJ7 : Nat → FieldType := fun k => match k with
  | _ => .int
abbrev wsJ70 : List Cond := u_ws RJ7 TJ7 0
theorem nmJ7 : ∀ a, a < 0 → ∀ b, b < 0 → a ≠ b → (TJ7 a).2.1 ≠ (TJ7 b).2.1 := by decide +kernel
theorem tyJ7_ok : ∀ k, k < 0 → parseFieldDescriptor (TJ7 k).2.2.1 = some (tyJ7 k) := by decide +kernel
abbrev cJ7_fill_53178 : ByteArray := prog_17_method_103_code
def yJ7_fill_53178 : MethodName := ⟨RJ7, "fill", "([II)V"⟩
def RL : String := "TuneSchoolLaw"
abbrev cL_law : ByteArray := code
def yL_law : MethodName := ⟨RL, "law", "([I)Z"⟩
end
section
/-! the tables' good words, one list for every method -/
def gtb : List Cond := lw_tbl.filter goodWord
theorem gtb_of {w : Cond} (h : w ∈ lw_tbl) (hg : goodWord w = true) : w ∈ gtb := List.mem_filter.mpr ⟨h, hg⟩
theorem gtb_tbl {w : Cond} (h : w ∈ gtb) : w ∈ lw_tbl := (List.mem_filter.mp h).1
theorem gtb_good {w : Cond} (h : w ∈ gtb) : (w.onTables && w.keeps) = true ∨ ∃ ty, w = .arrayClass ty := good_of_word (List.mem_filter.mp h).2
theorem mgs {w : Cond} {i : Nat} (h : (k2_sels lw_privs)[i]? = some w) (hg : goodWord w = true) : w ∈ gtb := gtb_of (List.mem_append_left _ (List.mem_of_getElem? h)) hg
theorem mt1 {w : Cond} {i : Nat} (h : tables_1_1[i]? = some w) : w ∈ lw_tbl := List.mem_append_right _ (show w ∈ tables_1 from List.mem_append_left _ (List.mem_of_getElem? h))
theorem mt2 {w : Cond} {i : Nat} (h : tables_1_2[i]? = some w) : w ∈ lw_tbl := List.mem_append_right _ (show w ∈ tables_1 from List.mem_append_right _ (List.mem_append_left _ (List.mem_of_getElem? h)))
theorem mt3 {w : Cond} {i : Nat} (h : tables_1_3[i]? = some w) : w ∈ lw_tbl := List.mem_append_right _ (show w ∈ tables_1 from List.mem_append_right _ (List.mem_append_right _ (List.mem_append_left _ (List.mem_of_getElem? h))))
theorem mt4 {w : Cond} {i : Nat} (h : tables_1_4[i]? = some w) : w ∈ lw_tbl := List.mem_append_right _ (show w ∈ tables_1 from List.mem_append_right _ (List.mem_append_right _ (List.mem_append_right _ (List.mem_append_left _ (List.mem_of_getElem? h)))))
theorem mt5 {w : Cond} {i : Nat} (h : tables_1_5[i]? = some w) : w ∈ lw_tbl := List.mem_append_right _ (show w ∈ tables_1 from List.mem_append_right _ (List.mem_append_right _ (List.mem_append_right _ (List.mem_append_right _ (List.mem_append_left _ (List.mem_of_getElem? h))))))
theorem mt6 {w : Cond} {i : Nat} (h : tables_1_6[i]? = some w) : w ∈ lw_tbl := List.mem_append_right _ (show w ∈ tables_1 from List.mem_append_right _ (List.mem_append_right _ (List.mem_append_right _ (List.mem_append_right _ (List.mem_append_right _ (List.mem_append_left _ (List.mem_of_getElem? h)))))))
theorem mt7 {w : Cond} {i : Nat} (h : tables_1_7[i]? = some w) : w ∈ lw_tbl := List.mem_append_right _ (show w ∈ tables_1 from List.mem_append_right _ (List.mem_append_right _ (List.mem_append_right _ (List.mem_append_right _ (List.mem_append_right _ (List.mem_append_right _ (List.mem_of_getElem? h)))))))
theorem q_try1 : Cond.initialized "TuneSchool" ∈ gtb := gtb_of (mt1 (i := 1) rfl) rfl
theorem q_try2 : Cond.selects "TuneSchool" yX11_finding yX11_finding ∈ gtb := mgs (i := 0) rfl rfl
theorem gd_c {c : Cond} (h : c ∈ gtb) : GoodIn gtb (c :: gtb) := fun w hw => (List.mem_cons.mp hw).elim (fun e => by rw [e]; exact ⟨h, gtb_good h⟩) (fun hw => ⟨hw, gtb_good hw⟩)
theorem gd_V {own C : String} {y : MethodName} {idx : Nat} {c : Cond} (h1 : Cond.methodLink own idx y ∈ gtb) (h2 : Cond.instanceMethod y ∈ gtb) (h3 : Cond.selects C y y ∈ gtb) (h4 : Cond.initialized C ∈ gtb) (h5 : c ∈ gtb) : GoodIn gtb (wsV own idx C y (c :: gtb)) := by
  intro w hw
  have : w ∈ gtb := by
    simp only [wsV, List.mem_append, List.mem_cons, List.not_mem_nil, or_false] at hw
    rcases hw with (rfl | rfl | rfl | rfl) | rfl | h <;> assumption
  exact ⟨this, gtb_good this⟩
theorem gd_S {own : String} {y : MethodName} {idx : Nat} {c : Cond} (h1 : Cond.methodLink own idx y ∈ gtb) (h2 : Cond.static y ∈ gtb) (h4 : Cond.initialized y.cls ∈ gtb) (h5 : c ∈ gtb) : GoodIn gtb (va_wsS own idx y (c :: gtb)) := by
  intro w hw
  have : w ∈ gtb := by
    simp only [va_wsS, List.mem_append, List.mem_cons, List.not_mem_nil, or_false] at hw
    rcases hw with (rfl | rfl | rfl) | rfl | h <;> assumption
  exact ⟨this, gtb_good this⟩
/-! the words that no method's list may hold, by themselves; the array classes -/
def nwW : List Cond := [.methodLinkNest "TuneSchool" 15 yX10_init "TuneSchool", .methodLinkNest "TuneSchool" 34 yX5_init "TuneSchool", .methodLinkNest "TuneSchool$Desk" 27 yX10_init "TuneSchool", .methodLinkNest "TuneSchool" 50 yX4_init "TuneSchool", .methodLinkNest "TuneSchool" 331 yX6_init "TuneSchool", .methodLinkNest "TuneSchool$Motion" 3 yX2_init "TuneSchool", .methodLinkNest "TuneSchool$Interval" 3 yX7_init "TuneSchool", .methodLinkNest "TuneSchool$Rule" 3 yX9_init "TuneSchool", .methodLinkNest "TuneSchool" 334 yX3_init "TuneSchool", .methodLinkNest "TuneSchool$Leap" 3 yX7_init "TuneSchool", .methodLinkNest "TuneSchool" 337 yX0_init "TuneSchool", .methodLinkNest "TuneSchool$Cadence" 3 yX6_init "TuneSchool", .methodLinkNest "TuneSchool" 340 yX2_init "TuneSchool", .methodLinkNest "TuneSchool$School" 1 yX9_init "TuneSchool", .castable "TuneSchool$Cadence" "TuneSchool$Standing", .castable "TuneSchool$Interval" "TuneSchool$Standing", .castable "TuneSchool$Leap" "TuneSchool$Standing", .castable "TuneSchool$Motion" "TuneSchool$Standing", .castable "TuneSchool$School" "TuneSchool$Standing"]
def nwOk : Cond → Bool
  | .methodLinkNest _ _ _ _ => true
  | .castable _ _ => true
  | _ => false
theorem nwW_ok : ∀ w ∈ nwW, nwOk w = true := by
  intro w hw
  simp only [nwW, List.mem_cons, List.not_mem_nil, or_false] at hw
  rcases hw with rfl | rfl | rfl | rfl | rfl | rfl | rfl | rfl | rfl | rfl | rfl | rfl | rfl | rfl | rfl | rfl | rfl | rfl | rfl <;> rfl
theorem nw_warm1 {w : Cond} (hw : nwOk w = true) {s U : State} (hW : s.WarmedH U.vm) (h : va_Nw w s) : va_Nw w U := by
  cases w <;> first | (simp [nwOk] at hw; done) | exact va_Nw.warmM hW h | exact va_Nw.warmC hW h
theorem nw_same1 {w : Cond} (hw : nwOk w = true) {s U : State} (hW : s.vm = U.vm) (h : va_Nw w s) : va_Nw w U := by
  cases w <;> first | (simp [nwOk] at hw; done) | exact va_Nw.same rfl hW h
def a2 (k : Nat → ClassId) (U : State) : Prop := ∃ kA : Class, U.vm.classes[k 6]? = some kA ∧ kA.kind = .array (k 0) (.array .int)
theorem a2.moved {k : Nat → ClassId} {u U : State} (hvm : u.vm.Alike U.vm) (h : a2 k u) : a2 k U := by
  obtain ⟨kA, h1, h2⟩ := h
  obtain ⟨k', hk', he⟩ := hvm.2.2 _ _ h1
  exact ⟨k', hk', by rw [he]; exact h2⟩
def nw (k : Nat → ClassId) (U : State) : Prop := (∀ w ∈ nwW, va_Nw w U) ∧ va_AO "TuneSchool$Voice" U ∧ va_AO "TuneSchool$Standing" U ∧ va_AO "TuneSchool$Rule" U ∧ a2 k U
theorem nw.warm {k : Nat → ClassId} {s U : State} (hW : s.WarmedH U.vm) (h : nw k s) : nw k U := ⟨fun w hw => nw_warm1 (nwW_ok w hw) hW (h.1 w hw), h.2.1.moved hW.alike, h.2.2.1.moved hW.alike, h.2.2.2.1.moved hW.alike, h.2.2.2.2.moved hW.alike⟩
theorem nw.same {k : Nat → ClassId} {s U : State} (hW : s.vm = U.vm) (h : nw k s) : nw k U := by
  have ha : s.vm.Alike U.vm := hW ▸ Vm.Alike.refl s.vm
  exact ⟨fun w hw => nw_same1 (nwW_ok w hw) hW (h.1 w hw), h.2.1.moved ha, h.2.2.1.moved ha, h.2.2.2.1.moved ha, h.2.2.2.2.moved ha⟩
abbrev clsL : List vw_C := [("TuneSchool$Cadence", TX0, 1), ("TuneSchool$Desk", TX1, 17), ("TuneSchool$Interval", TX2, 1), ("TuneSchool$Leap", TX3, 1), ("TuneSchool$Line", TX4, 3), ("TuneSchool$Moment", TX5, 11), ("TuneSchool$Motion", TX6, 1), ("TuneSchool$School", TX8, 2), ("TuneSchool$Voice", TX10, 5), ("TuneSchool", TX11, 17), ("TuneSchoolModel", TX12, 71)]
abbrev tyL (k : Nat → ClassId) : List (ClassId × FieldType) := [(k 0, .int), (k 1, .boolean), (k 2, .long), (k 3, .object "TuneSchool$Voice"), (k 4, .object "TuneSchool$Standing"), (k 5, .object "TuneSchool$Rule"), (k 6, .array .int)]
/-- what a method's start says -/
def PX (D : va_G) (k : Nat → ClassId) (wc : va_W) (sz : Nat) (av : List Value) : Array Value → State → Prop := va_Pc av (fun U => U.heap.size = sz ∧ va_P D clsL wc U.heap ∧ va_K D clsL (tyL k) U ∧ va_D (fun _ => True) wc ∧ nw k U)
theorem PX.blind {D : va_G} {k : Nat → ClassId} {wc : va_W} {sz : Nat} {av : List Value} : FrameBlind (PX D k wc sz av) := by
  intro a U g mk q
  obtain ⟨q0, q1, qP, qK, qD, qN⟩ := q
  exact ⟨q0, q1, qP, va_K.moved (u := U) (U := U.calling g mk a) (Vm.Alike.refl U.vm) qK, qD, nw.same (s := U) (U := U.calling g mk a) rfl qN⟩
theorem preS {D : va_G} {k : Nat → ClassId} {s : State} {H : Heap} {wc : va_W} {As : List Value} {A : Nat → Prop} (hK : va_K D clsL (tyL k) s) (hN : nw k s) (hP : va_P D clsL wc H) (hD : va_D A wc) : PreS s H (PX D k wc H.size As) As :=
  ⟨PX.blind, fun U hU hW => ⟨rfl, by rw [hU], by rw [hU]; exact hP, va_K.moved hW.alike hK, hD.weaken (fun _ _ _ _ => trivial), hN.warm hW⟩⟩
theorem preV {D : va_G} {k : Nat → ClassId} {s : State} {H : Heap} {wc : va_W} {b : Addr} {As : List Value} {A : Nat → Prop} (ci q0 : Nat) {C : String} {T : u_T} {N : Nat} {fs : List Value} (hK : va_K D clsL (tyL k) s) (hN : nw k s) (hP : va_P D clsL wc H) (hD : va_D A wc) (hc : clsL[ci]? = some (C, T, N)) (he : wc[q0]? = some (b, .inr (ci, fs))) : PreV s H C b (PX D k wc H.size (.ref b :: As)) As :=
  ⟨PX.blind, va_recv hK hP hc he, fun U hU hW => ⟨rfl, by rw [hU], by rw [hU]; exact hP, va_K.moved hW.alike hK, hD.weaken (fun _ _ _ _ => trivial), hN.warm hW⟩⟩
/-- the world behind a method -/
def WX (D : va_G) (A : Nat → Prop) (wc : va_W) (t : State) : Prop := va_P D clsL wc t.heap ∧ va_D A wc
end
section
theorem nilP {D : va_G} {H : Heap} : va_P D clsL [] H := fun k q h => by simp at h
theorem nilD {A : Nat → Prop} : va_D A [] := ⟨fun i j p q h => by simp at h, fun k q h => by simp at h⟩
/-- what a method's body may count on -/
def BX (p : Program) (s : State) (m : MethodId) (meth : Method) (c : Code) (D : va_G) (k : Nat → ClassId) (y : MethodName) (cc : ByteArray) (nL : Nat) (ret : Option FieldType) (args : Array Value) (wc : va_W) (A : Nat → Prop) : Prop :=
  p.tables.exec = Jvm.exec ∧ c.code = cc ∧ c.maxLocals = nL ∧ meth.sig.returnType = ret ∧ meth.locks = false ∧ meth.name = y.name ∧ s.vm.findClass y.cls = some m.cls ∧ (∀ w ∈ gtb, w.before args s = true) ∧ va_K D clsL (tyL k) s ∧ nw k s ∧ (∀ q : Nat, s.heap.size ≤ q → A q) ∧ va_P D clsL wc s.heap ∧ va_D A wc ∧ va_S A s.heap s.heap []
theorem mtX {l : Launch} {y : MethodName} {D : va_G} {k : Nat → ClassId} {wc : va_W} {sz : Nat} {av : List Value} {rm : Room} {mc ms : Nat} {cc : ByteArray} {maxL : Nat} {ret : Option FieldType} (Qc : (Nat → Prop) → Array Value → State → Outcome → State → Prop) (free : (Nat → Prop) → Addr → Prop)
    (hy : plainName y.cls = true) (hlen : (lg_sl av).length ≤ maxL)
    (body : ∀ (p : Program) (e : Env) (s : State) (m : MethodId) (below : List Frame) (meth : Method) (c : Code) (ls : Array Slot) (A : Nat → Prop), BX p s m meth c D k y cc maxL ret av.toArray wc A → lv_has ls maxL (lv_args 0 av) → W p l e rm s m av.toArray below meth c s.heap [] 0 0 (MQ below (Qc A) av.toArray s mc ms (free A)) (F0 m 0 ls [])) :
    Met l y (.code y cc maxL ret :: gtb) rm (PX D k wc sz av) (Qc (va_A wc sz)) mc ms (free (va_A wc sz)) := by
  refine Met.ofW (cc := cc) (maxL := maxL) (ret := ret) hy rfl ?_
  intro p e s m args below meth c s₁ B hml hv
  obtain ⟨rfl, hsz, hP, hK, hD0, hN⟩ := hv
  have hts := atoms_spec (ws := Cond.code y cc maxL ret :: gtb) B.pre
  subst hsz
  have hl := lv_entry av (n := maxL) hlen
  rw [lg_entry_eq]
  exact body p e s m below meth c _ _ ⟨B.exec, B.bytes, hml, B.returns, B.notSynchronized, (name_of_methodNamed B.named B.method).1, findClass_of_methodNamed B.named, fun w h => hts w (List.mem_cons_of_mem _ h), hK, hN, fun q h => Or.inr h, hP, hD0.self (sz := s.heap.size), va_S.rf⟩ hl
/-- contracts: an int, or nothing, and a world behind; a pure one -/
def CI (l : Launch) (y : MethodName) (cc : ByteArray) (nL : Nat) (ret : Option FieldType) (fr lo mc ms : Nat) (D : va_G) (k : Nat → ClassId) (wc : va_W) (av : List Value) {S : Type} (post : Int32 → S → Prop) (w1 : S → va_W) : Prop :=
  ∀ sz : Nat, Met l y (.code y cc nL ret :: gtb) { frames := fr, cells := mc, slots := ms, locals := lo } (PX D k wc sz av) (va_Qi post (fun u t => WX D (va_A wc sz) (w1 u) t) (va_A wc sz)) mc ms (va_A wc sz)
def CV (l : Launch) (y : MethodName) (cc : ByteArray) (nL : Nat) (fr lo mc ms : Nat) (D : va_G) (k : Nat → ClassId) (wc : va_W) (av : List Value) {S : Type} (post : S → Prop) (w1 : S → va_W) : Prop :=
  ∀ sz : Nat, Met l y (.code y cc nL none :: gtb) { frames := fr, cells := mc, slots := ms, locals := lo } (PX D k wc sz av) (va_Qv post (fun u t => WX D (va_A wc sz) (w1 u) t) (va_A wc sz)) mc ms (va_A wc sz)
def CR (l : Launch) (y : MethodName) (cc : ByteArray) (nL : Nat) (ret : Option FieldType) (fr lo mc ms : Nat) (D : va_G) (k : Nat → ClassId) (wc : va_W) (av : List Value) {S : Type} (post : S → Prop) (w1 : S → Nat → va_W) : Prop :=
  ∀ sz : Nat, Met l y (.code y cc nL ret :: gtb) { frames := fr, cells := mc, slots := ms, locals := lo } (PX D k wc sz av) (va_Qr post (fun u a t => WX D (va_A wc sz) (w1 u a) t) (va_A wc sz)) mc ms (va_A wc sz)
def CP (l : Launch) (y : MethodName) (cc : ByteArray) (nL : Nat) (ret : Option FieldType) (fr lo : Nat) (D : va_G) (k : Nat → ClassId) (wc : va_W) (av : List Value) (post : Int32 → Prop) : Prop :=
  ∀ sz : Nat, Met l y (.code y cc nL ret :: gtb) { frames := fr, cells := 0, slots := 0, locals := lo } (PX D k wc sz av) (vp_Si post) 0 0 (fun _ => False)
abbrev mdOk (y : MethodName) (n : Nat) : Prop := y.cls ≠ "java/lang/invoke/MethodHandle" ∧ y.cls ≠ "java/lang/invoke/VarHandle" ∧ (parseMethodDescriptor y.desc).map (fun d => d.parameters.length) = some n
section CALLS
variable {p : Program} {l : Launch} {e : Env} {R : Room} {s : State} {m : MethodId} {args : Array Value} {below : List Frame} {meth : Method} {c : Code} {H : Heap} {locs : List Loc} {cells slots : Nat} {Q : State → Prop}
variable {D : va_G} {k : Nat → ClassId} {A A' : Nat → Prop} {ws wc wr : va_W} {H0 : Heap} {y : MethodName} {bytes cc : ByteArray} {maxL nL mc ms n index fr lo pc : Nat} {ret : Option FieldType} {own C : String} {b : Addr} {As rest st0 : List Value} {ls : Array Slot}
theorem afterI {S : Type} {post : Int32 → S → Prop} {w1 : S → va_W} {a : Array Value} (hr : va_Run p l e R s m args below meth c H locs cells slots mc ms (F0 m pc ls st0) rest (va_Qi post (fun u t => WX D (va_A wc H.size) (w1 u) t) (va_A wc H.size) a) (va_A wc H.size))
    (hP : va_P D clsL ws H) (hD : va_D A ws) (hS : va_S A H0 H locs) (hA : ∀ q, H0.size ≤ q → A q) (isC isR : List Nat) (hC : isC.map (fun i => ws[i]?) = wc.map some) (hR : isR.map (fun i => ws[i]?) = wr.map some) (hn : va_nd isR = true) (hdis : ∀ i ∈ isR, i ∉ isC)
    (kk : ∀ (r : Int32) (u : S) (H1 : Heap) (locs1 : List Loc), post r u → va_P D clsL (wr ++ w1 u) H1 → va_D A (wr ++ w1 u) → va_S A H0 H1 locs1 → W p l e R s m args below meth c H1 locs1 (cells + mc) (slots + ms) Q (F0 m (pc + 3) ls (.int r :: rest))) : W p l e R s m args below meth c H locs cells slots Q (F0 m pc ls st0) := by
  have hF := va_free hD hS hA isC hC
  refine va_calli hr hS (fun q _ h => hF q h) hF (fun r u t H1 locs1 ht hvm hw hB hz1 hk1 hS1 => ?_)
  obtain ⟨hP1, hD1⟩ := hB
  rw [ht] at hP1
  obtain ⟨hP2, hD2⟩ := va_join hP hD isC isR hC hR hn hdis hk1 hF hP1 hD1
  exact kk r u H1 locs1 hw hP2 hD2 hS1
theorem afterV {S : Type} {post : S → Prop} {w1 : S → va_W} {a : Array Value} (hr : va_Run p l e R s m args below meth c H locs cells slots mc ms (F0 m pc ls st0) rest (va_Qv post (fun u t => WX D (va_A wc H.size) (w1 u) t) (va_A wc H.size) a) (va_A wc H.size))
    (hP : va_P D clsL ws H) (hD : va_D A ws) (hS : va_S A H0 H locs) (hA : ∀ q, H0.size ≤ q → A q) (isC isR : List Nat) (hC : isC.map (fun i => ws[i]?) = wc.map some) (hR : isR.map (fun i => ws[i]?) = wr.map some) (hn : va_nd isR = true) (hdis : ∀ i ∈ isR, i ∉ isC)
    (kk : ∀ (u : S) (H1 : Heap) (locs1 : List Loc), post u → va_P D clsL (wr ++ w1 u) H1 → va_D A (wr ++ w1 u) → va_S A H0 H1 locs1 → W p l e R s m args below meth c H1 locs1 (cells + mc) (slots + ms) Q (F0 m (pc + 3) ls rest)) : W p l e R s m args below meth c H locs cells slots Q (F0 m pc ls st0) := by
  have hF := va_free hD hS hA isC hC
  refine va_callv hr hS (fun q _ h => hF q h) hF (fun u t H1 locs1 ht hvm hw hB hz1 hk1 hS1 => ?_)
  obtain ⟨hP1, hD1⟩ := hB
  rw [ht] at hP1
  obtain ⟨hP2, hD2⟩ := va_join hP hD isC isR hC hR hn hdis hk1 hF hP1 hD1
  exact kk u H1 locs1 hw hP2 hD2 hS1
theorem afterR {S : Type} {post : S → Prop} {w1 : S → Nat → va_W} {a : Array Value} (hr : va_Run p l e R s m args below meth c H locs cells slots mc ms (F0 m pc ls st0) rest (va_Qr post (fun u x t => WX D (va_A wc H.size) (w1 u x) t) (va_A wc H.size) a) (va_A wc H.size))
    (hP : va_P D clsL ws H) (hD : va_D A ws) (hS : va_S A H0 H locs) (hA : ∀ q, H0.size ≤ q → A q) (isC isR : List Nat) (hC : isC.map (fun i => ws[i]?) = wc.map some) (hR : isR.map (fun i => ws[i]?) = wr.map some) (hn : va_nd isR = true) (hdis : ∀ i ∈ isR, i ∉ isC)
    (kk : ∀ (u : S) (ra : Nat) (H1 : Heap) (locs1 : List Loc), post u → va_P D clsL (wr ++ w1 u ra) H1 → va_D A (wr ++ w1 u ra) → va_S A H0 H1 locs1 → W p l e R s m args below meth c H1 locs1 (cells + mc) (slots + ms) Q (F0 m (pc + 3) ls (.ref ra :: rest))) : W p l e R s m args below meth c H locs cells slots Q (F0 m pc ls st0) := by
  have hF := va_free hD hS hA isC hC
  refine va_callr hr hS (fun q _ h => hF q h) hF (fun u ra t H1 locs1 ht hvm hw hB hz1 hk1 hS1 => ?_)
  obtain ⟨hP1, hD1⟩ := hB
  rw [ht] at hP1
  obtain ⟨hP2, hD2⟩ := va_join hP hD isC isR hC hR hn hdis hk1 hF hP1 hD1
  exact kk u ra H1 locs1 hw hP2 hD2 hS1
/-- the five kinds of call -/
theorem xV {Qc : Array Value → State → Outcome → State → Prop} {free : Addr → Prop} (S : CallFix p m c cc nL s args gtb own) (hM : Met l y (.code y bytes maxL ret :: gtb) { frames := fr, cells := mc, slots := ms, locals := lo } (PX D k wc H.size (.ref b :: As)) Qc mc ms free)
    (hK : va_K D clsL (tyL k) s) (hN : nw k s) (hP : va_P D clsL wc H) (hD : va_D A' wc) (ci q0 : Nat) {T : u_T} {N : Nat} {fs : List Value} (hc : clsL[ci]? = some (C, T, N)) (he : wc[q0]? = some (b, .inr (ci, fs))) (hC : y.cls = C)
    (h1 : Cond.methodLink own index y ∈ gtb) (h2 : Cond.instanceMethod y ∈ gtb) (h3 : Cond.selects C y y ∈ gtb) (h4 : Cond.initialized C ∈ gtb) (h5 : Cond.code y bytes maxL ret ∈ gtb) (hd : mdOk y n)
    (hR : fr + 1 ≤ R.frames ∧ 8 + (maxL + 11) + lo ≤ R.locals) (hn : As.length = n) (hsize : ls.size = nL) (hstack : st0 = As.reverse ++ .ref b :: rest) (hW : (rest.map fun v => v.category).sum ≤ 8) (hdg : decode cc pc = .ok (.invokevirtual index, 3)) (hf : cells + mc ≤ R.cells ∧ slots + ms ≤ R.slots) :
    va_Run p l e R s m args below meth c H locs cells slots mc ms (F0 m pc ls st0) rest (Qc (Value.ref b :: As).toArray) free :=
  va_runV (As := As) (rest := rest) (C := C) (b := b) S hM (cwV n S.2.2.2.2 (gd_V h1 h2 h3 h4 h5) rfl rfl rfl ⟨hC, hd⟩ hR) (preV ci q0 hK hN hP hD hc he) rfl hn hsize hstack (lv_room hW) hdg hf
theorem xS {Qc : Array Value → State → Outcome → State → Prop} {free : Addr → Prop} (S : CallFix p m c cc nL s args gtb own) (hM : Met l y (.code y bytes maxL ret :: gtb) { frames := fr, cells := mc, slots := ms, locals := lo } (PX D k wc H.size As) Qc mc ms free)
    (hK : va_K D clsL (tyL k) s) (hN : nw k s) (hP : va_P D clsL wc H) (hD : va_D A' wc)
    (h1 : Cond.methodLink own index y ∈ gtb) (h2 : Cond.static y ∈ gtb) (h4 : Cond.initialized y.cls ∈ gtb) (h5 : Cond.code y bytes maxL ret ∈ gtb) (hd : mdOk y n)
    (hR : fr + 1 ≤ R.frames ∧ 8 + (maxL + 11) + lo ≤ R.locals) (hn : As.length = n) (hsize : ls.size = nL) (hstack : st0 = As.reverse ++ rest) (hW : (rest.map fun v => v.category).sum ≤ 8) (hdg : decode cc pc = .ok (.invokestatic index, 3)) (hf : cells + mc ≤ R.cells ∧ slots + ms ≤ R.slots) :
    va_Run p l e R s m args below meth c H locs cells slots mc ms (F0 m pc ls st0) rest (Qc As.toArray) free :=
  va_runS (As := As) (rest := rest) S hM (va_cwS n S.2.2.2.2 (gd_S h1 h2 h4 h5) rfl rfl rfl hd hR) (preS hK hN hP hD) rfl hn hsize hstack (lv_room hW) hdg hf
theorem xI {Qc : Array Value → State → Outcome → State → Prop} {free : Addr → Prop} (S : CallFix p m c cc nL s args gtb own) (hM : Met l y (.code y bytes maxL none :: gtb) { frames := fr, cells := mc, slots := ms, locals := lo } (PX D k wc H.size (.ref b :: As)) Qc mc ms free)
    (hK : va_K D clsL (tyL k) s) (hN : nw k s) (hP : va_P D clsL wc H) (hD : va_D A' wc) (hy : y.name = "<init>")
    (h1 : Cond.methodLink own index y ∈ gtb) (h2 : Cond.instanceMethod y ∈ gtb) (h4 : Cond.initialized y.cls ∈ gtb) (h5 : Cond.code y bytes maxL none ∈ gtb) (hd : mdOk y n)
    (hR : fr + 1 ≤ R.frames ∧ 8 + (maxL + 11) + lo ≤ R.locals) (hn : As.length = n) (hsize : ls.size = nL) (hstack : st0 = As.reverse ++ .ref b :: rest) (hW : (rest.map fun v => v.category).sum ≤ 8) (hdg : decode cc pc = .ok (.invokespecial index, 3)) (hf : cells + mc ≤ R.cells ∧ slots + ms ≤ R.slots) :
    va_Run p l e R s m args below meth c H locs cells slots mc ms (F0 m pc ls st0) rest (Qc (Value.ref b :: As).toArray) free :=
  va_runI (As := As) (rest := rest) (b := b) S hM (cwI n S.2.2.2.2 (gd_c h5) rfl rfl rfl (S.2.2.2.2 _ h4) (S.2.2.2.2 _ h1) (S.2.2.2.2 _ h2) hy hd hR) (preS hK hN hP hD) rfl hn hsize hstack (lv_room hW) hdg hf
theorem xN {Qc : Array Value → State → Outcome → State → Prop} {free : Addr → Prop} {host : String} (S : CallFix p m c cc nL s args gtb own) (hM : Met l y (.code y bytes maxL none :: gtb) { frames := fr, cells := mc, slots := ms, locals := lo } (PX D k wc H.size (.ref b :: As)) Qc mc ms free)
    (hK : va_K D clsL (tyL k) s) (hN : nw k s) (hP : va_P D clsL wc H) (hD : va_D A' wc) (hy : y.name = "<init>")
    (h1 : Cond.methodLinkNest own index y host ∈ nwW) (h2 : Cond.instanceMethod y ∈ gtb) (h4 : Cond.initialized y.cls ∈ gtb) (h5 : Cond.code y bytes maxL none ∈ gtb) (hd : mdOk y n)
    (hR : fr + 1 ≤ R.frames ∧ 8 + (maxL + 11) + lo ≤ R.locals) (hn : As.length = n) (hsize : ls.size = nL) (hstack : st0 = As.reverse ++ .ref b :: rest) (hW : (rest.map fun v => v.category).sum ≤ 8) (hdg : decode cc pc = .ok (.invokespecial index, 3)) (hf : cells + mc ≤ R.cells ∧ slots + ms ≤ R.slots) :
    va_Run p l e R s m args below meth c H locs cells slots mc ms (F0 m pc ls st0) rest (Qc (Value.ref b :: As).toArray) free :=
  va_runIN (As := As) (rest := rest) (b := b) S hM ⟨va_cnB n S.2.2.2.2 (gd_c h5) rfl rfl rfl (hN.1 _ h1) (S.2.2.2.2 _ h4) hd hR, hy, S.2.2.2.2 _ h2⟩ (preS hK hN hP hD) rfl hn hsize hstack (lv_room hW) hdg hf
theorem afterP {post : Int32 → Prop} {a : Array Value} (hr : va_Run p l e R s m args below meth c H locs cells slots 0 0 (F0 m pc ls st0) rest (vp_Si post a) (fun _ => False))
    (kk : ∀ r : Int32, post r → W p l e R s m args below meth c H locs cells slots Q (F0 m (pc + 3) ls (.int r :: rest))) : W p l e R s m args below meth c H locs cells slots Q (F0 m pc ls st0) := vp_callSi hr.run kk
end CALLS
section ARR
variable {p : Program} {l : Launch} {e : Env} {R : Room} {s : State} {m : MethodId} {args : Array Value} {below : List Frame} {meth : Method} {c : Code} {H : Heap} {locs : List Loc} {cells slots : Nat} {Q : State → Prop}
variable {D : va_G} {k : Nat → ClassId} {A : Nat → Prop} {ws : va_W} {H0 : Heap} {cc : ByteArray} {pc : Nat} {rest : List Value} {ls : Array Slot} {a : Nat}
theorem newI (hx : p.tables.exec = Jvm.exec) (hb : c.code = cc) (harr : (Cond.arrayClass .int).before args s = true) (hK : va_K D clsL (tyL k) s) (hP : va_P D clsL ws H) (hD : va_D A ws) (hS : va_S A H0 H locs) (hA : ∀ q, H0.size ≤ q → A q)
    {n : Int32} {N' : Nat} (hn : ¬ n < 0) (hN : n.toNatClampNeg = N') (hbytes : N' * 4 ≤ 536870912) (hcells : cells + 1 ≤ R.cells) (hslots : slots + N' ≤ R.slots) (hdg : decode cc pc = .ok (.newarray .int, 2))
    (kk : ∀ (q : Nat) (H1 : Heap), va_P D clsL (ws ++ [(q, .inl (k 0, N', .inl (fun _ => 0)))]) H1 → va_D A (ws ++ [(q, .inl (k 0, N', .inl (fun _ => 0)))]) → va_S A H0 H1 locs →
      W p l e R s m args below meth c H1 locs (cells + 1) (slots + N') Q (F0 m (pc + 2) ls (.ref q :: rest))) : W p l e R s m args below meth c H locs cells slots Q (F0 m pc ls (.int n :: rest)) := by
  refine va_newa (atype := .int) (ty := .int) (a0 := (N', .inl (fun _ => 0))) hx hb harr rfl hK hP hD hS hA (fun _ => rfl) hn hN hbytes hcells hslots hdg (fun q cA H1 hK1 hP1 hD1 hS1 => ?_)
  have e1 : some cA = some (k 0) := ((hK1.2 7 (cA, .int) rfl).2 : s.vm.findClass _ = _).symm.trans (hK.2 0 (k 0, .int) rfl).2
  cases e1
  exact kk q H1 hP1 hD1 hS1
theorem newZ (hx : p.tables.exec = Jvm.exec) (hb : c.code = cc) (harr : (Cond.arrayClass .boolean).before args s = true) (hK : va_K D clsL (tyL k) s) (hP : va_P D clsL ws H) (hD : va_D A ws) (hS : va_S A H0 H locs) (hA : ∀ q, H0.size ≤ q → A q)
    {n : Int32} {N' : Nat} (hn : ¬ n < 0) (hN : n.toNatClampNeg = N') (hbytes : N' * 1 ≤ 536870912) (hcells : cells + 1 ≤ R.cells) (hslots : slots + N' ≤ R.slots) (hdg : decode cc pc = .ok (.newarray .boolean, 2))
    (kk : ∀ (q : Nat) (H1 : Heap), va_P D clsL (ws ++ [(q, .inl (k 1, N', .inl (fun _ => 0)))]) H1 → va_D A (ws ++ [(q, .inl (k 1, N', .inl (fun _ => 0)))]) → va_S A H0 H1 locs →
      W p l e R s m args below meth c H1 locs (cells + 1) (slots + N') Q (F0 m (pc + 2) ls (.ref q :: rest))) : W p l e R s m args below meth c H locs cells slots Q (F0 m pc ls (.int n :: rest)) := by
  refine va_newa (atype := .boolean) (ty := .boolean) (a0 := (N', .inl (fun _ => 0))) hx hb harr rfl hK hP hD hS hA (fun _ => rfl) hn hN hbytes hcells hslots hdg (fun q cA H1 hK1 hP1 hD1 hS1 => ?_)
  have e1 : some cA = some (k 1) := ((hK1.2 7 (cA, .boolean) rfl).2 : s.vm.findClass _ = _).symm.trans (hK.2 1 (k 1, .boolean) rfl).2
  cases e1
  exact kk q H1 hP1 hD1 hS1
theorem newJ (hx : p.tables.exec = Jvm.exec) (hb : c.code = cc) (harr : (Cond.arrayClass .long).before args s = true) (hK : va_K D clsL (tyL k) s) (hP : va_P D clsL ws H) (hD : va_D A ws) (hS : va_S A H0 H locs) (hA : ∀ q, H0.size ≤ q → A q)
    {n : Int32} {N' : Nat} (hn : ¬ n < 0) (hN : n.toNatClampNeg = N') (hbytes : N' * 8 ≤ 536870912) (hcells : cells + 1 ≤ R.cells) (hslots : slots + N' ≤ R.slots) (hdg : decode cc pc = .ok (.newarray .long, 2))
    (kk : ∀ (q : Nat) (H1 : Heap), va_P D clsL (ws ++ [(q, .inl (k 2, N', .inr (.inl (fun _ => 0))))]) H1 → va_D A (ws ++ [(q, .inl (k 2, N', .inr (.inl (fun _ => 0))))]) → va_S A H0 H1 locs →
      W p l e R s m args below meth c H1 locs (cells + 1) (slots + N') Q (F0 m (pc + 2) ls (.ref q :: rest))) : W p l e R s m args below meth c H locs cells slots Q (F0 m pc ls (.int n :: rest)) := by
  refine va_newa (atype := .long) (ty := .long) (a0 := (N', .inr (.inl (fun _ => 0)))) hx hb harr rfl hK hP hD hS hA (fun _ => rfl) hn hN hbytes hcells hslots hdg (fun q cA H1 hK1 hP1 hD1 hS1 => ?_)
  have e1 : some cA = some (k 2) := ((hK1.2 7 (cA, .long) rfl).2 : s.vm.findClass _ = _).symm.trans (hK.2 2 (k 2, .long) rfl).2
  cases e1
  exact kk q H1 hP1 hD1 hS1
/-- a row of references; t0: which of the array classes -/
theorem newQ (t0 : Nat) (hx : p.tables.exec = Jvm.exec) (hb : c.code = cc) {own C : String} {index : Nat} (hown : s.vm.findClass own = some m.cls) (hclink : (Cond.classLink own index C).before args s = true) (hover : va_AO C s) (hK : va_K D clsL (tyL k) s) (ht : (tyL k)[t0]? = some (k t0, .object C)) (hP : va_P D clsL ws H) (hD : va_D A ws) (hS : va_S A H0 H locs) (hA : ∀ q, H0.size ≤ q → A q)
    {n : Int32} {N' : Nat} (hn : ¬ n < 0) (hN : n.toNatClampNeg = N') (hbytes : N' * 4 ≤ 536870912) (hcells : cells + 1 ≤ R.cells) (hslots : slots + N' ≤ R.slots) (hdg : decode cc pc = .ok (.anewarray index, 3))
    (kk : ∀ (q : Nat) (H1 : Heap), va_P D clsL (ws ++ [(q, .inl (k t0, N', .inr (.inr (.inr (.inr (fun _ => none))))))]) H1 → va_D A (ws ++ [(q, .inl (k t0, N', .inr (.inr (.inr (.inr (fun _ => none))))))]) → va_S A H0 H1 locs →
      W p l e R s m args below meth c H1 locs (cells + 1) (slots + N') Q (F0 m (pc + 3) ls (.ref q :: rest))) : W p l e R s m args below meth c H locs cells slots Q (F0 m pc ls (.int n :: rest)) := by
  refine va_newq hx hb hown hclink hover hK hP hD hS hA hn hN hbytes hcells hslots hdg (fun q cA H1 hK1 hP1 hD1 hS1 => ?_)
  obtain ⟨-, kA, comp, -, -, -, g1⟩ := hK1.2 7 (cA, .object C) rfl
  obtain ⟨-, kB, comp2, -, -, -, g2⟩ := hK.2 t0 _ ht
  have e1 : some cA = some (k t0) := g1.symm.trans g2
  cases e1
  exact kk q H1 hP1 hD1 hS1
/-- a row of rows: a row read out of it -/
theorem ald2 (hx : p.tables.exec = Jvm.exec) (hb : c.code = cc) (hK : va_K D clsL (tyL k) s) (hP : va_P D clsL ws H) (q0 : Nat) {n : Nat} {f : Nat → Option Nat} (ha : ws[q0]? = some (a, .inl (k 6, n, .inr (.inr (.inr (.inr f)))))) {i : Int32} {v : Nat} (hin : vp_in i n) (hv : f i.toNatClampNeg = some v) (hdg : decode cc pc = .ok (.aaload, 1))
    (kk : W p l e R s m args below meth c H locs cells slots Q (F0 m (pc + 1) ls (.ref v :: rest))) : W p l e R s m args below meth c H locs cells slots Q (F0 m pc ls (.int i :: .ref a :: rest)) := by
  have hlt : i.toNatClampNeg < n := Nat.not_le.mp fun q => hin (Or.inr q)
  have hcell : H[a]? = some (arrV (k 6) n (fun j => va_rf (f j))) := hP q0 _ ha
  exact W.aald (v := .ref v) (ty := .array .int) hx hb hcell ((hK.2 6 (k 6, .array .int) rfl).1 n (fun j => va_rf (f j))) rfl (fun q => by cases q) (by show ¬ (i < 0 ∨ (arrV _ _ _).slots.size ≤ _); rw [arrV_size]; exact hin) (by show (arrV _ _ _).slots[_]? = _; rw [arrV_read _ _ hlt, hv]; rfl) rfl rfl hdg kk
end ARR
end
section
/-! new int[2][24]: one instruction, three cells -/
section GRID
variable {E : CtlPost} {e : Env} {d : Bool} {acts : List Action} {s : State}
theorem g_i24 : ¬ ((24 : Int32) < 0) := by decide
theorem g_i2 : ¬ ((2 : Int32) < 0) := by decide
theorem g_n24 : (24 : Int32).toNatClampNeg = 24 := by decide
theorem g_n2 : (2 : Int32).toNatClampNeg = 2 := by decide
theorem g_row {comp cc : ClassId} {kc : Class} (hkc : s.vm.classes[comp]? = some kc) (hkind : kc.kind = .array cc .int) (hl : ¬ 24 > e.platform.arrayLengthLimit) (hh : ¬ 24 * componentBytes .int > e.platform.maxHeapBytes)
    (h1 : s.heap.size < e.platform.maxCells) (h2 : s.slotsUsed + 24 ≤ e.platform.maxSlots) {Q : Addr → Pre} (hq : ∀ acts', Q s.heap.size d acts' (s.pushCell { cls := comp, slots := Array.replicate 24 (.int 0) })) : wp (Op.multianewarray.make comp [24]) Q E e d acts s := by
  rw [Op.multianewarray.make]
  simp only [wp_bind', Jvm.W.ite, g_i24, if_false, wp_pure', Jvm.W.theClass, hkc, hkind, Option.some.injEq, exists_eq_left', g_n24]
  exact Jvm.W.newArray_of hkc hkind hl hh h1 h2 rfl hq
def g_o0 (c : ClassId) : Cell := { cls := c, slots := Array.replicate 2 .null }
def g_in (c : ClassId) : Cell := { cls := c, slots := Array.replicate 24 (.int 0) }
def g_o1 (c : ClassId) (h : Nat) : Cell := (g_o0 c).setSlot 0 (.ref (h + 1))
def g_o2 (c : ClassId) (h : Nat) : Cell := (g_o1 c h).setSlot 1 (.ref (h + 2))
def g_s1 (s : State) (c : ClassId) : State := s.pushCell (g_o0 c)
def g_s2 (s : State) (c ci : ClassId) : State := (g_s1 s c).pushCell (g_in ci)
def g_s3 (s : State) (c ci : ClassId) : State := (g_s2 s c ci).setCell s.heap.size (g_o1 c s.heap.size)
def g_s4 (s : State) (c ci : ClassId) : State := (g_s3 s c ci).pushCell (g_in ci)
def g_s5 (s : State) (c ci : ClassId) : State := (g_s4 s c ci).setCell s.heap.size (g_o2 c s.heap.size)
theorem g_z1 (s : State) (c : ClassId) : (g_s1 s c).heap.size = s.heap.size + 1 := by simp [g_s1]
theorem g_z2 (s : State) (c ci : ClassId) : (g_s2 s c ci).heap.size = s.heap.size + 2 := by simp [g_s2, g_z1]
theorem g_z3 (s : State) (c ci : ClassId) : (g_s3 s c ci).heap.size = s.heap.size + 2 := by simp [g_s3, State.setCell, g_z2]
theorem g_z4 (s : State) (c ci : ClassId) : (g_s4 s c ci).heap.size = s.heap.size + 3 := by simp [g_s4, g_z3]
theorem g_z5 (s : State) (c ci : ClassId) : (g_s5 s c ci).heap.size = s.heap.size + 3 := by simp [g_s5, State.setCell, g_z4]
theorem g_push {s : State} {c : Cell} {a n : Nat} (hn : s.heap.size = n) (h : a < n) : (s.pushCell c).heap[a]? = s.heap[a]? := State.heap_pushCell_of_lt _ _ (by rw [hn]; exact h)
theorem g_last {s : State} {c : Cell} {n : Nat} (hn : s.heap.size = n) : (s.pushCell c).heap[n]? = some c := by
  rw [← hn]
  exact State.heap_pushCell_size _ _
theorem g_c2 (s : State) (c ci : ClassId) : (g_s2 s c ci).heap[s.heap.size]? = some (g_o0 c) := (g_push (g_z1 s c) (by omega)).trans (g_last rfl)
theorem g_c3 (s : State) (c ci : ClassId) : (g_s3 s c ci).heap[s.heap.size]? = some (g_o1 c s.heap.size) := State.heap_setCell_self (g_c2 s c ci)
theorem g_c4 (s : State) (c ci : ClassId) : (g_s4 s c ci).heap[s.heap.size]? = some (g_o1 c s.heap.size) := (g_push (g_z3 s c ci) (by omega)).trans (g_c3 s c ci)
theorem g_c5 (s : State) (c ci : ClassId) : (g_s5 s c ci).heap[s.heap.size]? = some (g_o2 c s.heap.size) := State.heap_setCell_self (g_c4 s c ci)
theorem g_a5 (s : State) (c ci : ClassId) : (g_s5 s c ci).heap[s.heap.size + 1]? = some (g_in ci) := (State.heap_setCell_other (s := g_s4 s c ci) (show s.heap.size ≠ s.heap.size + 1 by omega)).trans ((g_push (g_z3 s c ci) (by omega)).trans ((State.heap_setCell_other (s := g_s2 s c ci) (show s.heap.size ≠ s.heap.size + 1 by omega)).trans (g_last (g_z1 s c))))
theorem g_b5 (s : State) (c ci : ClassId) : (g_s5 s c ci).heap[s.heap.size + 2]? = some (g_in ci) := (State.heap_setCell_other (s := g_s4 s c ci) (show s.heap.size ≠ s.heap.size + 2 by omega)).trans (g_last (g_z3 s c ci))
theorem g_old (s : State) (c ci : ClassId) {a : Nat} (h : a < s.heap.size) : (g_s5 s c ci).heap[a]? = s.heap[a]? := (State.heap_setCell_other (s := g_s4 s c ci) (show s.heap.size ≠ a by omega)).trans ((g_push (g_z3 s c ci) (by omega)).trans ((State.heap_setCell_other (s := g_s2 s c ci) (show s.heap.size ≠ a by omega)).trans ((g_push (g_z1 s c) (by omega)).trans (g_push rfl h))))
theorem g_top (s : State) (f : JFrame) (c ci : ClassId) : g_s5 (s.setTop f) c ci = (g_s5 s c ci).setTop f := by
  simp only [g_s5, g_s4, g_s3, g_s2, g_s1, State.heap_setTop, State.pushCell_setTop, State.setCell_setTop]
theorem g_make {c comp cc : ClassId} {kA kc : Class} (hk : s.vm.classes[c]? = some kA) (hkA : kA.kind = .array comp (.array .int)) (hkc : s.vm.classes[comp]? = some kc) (hkind : kc.kind = .array cc .int) (hl : ¬ 24 > e.platform.arrayLengthLimit) (hh : ¬ 24 * 4 > e.platform.maxHeapBytes)
    (h1 : s.heap.size + 3 ≤ e.platform.maxCells) (h2 : s.slotsUsed + 50 ≤ e.platform.maxSlots) {Q : Addr → Pre} (hq : ∀ d' acts', Q s.heap.size d' acts' (g_s5 s c comp)) : wp (Op.multianewarray.make c [2, 24]) Q E e d acts s := by
  rw [Op.multianewarray.make]
  simp only [wp_bind', Jvm.W.ite, g_i2, if_false, wp_pure', Jvm.W.theClass, hk, hkA, Option.some.injEq, exists_eq_left', g_n2]
  refine Jvm.W.newArray_of hk hkA (by omega) (by show ¬ 2 * 4 > _; omega) (by omega) (by omega) rfl (fun acts1 => ?_)
  have hb : ((2 : Int32) == 0) = false := by decide
  simp only [hb]
  rw [if_neg (by decide), wp_bind', Std.Legacy.Range.forIn_eq_forIn_range']
  show wp (forIn [0, 1] PUnit.unit _) _ E e d acts1 (g_s1 s c)
  simp only [List.forIn_cons, List.forIn_nil, wp_bind']
  have u1 : (g_s1 s c).slotsUsed = s.slotsUsed + 2 := by simp [g_s1, g_o0]
  have u2 : (g_s2 s c comp).slotsUsed = s.slotsUsed + 26 := by simp [g_s2, u1, g_in]
  have u3 : (g_s3 s c comp).slotsUsed = s.slotsUsed + 26 := by simp [g_s3, u2]
  have v1 : (g_s1 s c).vm = s.vm := rfl
  have v3 : (g_s3 s c comp).vm = s.vm := rfl
  refine g_row (by rw [v1]; exact hkc) hkind hl hh (by rw [g_z1]; omega) (by rw [u1]; omega) (fun acts2 => ?_)
  rw [wp_bind', Jvm.W.writeLoc]
  refine ⟨g_o0 c, g_c2 s c comp, by simp [g_o0], by simp [g_o0], by simp [g_o0, State.fitsSlot, State.slotType?, v1, hk, hkA, fits], ?_⟩
  have e3 : ((g_s1 s c).pushCell { cls := comp, slots := Array.replicate 24 (.int 0) }).setCell s.heap.size ((g_o0 c).setSlot 0 (.ref (g_s1 s c).heap.size)) = g_s3 s c comp := by rw [g_z1]; rfl
  rw [e3]
  simp only [wp_pure', wp_bind']
  refine g_row (by rw [v3]; exact hkc) hkind hl hh (by rw [g_z3]; omega) (by rw [u3]; omega) (fun acts3 => ?_)
  rw [wp_bind', Jvm.W.writeLoc]
  refine ⟨g_o1 c s.heap.size, g_c4 s c comp, by simp [g_o1, g_o0, Cell.setSlot], by simp [g_o1, g_o0, Cell.setSlot], by simp [g_o1, g_o0, Cell.setSlot, State.fitsSlot, State.slotType?, v3, hk, hkA, fits], ?_⟩
  have e5 : ((g_s3 s c comp).pushCell { cls := comp, slots := Array.replicate 24 (.int 0) }).setCell s.heap.size ((g_o1 c s.heap.size).setSlot 1 (.ref (g_s3 s c comp).heap.size)) = g_s5 s c comp := by rw [g_z3]; rfl
  rw [e5]
  simp only [wp_pure']
  exact hq _ _
end GRID
end
section
section GRID2
variable {p : Program} {l : Launch} {e : Env} {R : Room} {s : State} {m : MethodId} {args : Array Value} {below : List Frame} {meth : Method} {c : Code} {H : Heap} {locs : List Loc} {cells slots : Nat} {Q : State → Prop}
variable {D : va_G} {k : Nat → ClassId} {A : Nat → Prop} {ws : va_W} {H0 : Heap} {cc : ByteArray} {pc : Nat} {rest : List Value} {ls : Array Slot} {T : State}
theorem g_stand (X : Stand p l e R s m args below meth c T locs cells slots) (cO ci : ClassId) : Stand p l e R s m args below meth c (g_s5 T cO ci) locs (cells + 3) (slots + 50) := by
  have Y1 := X.pushed (g_o0 cO)
  have Y2 := Y1.pushed (g_in ci)
  have Y3 := Y2.stored (g_c2 T cO ci) 0 (.ref (T.heap.size + 1))
  have Y4 := Y3.pushed (g_in ci)
  have Y5 := Y4.stored (g_c4 T cO ci) 1 (.ref (T.heap.size + 2))
  have e0 : (g_o0 cO).slots.size = 2 := by simp [g_o0]
  have e1 : (g_in ci).slots.size = 24 := by simp [g_in]
  rw [e0, e1] at Y5
  have hz : s.heap.size ≤ T.heap.size := X.heapGrown
  have Y6 := Stand.dropFresh Y5 (fun x hx => by simp only [List.mem_cons, List.not_mem_nil, or_false] at hx; rw [hx]; exact hz)
  have Y7 := Stand.dropFresh Y6 (fun x hx => by simp only [List.mem_cons, List.not_mem_nil, or_false] at hx; rw [hx]; exact hz)
  exact Y7
theorem g_go (X : Stand p l e R s m args below meth c T locs cells slots) (hexec : p.tables.exec = Jvm.exec) {own : String} {index : Nat} (hown : s.vm.findClass own = some m.cls) (hclink : (Cond.classLink own index "[[I").before args s = true) {cO ci cx : ClassId} {kA kc : Class} (hnm : s.vm.findClass "[[I" = some cO)
    (hk : s.vm.classes[cO]? = some kA) (hkA : kA.kind = .array ci (.array .int)) (hkc : s.vm.classes[ci]? = some kc) (hkind : kc.kind = .array cx .int) {g : JFrame} (hg : g.method = m) (hdg : decode c.code g.pc = .ok (.multianewarray index 2, 4)) {rest : List Value} (hstack : g.stack = .int 24 :: .int 2 :: rest)
    (hcells : cells + 3 ≤ R.cells) (hslots : slots + 50 ≤ R.slots) :
    ∃ vm₁ : Vm, Stand p l e R s m args below meth c (g_s5 (T.setVm vm₁) cO ci) locs (cells + 3) (slots + 50) ∧
      ∀ target, Steps p.tables e below ((g_s5 (T.setVm vm₁) cO ci).setTop { g with pc := g.pc + 4, stack := .ref T.heap.size :: rest }) target → Steps p.tables e below (T.setTop g) target := by
  subst hg
  have hpl : e.platform.magicAccessors = ({} : Platform).magicAccessors := by rw [X.admits.platform]
  obtain ⟨c0, hfc0, hcl⟩ := Cond.classLink_spec hown hclink e.platform hpl
  cases hnm.symm.trans hfc0
  obtain ⟨hg₁, hwarm₁, hready₁⟩ := State.classEntry (e := e) X.warmed hcl
  generalize T.vm.noted g.method.cls index (.cls cO) = vm₁ at hg₁ hwarm₁ hready₁
  have hal : s.vm.Alike vm₁ := hwarm₁.alike
  obtain ⟨kA₁, hkA₁, heA⟩ := hal.2.2 _ _ hk
  obtain ⟨kC₁, hkC₁, heC⟩ := hal.2.2 _ _ hkc
  have hkindA₁ : kA₁.kind = .array ci (.array .int) := by rw [heA]; exact hkA
  have hkindC₁ : kC₁.kind = .array cx .int := by rw [heC]; exact hkind
  have X₁ := X.noted hwarm₁
  obtain ⟨hr1, hr2⟩ := X.roomAbove hcells hslots
  have XF := g_stand X₁ cO ci
  refine ⟨vm₁, XF, fun target hrest => ?_⟩
  have hl : ¬ 24 > e.platform.arrayLengthLimit := by rw [Launch.admits_arrayLengthLimit X.admits]; omega
  have hh : ¬ 24 * 4 > e.platform.maxHeapBytes := by rw [Launch.admits_maxHeapBytes X.admits]; omega
  jvm_step X.here [hexec, hdg]
  simp only [Op.multianewarray.sem, wp_bind', Jvm.W.resolveClassAt_links (State.method?_setTop g X.here.top) hg₁]
  rw [Jvm.W.popN, if_neg (by decide)]
  refine ⟨g, State.topJava?_setTop' (s := T.setVm vm₁) g X.here.top, [.int 2, .int 24], rest, rfl, hstack, ?_⟩
  simp only [List.mapM_cons, List.mapM_nil, wp_bind', wp_pure']
  refine g_make (s := ((T.setTop g).setVm vm₁).setTop { g with stack := rest }) (kA := kA₁) (kc := kC₁) (comp := ci) (cc := cx) hkA₁ hkindA₁ hkC₁ hkindC₁ hl hh hr1 hr2 (fun d' acts' => ?_)
  have eS : ((T.setTop g).setVm vm₁).setTop { g with stack := rest } = (T.setVm vm₁).setTop { g with stack := rest } := by
    show ((T.setVm vm₁).setTop g).setTop _ = _
    rw [State.setTop_setTop]
  rw [eS, g_top]
  simp only [wp_bind', Jvm.W.mark, Jvm.W.pushRef, State.topJava?_setTop' _ XF.here.top, Option.some.injEq, exists_eq_left', State.setTop_setTop, State.heap_setTop]
  intro acts
  simp [jvm, XF.here.top]
  exact hrest
theorem g_oV (cO : ClassId) (h : Nat) : g_o2 cO h = vp_cell cO (2, .inr (.inr (.inr (.inr (va_up (va_up (fun _ => none) 0 (some (h + 1))) 1 (some (h + 2))))))) := by
  rw [vp_cell_q]
  show ((({ cls := cO, slots := Array.replicate 2 .null, vm := .none } : Cell).setSlot 0 (.ref (h + 1))).setSlot 1 (.ref (h + 2))) = _
  rw [arrV_new, arrV_store, arrV_store]
  refine congrArg (arrV cO 2) (funext fun j => ?_)
  by_cases h1 : j = 1
  · subst h1; simp [updV, va_up, va_rf]
  · by_cases h0 : j = 0
    · subst h0; simp [updV, va_up, va_rf]
    · simp [updV, va_up, va_rf, h0, h1]
theorem newG (hx : p.tables.exec = Jvm.exec) (hb : c.code = cc) {own : String} {index : Nat} (hown : s.vm.findClass own = some m.cls) (hclink : (Cond.classLink own index "[[I").before args s = true) (hK : va_K D clsL (tyL k) s) (hN : nw k s) (hP : va_P D clsL ws H) (hD : va_D A ws) (hS : va_S A H0 H locs) (hA : ∀ q, H0.size ≤ q → A q)
    (hcells : cells + 3 ≤ R.cells) (hslots : slots + 50 ≤ R.slots) (hdg : decode cc pc = .ok (.multianewarray index 2, 4))
    (kk : ∀ (q q1 q2 : Nat) (H1 : Heap), va_P D clsL (((ws ++ [(q, .inl (k 6, 2, .inr (.inr (.inr (.inr (va_up (va_up (fun _ => none) 0 (some q1)) 1 (some q2)))))))]) ++ [(q1, .inl (k 0, 24, .inl (fun _ => 0)))]) ++ [(q2, .inl (k 0, 24, .inl (fun _ => 0)))]) H1 → va_D A (((ws ++ [(q, .inl (k 6, 2, .inr (.inr (.inr (.inr (va_up (va_up (fun _ => none) 0 (some q1)) 1 (some q2)))))))]) ++ [(q1, .inl (k 0, 24, .inl (fun _ => 0)))]) ++ [(q2, .inl (k 0, 24, .inl (fun _ => 0)))]) → va_S A H0 H1 locs →
      W p l e R s m args below meth c H1 locs (cells + 3) (slots + 50) Q (F0 m (pc + 4) ls (.ref q :: rest))) : W p l e R s m args below meth c H locs cells slots Q (F0 m pc ls (.int 24 :: .int 2 :: rest)) := by
  intro T hT X
  obtain ⟨kA, hk, hkA⟩ := hN.2.2.2.2
  obtain ⟨-, kc, hkc, cx, hkind⟩ := (hK.2 0 (k 0, .int) rfl).1 0 (fun _ => .int 0)
  have hnm : s.vm.findClass "[[I" = some (k 6) := (hK.2 6 (k 6, .array .int) rfl).2
  obtain ⟨vm₁, X', st⟩ := g_go X hx hown hclink hnm hk hkA hkc hkind (g := F0 m pc ls (.int 24 :: .int 2 :: rest)) rfl (by rw [hb]; exact hdg) rfl hcells hslots
  have hTh : (T.setVm vm₁).heap = H := hT
  generalize hH1 : (g_s5 (T.setVm vm₁) (k 6) (k 0)).heap = H1
  have z1 : H1.size = H.size + 3 := by rw [← hH1, g_z5, hTh]
  have c1 : H1[H.size]? = some (g_o2 (k 6) H.size) := by
    have h := g_c5 (T.setVm vm₁) (k 6) (k 0)
    rw [hH1, hTh] at h
    exact h
  have a1 : H1[H.size + 1]? = some (g_in (k 0)) := by
    have h := g_a5 (T.setVm vm₁) (k 6) (k 0)
    rw [hH1, hTh] at h
    exact h
  have b1 : H1[H.size + 2]? = some (g_in (k 0)) := by
    have h := g_b5 (T.setVm vm₁) (k 6) (k 0)
    rw [hH1, hTh] at h
    exact h
  have o1 : ∀ q : Nat, q < H.size → H1[q]? = H[q]? := fun q hq => by
    have h := g_old (T.setVm vm₁) (k 6) (k 0) (a := q) (by rw [hTh]; exact hq)
    rw [hH1, hTh] at h
    exact h
  have hin : g_in (k 0) = vp_cell (k 0) (24, .inl (fun _ => 0)) := by
    show ({ cls := k 0, slots := Array.replicate 24 (.int 0), vm := .none } : Cell) = arrV (k 0) 24 (fun _ => .int 0)
    exact arrV_new (k 0) 24 (.int 0)
  have hkp : ∀ (i : Nat) (x : Nat × va_E), ws[i]? = some x → H1[x.1]? = H[x.1]? := fun i x hx => o1 x.1 ((hP i x hx).lt)
  have one : ∀ (x : Nat × va_E), va_at D clsL x H1 → va_P D clsL [x] H1 := fun x hx i y hy => by
    have hz : i < 1 := (List.getElem?_eq_some_iff.mp hy).1
    rw [show i = 0 by omega] at hy
    cases hy
    exact hx
  have P1 := (hP.kept hkp).app (one (H.size, .inl (k 6, 2, .inr (.inr (.inr (.inr (va_up (va_up (fun _ => none) 0 (some (H.size + 1))) 1 (some (H.size + 2)))))))) (c1.trans (congrArg some (g_oV (k 6) H.size))))
  have P2 := P1.app (one (H.size + 1, .inl (k 0, 24, .inl (fun _ => 0))) (a1.trans (congrArg some hin)))
  have P3 := P2.app (one (H.size + 2, .inl (k 0, 24, .inl (fun _ => 0))) (b1.trans (congrArg some hin)))
  have far : ∀ (V : va_W) (n : Nat), va_D A V → (∀ (i : Nat) (x : Nat × va_E), V[i]? = some x → x.1 < n) → A n → ∀ e : va_E, va_D A (V ++ [(n, e)]) := fun V n hV hlt hn e => hV.app ⟨fun i j x y hi hj hxy => by
      have h1 : i < 1 := (List.getElem?_eq_some_iff.mp hi).1
      have h2 : j < 1 := (List.getElem?_eq_some_iff.mp hj).1
      omega, fun i x hi => by
      have h1 : i < 1 := (List.getElem?_eq_some_iff.mp hi).1
      rw [show i = 0 by omega] at hi
      cases hi
      exact hn⟩ (fun i j x y hi hj hxy => by
      have h1 : j < 1 := (List.getElem?_eq_some_iff.mp hj).1
      rw [show j = 0 by omega] at hj
      cases hj
      have := hlt i x hi
      omega)
  have lt1 : ∀ (V : va_W) (n : Nat) (e : va_E), (∀ (i : Nat) (x : Nat × va_E), V[i]? = some x → x.1 < n) → ∀ (i : Nat) (x : Nat × va_E), (V ++ [(n, e)])[i]? = some x → x.1 < n + 1 := fun V n e hV i x hx => by
    by_cases hl : i < V.length
    · rw [List.getElem?_append_left hl] at hx
      have := hV i x hx
      omega
    · rw [List.getElem?_append_right (by omega)] at hx
      have h1 : i - V.length < 1 := (List.getElem?_eq_some_iff.mp hx).1
      rw [show i - V.length = 0 by omega] at hx
      cases hx
      exact Nat.lt_succ_self n
  have l0 : ∀ (i : Nat) (x : Nat × va_E), ws[i]? = some x → x.1 < H.size := fun i x hx => (hP i x hx).lt
  have l1 := lt1 ws H.size (.inl (k 6, 2, .inr (.inr (.inr (.inr (va_up (va_up (fun _ => none) 0 (some (H.size + 1))) 1 (some (H.size + 2)))))))) l0
  have l2 := lt1 _ (H.size + 1) (.inl (k 0, 24, .inl (fun _ => 0))) l1
  have hz0 := hS.1
  have D1 := far ws H.size hD l0 (hA _ hz0) (.inl (k 6, 2, .inr (.inr (.inr (.inr (va_up (va_up (fun _ => none) 0 (some (H.size + 1))) 1 (some (H.size + 2))))))))
  have D2 := far _ (H.size + 1) D1 l1 (hA _ (by omega)) (.inl (k 0, 24, .inl (fun _ => 0)))
  have D3 := far _ (H.size + 2) D2 l2 (hA _ (by omega)) (.inl (k 0, 24, .inl (fun _ => 0)))
  obtain ⟨t, t1, t2⟩ := kk H.size (H.size + 1) (H.size + 2) H1 P3 D3 ⟨by omega, fun x h1 h2 => (o1 x (Nat.lt_of_lt_of_le h1 hS.1)).trans (hS.2.1 x h1 h2), hS.2.2⟩ _ hH1 X'
  refine ⟨t, st t ?_, t2⟩
  have e1 : T.heap.size = H.size := by rw [hT]
  rw [e1]
  exact t1
end GRID2
end
