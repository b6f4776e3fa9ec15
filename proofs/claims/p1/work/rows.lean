section
-- ===== PART A: goes FIRST, ahead of the names: the tables' words, and 'selects' of the private methods out of them =====
/-- a private method of a class that the tables say can be made, by its rows of tables_1 -/
def lw_okq (q : MethodName × Nat) : Prop := (q.1.cls ≠ "java/lang/invoke/MethodHandle" ∧ q.1.cls ≠ "java/lang/invoke/VarHandle") ∧ Cond.instantiable q.1.cls q.2 ∈ tables_1 ∧ Cond.privateMethod q.1 ∈ tables_1 ∧ Cond.instanceMethod q.1 ∈ tables_1
theorem lw_p0 : lw_okq (⟨"TuneSchool", "finding", "(I)I"⟩, 17) := ⟨⟨by decide +kernel, by decide +kernel⟩, List.mem_of_getElem? (i := 18) (by decide +kernel), List.mem_of_getElem? (i := 267) (by decide +kernel), List.mem_of_getElem? (i := 268) (by decide +kernel)⟩
theorem lw_p1 : lw_okq (⟨"TuneSchool", "keep", "(I)V"⟩, 17) := ⟨⟨by decide +kernel, by decide +kernel⟩, List.mem_of_getElem? (i := 18) (by decide +kernel), List.mem_of_getElem? (i := 271) (by decide +kernel), List.mem_of_getElem? (i := 272) (by decide +kernel)⟩
theorem lw_p2 : lw_okq (⟨"TuneSchool", "fine", "(I)I"⟩, 17) := ⟨⟨by decide +kernel, by decide +kernel⟩, List.mem_of_getElem? (i := 18) (by decide +kernel), List.mem_of_getElem? (i := 289) (by decide +kernel), List.mem_of_getElem? (i := 290) (by decide +kernel)⟩
theorem lw_p3 : lw_okq (⟨"TuneSchool", "findLasts", "()V"⟩, 17) := ⟨⟨by decide +kernel, by decide +kernel⟩, List.mem_of_getElem? (i := 18) (by decide +kernel), List.mem_of_getElem? (i := 524) (by decide +kernel), List.mem_of_getElem? (i := 525) (by decide +kernel)⟩
theorem lw_p4 : lw_okq (⟨"TuneSchool", "askPair", "(LTuneSchool$Standing;III)V"⟩, 17) := ⟨⟨by decide +kernel, by decide +kernel⟩, List.mem_of_getElem? (i := 18) (by decide +kernel), List.mem_of_getElem? (i := 531) (by decide +kernel), List.mem_of_getElem? (i := 532) (by decide +kernel)⟩
theorem lw_p5 : lw_okq (⟨"TuneSchool", "noteFault", "(LTuneSchool$Rule;III)V"⟩, 17) := ⟨⟨by decide +kernel, by decide +kernel⟩, List.mem_of_getElem? (i := 18) (by decide +kernel), List.mem_of_getElem? (i := 649) (by decide +kernel), List.mem_of_getElem? (i := 650) (by decide +kernel)⟩
theorem lw_p6 : lw_okq (⟨"TuneSchool", "faultNumber", "(II)I"⟩, 17) := ⟨⟨by decide +kernel, by decide +kernel⟩, List.mem_of_getElem? (i := 18) (by decide +kernel), List.mem_of_getElem? (i := 657) (by decide +kernel), List.mem_of_getElem? (i := 658) (by decide +kernel)⟩
theorem lw_p7 : lw_okq (⟨"TuneSchool", "firstFault", "(LTuneSchool$Voice;LTuneSchool$Standing;III)I"⟩, 17) := ⟨⟨by decide +kernel, by decide +kernel⟩, List.mem_of_getElem? (i := 18) (by decide +kernel), List.mem_of_getElem? (i := 689) (by decide +kernel), List.mem_of_getElem? (i := 690) (by decide +kernel)⟩
theorem lw_p8 : lw_okq (⟨"TuneSchool", "tellsAny", "(LTuneSchool$Standing;)Z"⟩, 17) := ⟨⟨by decide +kernel, by decide +kernel⟩, List.mem_of_getElem? (i := 18) (by decide +kernel), List.mem_of_getElem? (i := 705) (by decide +kernel), List.mem_of_getElem? (i := 706) (by decide +kernel)⟩
theorem lw_p9 : lw_okq (⟨"TuneSchool", "advance", "(I)I"⟩, 17) := ⟨⟨by decide +kernel, by decide +kernel⟩, List.mem_of_getElem? (i := 18) (by decide +kernel), List.mem_of_getElem? (i := 799) (by decide +kernel), List.mem_of_getElem? (i := 800) (by decide +kernel)⟩
theorem lw_p10 : lw_okq (⟨"TuneSchool", "writeTune", "()I"⟩, 17) := ⟨⟨by decide +kernel, by decide +kernel⟩, List.mem_of_getElem? (i := 18) (by decide +kernel), List.mem_of_getElem? (i := 818) (by decide +kernel), List.mem_of_getElem? (i := 819) (by decide +kernel)⟩
theorem lw_p11 : lw_okq (⟨"TuneSchool$Line", "add", "(I)V"⟩, 3) := ⟨⟨by decide +kernel, by decide +kernel⟩, List.mem_of_getElem? (i := 188) (by decide +kernel), List.mem_of_getElem? (i := 887) (by decide +kernel), List.mem_of_getElem? (i := 888) (by decide +kernel)⟩
theorem lw_p12 : lw_okq (⟨"TuneSchool$Line", "addPitch", "(I)V"⟩, 3) := ⟨⟨by decide +kernel, by decide +kernel⟩, List.mem_of_getElem? (i := 188) (by decide +kernel), List.mem_of_getElem? (i := 891) (by decide +kernel), List.mem_of_getElem? (i := 892) (by decide +kernel)⟩
theorem lw_p13 : lw_okq (⟨"TuneSchool$Line", "takePitch", "()I"⟩, 3) := ⟨⟨by decide +kernel, by decide +kernel⟩, List.mem_of_getElem? (i := 188) (by decide +kernel), List.mem_of_getElem? (i := 904) (by decide +kernel), List.mem_of_getElem? (i := 905) (by decide +kernel)⟩
theorem lw_p14 : lw_okq (⟨"TuneSchool$Line", "here", "()I"⟩, 3) := ⟨⟨by decide +kernel, by decide +kernel⟩, List.mem_of_getElem? (i := 188) (by decide +kernel), List.mem_of_getElem? (i := 908) (by decide +kernel), List.mem_of_getElem? (i := 909) (by decide +kernel)⟩
theorem lw_p15 : lw_okq (⟨"TuneSchool", "voicesThere", "()I"⟩, 17) := ⟨⟨by decide +kernel, by decide +kernel⟩, List.mem_of_getElem? (i := 18) (by decide +kernel), List.mem_of_getElem? (i := 939) (by decide +kernel), List.mem_of_getElem? (i := 940) (by decide +kernel)⟩
def lw_privs_1 : List (MethodName × Nat) := [(⟨"TuneSchool", "finding", "(I)I"⟩, 17), (⟨"TuneSchool", "keep", "(I)V"⟩, 17), (⟨"TuneSchool", "fine", "(I)I"⟩, 17), (⟨"TuneSchool", "findLasts", "()V"⟩, 17), (⟨"TuneSchool", "askPair", "(LTuneSchool$Standing;III)V"⟩, 17), (⟨"TuneSchool", "noteFault", "(LTuneSchool$Rule;III)V"⟩, 17), (⟨"TuneSchool", "faultNumber", "(II)I"⟩, 17), (⟨"TuneSchool", "firstFault", "(LTuneSchool$Voice;LTuneSchool$Standing;III)I"⟩, 17), (⟨"TuneSchool", "tellsAny", "(LTuneSchool$Standing;)Z"⟩, 17), (⟨"TuneSchool", "advance", "(I)I"⟩, 17), (⟨"TuneSchool", "writeTune", "()I"⟩, 17), (⟨"TuneSchool$Line", "add", "(I)V"⟩, 3), (⟨"TuneSchool$Line", "addPitch", "(I)V"⟩, 3), (⟨"TuneSchool$Line", "takePitch", "()I"⟩, 3), (⟨"TuneSchool$Line", "here", "()I"⟩, 3), (⟨"TuneSchool", "voicesThere", "()I"⟩, 17)]
theorem lw_r1 : ∀ q ∈ lw_privs_1, lw_okq q := List.forall_mem_cons.mpr ⟨lw_p0, List.forall_mem_cons.mpr ⟨lw_p1, List.forall_mem_cons.mpr ⟨lw_p2, List.forall_mem_cons.mpr ⟨lw_p3, List.forall_mem_cons.mpr ⟨lw_p4, List.forall_mem_cons.mpr ⟨lw_p5, List.forall_mem_cons.mpr ⟨lw_p6, List.forall_mem_cons.mpr ⟨lw_p7, List.forall_mem_cons.mpr ⟨lw_p8, List.forall_mem_cons.mpr ⟨lw_p9, List.forall_mem_cons.mpr ⟨lw_p10, List.forall_mem_cons.mpr ⟨lw_p11, List.forall_mem_cons.mpr ⟨lw_p12, List.forall_mem_cons.mpr ⟨lw_p13, List.forall_mem_cons.mpr ⟨lw_p14, List.forall_mem_cons.mpr ⟨lw_p15, fun _ h => absurd h List.not_mem_nil⟩⟩⟩⟩⟩⟩⟩⟩⟩⟩⟩⟩⟩⟩⟩⟩
theorem lw_p16 : lw_okq (⟨"TuneSchool", "placesTaken", "()I"⟩, 17) := ⟨⟨by decide +kernel, by decide +kernel⟩, List.mem_of_getElem? (i := 18) (by decide +kernel), List.mem_of_getElem? (i := 943) (by decide +kernel), List.mem_of_getElem? (i := 944) (by decide +kernel)⟩
theorem lw_p17 : lw_okq (⟨"TuneSchoolModel", "finds", "(I)I"⟩, 71) := ⟨⟨by decide +kernel, by decide +kernel⟩, List.mem_of_getElem? (i := 947) (by decide +kernel), List.mem_of_getElem? (i := 1178) (by decide +kernel), List.mem_of_getElem? (i := 1179) (by decide +kernel)⟩
theorem lw_p18 : lw_okq (⟨"TuneSchoolModel", "keep", "(I)V"⟩, 71) := ⟨⟨by decide +kernel, by decide +kernel⟩, List.mem_of_getElem? (i := 947) (by decide +kernel), List.mem_of_getElem? (i := 1182) (by decide +kernel), List.mem_of_getElem? (i := 1183) (by decide +kernel)⟩
theorem lw_p19 : lw_okq (⟨"TuneSchoolModel", "against", "(I)I"⟩, 71) := ⟨⟨by decide +kernel, by decide +kernel⟩, List.mem_of_getElem? (i := 947) (by decide +kernel), List.mem_of_getElem? (i := 1210) (by decide +kernel), List.mem_of_getElem? (i := 1211) (by decide +kernel)⟩
theorem lw_p20 : lw_okq (⟨"TuneSchoolModel", "lay", "(I)V"⟩, 71) := ⟨⟨by decide +kernel, by decide +kernel⟩, List.mem_of_getElem? (i := 947) (by decide +kernel), List.mem_of_getElem? (i := 1214) (by decide +kernel), List.mem_of_getElem? (i := 1215) (by decide +kernel)⟩
theorem lw_p21 : lw_okq (⟨"TuneSchoolModel", "lengthAt", "(II)I"⟩, 71) := ⟨⟨by decide +kernel, by decide +kernel⟩, List.mem_of_getElem? (i := 947) (by decide +kernel), List.mem_of_getElem? (i := 1218) (by decide +kernel), List.mem_of_getElem? (i := 1219) (by decide +kernel)⟩
theorem lw_p22 : lw_okq (⟨"TuneSchoolModel", "pitchAt", "(II)I"⟩, 71) := ⟨⟨by decide +kernel, by decide +kernel⟩, List.mem_of_getElem? (i := 947) (by decide +kernel), List.mem_of_getElem? (i := 1222) (by decide +kernel), List.mem_of_getElem? (i := 1223) (by decide +kernel)⟩
theorem lw_p23 : lw_okq (⟨"TuneSchoolModel", "soundAt", "(II)I"⟩, 71) := ⟨⟨by decide +kernel, by decide +kernel⟩, List.mem_of_getElem? (i := 947) (by decide +kernel), List.mem_of_getElem? (i := 1230) (by decide +kernel), List.mem_of_getElem? (i := 1231) (by decide +kernel)⟩
theorem lw_p24 : lw_okq (⟨"TuneSchoolModel", "copyRow", "(IIIIII)Z"⟩, 71) := ⟨⟨by decide +kernel, by decide +kernel⟩, List.mem_of_getElem? (i := 947) (by decide +kernel), List.mem_of_getElem? (i := 1242) (by decide +kernel), List.mem_of_getElem? (i := 1243) (by decide +kernel)⟩
theorem lw_p25 : lw_okq (⟨"TuneSchoolModel", "isOf", "(II)Z"⟩, 71) := ⟨⟨by decide +kernel, by decide +kernel⟩, List.mem_of_getElem? (i := 947) (by decide +kernel), List.mem_of_getElem? (i := 1269) (by decide +kernel), List.mem_of_getElem? (i := 1270) (by decide +kernel)⟩
theorem lw_p26 : lw_okq (⟨"TuneSchoolModel", "told", "([ZIZ)I"⟩, 71) := ⟨⟨by decide +kernel, by decide +kernel⟩, List.mem_of_getElem? (i := 947) (by decide +kernel), List.mem_of_getElem? (i := 1273) (by decide +kernel), List.mem_of_getElem? (i := 1274) (by decide +kernel)⟩
theorem lw_p27 : lw_okq (⟨"TuneSchoolModel", "beginTrace", "()V"⟩, 71) := ⟨⟨by decide +kernel, by decide +kernel⟩, List.mem_of_getElem? (i := 947) (by decide +kernel), List.mem_of_getElem? (i := 1305) (by decide +kernel), List.mem_of_getElem? (i := 1306) (by decide +kernel)⟩
theorem lw_p28 : lw_okq (⟨"TuneSchoolModel", "pair", "(II)V"⟩, 71) := ⟨⟨by decide +kernel, by decide +kernel⟩, List.mem_of_getElem? (i := 947) (by decide +kernel), List.mem_of_getElem? (i := 1309) (by decide +kernel), List.mem_of_getElem? (i := 1310) (by decide +kernel)⟩
theorem lw_p29 : lw_okq (⟨"TuneSchoolModel", "look", "(IIII)V"⟩, 71) := ⟨⟨by decide +kernel, by decide +kernel⟩, List.mem_of_getElem? (i := 947) (by decide +kernel), List.mem_of_getElem? (i := 1313) (by decide +kernel), List.mem_of_getElem? (i := 1314) (by decide +kernel)⟩
theorem lw_p30 : lw_okq (⟨"TuneSchoolModel", "askedAt", "(I)I"⟩, 71) := ⟨⟨by decide +kernel, by decide +kernel⟩, List.mem_of_getElem? (i := 947) (by decide +kernel), List.mem_of_getElem? (i := 1317) (by decide +kernel), List.mem_of_getElem? (i := 1318) (by decide +kernel)⟩
theorem lw_p31 : lw_okq (⟨"TuneSchoolModel", "ruleAt", "(II)I"⟩, 71) := ⟨⟨by decide +kernel, by decide +kernel⟩, List.mem_of_getElem? (i := 947) (by decide +kernel), List.mem_of_getElem? (i := 1321) (by decide +kernel), List.mem_of_getElem? (i := 1322) (by decide +kernel)⟩
def lw_privs_2 : List (MethodName × Nat) := [(⟨"TuneSchool", "placesTaken", "()I"⟩, 17), (⟨"TuneSchoolModel", "finds", "(I)I"⟩, 71), (⟨"TuneSchoolModel", "keep", "(I)V"⟩, 71), (⟨"TuneSchoolModel", "against", "(I)I"⟩, 71), (⟨"TuneSchoolModel", "lay", "(I)V"⟩, 71), (⟨"TuneSchoolModel", "lengthAt", "(II)I"⟩, 71), (⟨"TuneSchoolModel", "pitchAt", "(II)I"⟩, 71), (⟨"TuneSchoolModel", "soundAt", "(II)I"⟩, 71), (⟨"TuneSchoolModel", "copyRow", "(IIIIII)Z"⟩, 71), (⟨"TuneSchoolModel", "isOf", "(II)Z"⟩, 71), (⟨"TuneSchoolModel", "told", "([ZIZ)I"⟩, 71), (⟨"TuneSchoolModel", "beginTrace", "()V"⟩, 71), (⟨"TuneSchoolModel", "pair", "(II)V"⟩, 71), (⟨"TuneSchoolModel", "look", "(IIII)V"⟩, 71), (⟨"TuneSchoolModel", "askedAt", "(I)I"⟩, 71), (⟨"TuneSchoolModel", "ruleAt", "(II)I"⟩, 71)]
theorem lw_r2 : ∀ q ∈ lw_privs_2, lw_okq q := List.forall_mem_cons.mpr ⟨lw_p16, List.forall_mem_cons.mpr ⟨lw_p17, List.forall_mem_cons.mpr ⟨lw_p18, List.forall_mem_cons.mpr ⟨lw_p19, List.forall_mem_cons.mpr ⟨lw_p20, List.forall_mem_cons.mpr ⟨lw_p21, List.forall_mem_cons.mpr ⟨lw_p22, List.forall_mem_cons.mpr ⟨lw_p23, List.forall_mem_cons.mpr ⟨lw_p24, List.forall_mem_cons.mpr ⟨lw_p25, List.forall_mem_cons.mpr ⟨lw_p26, List.forall_mem_cons.mpr ⟨lw_p27, List.forall_mem_cons.mpr ⟨lw_p28, List.forall_mem_cons.mpr ⟨lw_p29, List.forall_mem_cons.mpr ⟨lw_p30, List.forall_mem_cons.mpr ⟨lw_p31, fun _ h => absurd h List.not_mem_nil⟩⟩⟩⟩⟩⟩⟩⟩⟩⟩⟩⟩⟩⟩⟩⟩
theorem lw_p32 : lw_okq (⟨"TuneSchoolModel", "asks", "(II)Z"⟩, 71) := ⟨⟨by decide +kernel, by decide +kernel⟩, List.mem_of_getElem? (i := 947) (by decide +kernel), List.mem_of_getElem? (i := 1325) (by decide +kernel), List.mem_of_getElem? (i := 1326) (by decide +kernel)⟩
theorem lw_p33 : lw_okq (⟨"TuneSchoolModel", "listens", "(I)Z"⟩, 71) := ⟨⟨by decide +kernel, by decide +kernel⟩, List.mem_of_getElem? (i := 947) (by decide +kernel), List.mem_of_getElem? (i := 1329) (by decide +kernel), List.mem_of_getElem? (i := 1330) (by decide +kernel)⟩
theorem lw_p34 : lw_okq (⟨"TuneSchoolModel", "tell", "(I)V"⟩, 71) := ⟨⟨by decide +kernel, by decide +kernel⟩, List.mem_of_getElem? (i := 947) (by decide +kernel), List.mem_of_getElem? (i := 1333) (by decide +kernel), List.mem_of_getElem? (i := 1334) (by decide +kernel)⟩
theorem lw_p35 : lw_okq (⟨"TuneSchoolModel", "hasFault", "(IIII)Z"⟩, 71) := ⟨⟨by decide +kernel, by decide +kernel⟩, List.mem_of_getElem? (i := 947) (by decide +kernel), List.mem_of_getElem? (i := 1337) (by decide +kernel), List.mem_of_getElem? (i := 1338) (by decide +kernel)⟩
theorem lw_p36 : lw_okq (⟨"TuneSchoolModel", "byInterval", "(IIII)Z"⟩, 71) := ⟨⟨by decide +kernel, by decide +kernel⟩, List.mem_of_getElem? (i := 947) (by decide +kernel), List.mem_of_getElem? (i := 1341) (by decide +kernel), List.mem_of_getElem? (i := 1342) (by decide +kernel)⟩
theorem lw_p37 : lw_okq (⟨"TuneSchoolModel", "byMotion", "(IIII)Z"⟩, 71) := ⟨⟨by decide +kernel, by decide +kernel⟩, List.mem_of_getElem? (i := 947) (by decide +kernel), List.mem_of_getElem? (i := 1348) (by decide +kernel), List.mem_of_getElem? (i := 1349) (by decide +kernel)⟩
theorem lw_p38 : lw_okq (⟨"TuneSchoolModel", "byLeap", "(III)Z"⟩, 71) := ⟨⟨by decide +kernel, by decide +kernel⟩, List.mem_of_getElem? (i := 947) (by decide +kernel), List.mem_of_getElem? (i := 1352) (by decide +kernel), List.mem_of_getElem? (i := 1353) (by decide +kernel)⟩
theorem lw_p39 : lw_okq (⟨"TuneSchoolModel", "byCadence", "(IIII)Z"⟩, 71) := ⟨⟨by decide +kernel, by decide +kernel⟩, List.mem_of_getElem? (i := 947) (by decide +kernel), List.mem_of_getElem? (i := 1356) (by decide +kernel), List.mem_of_getElem? (i := 1357) (by decide +kernel)⟩
theorem lw_p40 : lw_okq (⟨"TuneSchoolModel", "nearest", "(IIII)I"⟩, 71) := ⟨⟨by decide +kernel, by decide +kernel⟩, List.mem_of_getElem? (i := 947) (by decide +kernel), List.mem_of_getElem? (i := 1368) (by decide +kernel), List.mem_of_getElem? (i := 1369) (by decide +kernel)⟩
theorem lw_p41 : lw_okq (⟨"TuneSchoolModel", "againstCanon", "(II)I"⟩, 71) := ⟨⟨by decide +kernel, by decide +kernel⟩, List.mem_of_getElem? (i := 947) (by decide +kernel), List.mem_of_getElem? (i := 1376) (by decide +kernel), List.mem_of_getElem? (i := 1377) (by decide +kernel)⟩
theorem lw_p42 : lw_okq (⟨"TuneSchoolModel", "firstFault", "(IIIII)I"⟩, 71) := ⟨⟨by decide +kernel, by decide +kernel⟩, List.mem_of_getElem? (i := 947) (by decide +kernel), List.mem_of_getElem? (i := 1380) (by decide +kernel), List.mem_of_getElem? (i := 1381) (by decide +kernel)⟩
theorem lw_p43 : lw_okq (⟨"TuneSchoolModel", "followed", "(IIIII)I"⟩, 71) := ⟨⟨by decide +kernel, by decide +kernel⟩, List.mem_of_getElem? (i := 947) (by decide +kernel), List.mem_of_getElem? (i := 1384) (by decide +kernel), List.mem_of_getElem? (i := 1385) (by decide +kernel)⟩
theorem lw_p44 : lw_okq (⟨"TuneSchoolModel", "goesOn", "(I)I"⟩, 71) := ⟨⟨by decide +kernel, by decide +kernel⟩, List.mem_of_getElem? (i := 947) (by decide +kernel), List.mem_of_getElem? (i := 1400) (by decide +kernel), List.mem_of_getElem? (i := 1401) (by decide +kernel)⟩
theorem lw_p45 : lw_okq (⟨"TuneSchoolModel", "laySetting", "()V"⟩, 71) := ⟨⟨by decide +kernel, by decide +kernel⟩, List.mem_of_getElem? (i := 947) (by decide +kernel), List.mem_of_getElem? (i := 1404) (by decide +kernel), List.mem_of_getElem? (i := 1405) (by decide +kernel)⟩
theorem lw_p46 : lw_okq (⟨"TuneSchoolModel", "work", "(I)V"⟩, 71) := ⟨⟨by decide +kernel, by decide +kernel⟩, List.mem_of_getElem? (i := 947) (by decide +kernel), List.mem_of_getElem? (i := 1408) (by decide +kernel), List.mem_of_getElem? (i := 1409) (by decide +kernel)⟩
theorem lw_p47 : lw_okq (⟨"TuneSchoolModel", "isHeard", "(I)Z"⟩, 71) := ⟨⟨by decide +kernel, by decide +kernel⟩, List.mem_of_getElem? (i := 947) (by decide +kernel), List.mem_of_getElem? (i := 1412) (by decide +kernel), List.mem_of_getElem? (i := 1413) (by decide +kernel)⟩
def lw_privs_3 : List (MethodName × Nat) := [(⟨"TuneSchoolModel", "asks", "(II)Z"⟩, 71), (⟨"TuneSchoolModel", "listens", "(I)Z"⟩, 71), (⟨"TuneSchoolModel", "tell", "(I)V"⟩, 71), (⟨"TuneSchoolModel", "hasFault", "(IIII)Z"⟩, 71), (⟨"TuneSchoolModel", "byInterval", "(IIII)Z"⟩, 71), (⟨"TuneSchoolModel", "byMotion", "(IIII)Z"⟩, 71), (⟨"TuneSchoolModel", "byLeap", "(III)Z"⟩, 71), (⟨"TuneSchoolModel", "byCadence", "(IIII)Z"⟩, 71), (⟨"TuneSchoolModel", "nearest", "(IIII)I"⟩, 71), (⟨"TuneSchoolModel", "againstCanon", "(II)I"⟩, 71), (⟨"TuneSchoolModel", "firstFault", "(IIIII)I"⟩, 71), (⟨"TuneSchoolModel", "followed", "(IIIII)I"⟩, 71), (⟨"TuneSchoolModel", "goesOn", "(I)I"⟩, 71), (⟨"TuneSchoolModel", "laySetting", "()V"⟩, 71), (⟨"TuneSchoolModel", "work", "(I)V"⟩, 71), (⟨"TuneSchoolModel", "isHeard", "(I)Z"⟩, 71)]
theorem lw_r3 : ∀ q ∈ lw_privs_3, lw_okq q := List.forall_mem_cons.mpr ⟨lw_p32, List.forall_mem_cons.mpr ⟨lw_p33, List.forall_mem_cons.mpr ⟨lw_p34, List.forall_mem_cons.mpr ⟨lw_p35, List.forall_mem_cons.mpr ⟨lw_p36, List.forall_mem_cons.mpr ⟨lw_p37, List.forall_mem_cons.mpr ⟨lw_p38, List.forall_mem_cons.mpr ⟨lw_p39, List.forall_mem_cons.mpr ⟨lw_p40, List.forall_mem_cons.mpr ⟨lw_p41, List.forall_mem_cons.mpr ⟨lw_p42, List.forall_mem_cons.mpr ⟨lw_p43, List.forall_mem_cons.mpr ⟨lw_p44, List.forall_mem_cons.mpr ⟨lw_p45, List.forall_mem_cons.mpr ⟨lw_p46, List.forall_mem_cons.mpr ⟨lw_p47, fun _ h => absurd h List.not_mem_nil⟩⟩⟩⟩⟩⟩⟩⟩⟩⟩⟩⟩⟩⟩⟩⟩
theorem lw_p48 : lw_okq (⟨"TuneSchoolModel", "fit", "(I)V"⟩, 71) := ⟨⟨by decide +kernel, by decide +kernel⟩, List.mem_of_getElem? (i := 947) (by decide +kernel), List.mem_of_getElem? (i := 1416) (by decide +kernel), List.mem_of_getElem? (i := 1417) (by decide +kernel)⟩
theorem lw_p49 : lw_okq (⟨"TuneSchoolModel", "nextHeard", "(I)I"⟩, 71) := ⟨⟨by decide +kernel, by decide +kernel⟩, List.mem_of_getElem? (i := 947) (by decide +kernel), List.mem_of_getElem? (i := 1420) (by decide +kernel), List.mem_of_getElem? (i := 1421) (by decide +kernel)⟩
theorem lw_p50 : lw_okq (⟨"TuneSchoolModel", "isJoined", "(II)Z"⟩, 71) := ⟨⟨by decide +kernel, by decide +kernel⟩, List.mem_of_getElem? (i := 947) (by decide +kernel), List.mem_of_getElem? (i := 1424) (by decide +kernel), List.mem_of_getElem? (i := 1425) (by decide +kernel)⟩
theorem lw_p51 : lw_okq (⟨"TuneSchoolModel", "fits", "(III)Z"⟩, 71) := ⟨⟨by decide +kernel, by decide +kernel⟩, List.mem_of_getElem? (i := 947) (by decide +kernel), List.mem_of_getElem? (i := 1428) (by decide +kernel), List.mem_of_getElem? (i := 1429) (by decide +kernel)⟩
theorem lw_p52 : lw_okq (⟨"TuneSchoolModel", "reckon", "(III)V"⟩, 71) := ⟨⟨by decide +kernel, by decide +kernel⟩, List.mem_of_getElem? (i := 947) (by decide +kernel), List.mem_of_getElem? (i := 1432) (by decide +kernel), List.mem_of_getElem? (i := 1433) (by decide +kernel)⟩
theorem lw_p53 : lw_okq (⟨"TuneSchoolModel", "dueBehind", "(III)I"⟩, 71) := ⟨⟨by decide +kernel, by decide +kernel⟩, List.mem_of_getElem? (i := 947) (by decide +kernel), List.mem_of_getElem? (i := 1437) (by decide +kernel), List.mem_of_getElem? (i := 1438) (by decide +kernel)⟩
theorem lw_p54 : lw_okq (⟨"TuneSchoolModel", "mustAnswer", "(I)Z"⟩, 71) := ⟨⟨by decide +kernel, by decide +kernel⟩, List.mem_of_getElem? (i := 947) (by decide +kernel), List.mem_of_getElem? (i := 1441) (by decide +kernel), List.mem_of_getElem? (i := 1442) (by decide +kernel)⟩
theorem lw_p55 : lw_okq (⟨"TuneSchoolModel", "step", "(II)I"⟩, 71) := ⟨⟨by decide +kernel, by decide +kernel⟩, List.mem_of_getElem? (i := 947) (by decide +kernel), List.mem_of_getElem? (i := 1445) (by decide +kernel), List.mem_of_getElem? (i := 1446) (by decide +kernel)⟩
theorem lw_p56 : lw_okq (⟨"TuneSchoolModel", "at", "(III)I"⟩, 71) := ⟨⟨by decide +kernel, by decide +kernel⟩, List.mem_of_getElem? (i := 947) (by decide +kernel), List.mem_of_getElem? (i := 1449) (by decide +kernel), List.mem_of_getElem? (i := 1450) (by decide +kernel)⟩
theorem lw_p57 : lw_okq (⟨"TuneSchoolModel", "finish", "()V"⟩, 71) := ⟨⟨by decide +kernel, by decide +kernel⟩, List.mem_of_getElem? (i := 947) (by decide +kernel), List.mem_of_getElem? (i := 1454) (by decide +kernel), List.mem_of_getElem? (i := 1455) (by decide +kernel)⟩
theorem lw_p58 : lw_okq (⟨"TuneSchoolModel", "reckonTune", "()V"⟩, 71) := ⟨⟨by decide +kernel, by decide +kernel⟩, List.mem_of_getElem? (i := 947) (by decide +kernel), List.mem_of_getElem? (i := 1458) (by decide +kernel), List.mem_of_getElem? (i := 1459) (by decide +kernel)⟩
theorem lw_p59 : lw_okq (⟨"TuneSchoolModel", "hasLeast", "(I)Z"⟩, 71) := ⟨⟨by decide +kernel, by decide +kernel⟩, List.mem_of_getElem? (i := 947) (by decide +kernel), List.mem_of_getElem? (i := 1478) (by decide +kernel), List.mem_of_getElem? (i := 1479) (by decide +kernel)⟩
theorem lw_p60 : lw_okq (⟨"TuneSchoolModel", "say", "(I)V"⟩, 71) := ⟨⟨by decide +kernel, by decide +kernel⟩, List.mem_of_getElem? (i := 947) (by decide +kernel), List.mem_of_getElem? (i := 1494) (by decide +kernel), List.mem_of_getElem? (i := 1495) (by decide +kernel)⟩
theorem lw_p61 : lw_okq (⟨"TuneSchoolModel", "wrongIn", "()I"⟩, 71) := ⟨⟨by decide +kernel, by decide +kernel⟩, List.mem_of_getElem? (i := 947) (by decide +kernel), List.mem_of_getElem? (i := 1502) (by decide +kernel), List.mem_of_getElem? (i := 1503) (by decide +kernel)⟩
theorem lw_p62 : lw_okq (⟨"TuneSchoolModel", "charAt", "(I)I"⟩, 71) := ⟨⟨by decide +kernel, by decide +kernel⟩, List.mem_of_getElem? (i := 947) (by decide +kernel), List.mem_of_getElem? (i := 1506) (by decide +kernel), List.mem_of_getElem? (i := 1507) (by decide +kernel)⟩
def lw_privs_4 : List (MethodName × Nat) := [(⟨"TuneSchoolModel", "fit", "(I)V"⟩, 71), (⟨"TuneSchoolModel", "nextHeard", "(I)I"⟩, 71), (⟨"TuneSchoolModel", "isJoined", "(II)Z"⟩, 71), (⟨"TuneSchoolModel", "fits", "(III)Z"⟩, 71), (⟨"TuneSchoolModel", "reckon", "(III)V"⟩, 71), (⟨"TuneSchoolModel", "dueBehind", "(III)I"⟩, 71), (⟨"TuneSchoolModel", "mustAnswer", "(I)Z"⟩, 71), (⟨"TuneSchoolModel", "step", "(II)I"⟩, 71), (⟨"TuneSchoolModel", "at", "(III)I"⟩, 71), (⟨"TuneSchoolModel", "finish", "()V"⟩, 71), (⟨"TuneSchoolModel", "reckonTune", "()V"⟩, 71), (⟨"TuneSchoolModel", "hasLeast", "(I)Z"⟩, 71), (⟨"TuneSchoolModel", "say", "(I)V"⟩, 71), (⟨"TuneSchoolModel", "wrongIn", "()I"⟩, 71), (⟨"TuneSchoolModel", "charAt", "(I)I"⟩, 71)]
theorem lw_r4 : ∀ q ∈ lw_privs_4, lw_okq q := List.forall_mem_cons.mpr ⟨lw_p48, List.forall_mem_cons.mpr ⟨lw_p49, List.forall_mem_cons.mpr ⟨lw_p50, List.forall_mem_cons.mpr ⟨lw_p51, List.forall_mem_cons.mpr ⟨lw_p52, List.forall_mem_cons.mpr ⟨lw_p53, List.forall_mem_cons.mpr ⟨lw_p54, List.forall_mem_cons.mpr ⟨lw_p55, List.forall_mem_cons.mpr ⟨lw_p56, List.forall_mem_cons.mpr ⟨lw_p57, List.forall_mem_cons.mpr ⟨lw_p58, List.forall_mem_cons.mpr ⟨lw_p59, List.forall_mem_cons.mpr ⟨lw_p60, List.forall_mem_cons.mpr ⟨lw_p61, List.forall_mem_cons.mpr ⟨lw_p62, fun _ h => absurd h List.not_mem_nil⟩⟩⟩⟩⟩⟩⟩⟩⟩⟩⟩⟩⟩⟩⟩
def lw_privs : List (MethodName × Nat) := lw_privs_1 ++ (lw_privs_2 ++ (lw_privs_3 ++ (lw_privs_4)))
def lw_tbl : List Cond := k2_sels lw_privs ++ tables_1
theorem lw_privs_ok : ∀ q ∈ lw_privs, lw_okq q := by
  show ∀ q ∈ lw_privs_1 ++ (lw_privs_2 ++ (lw_privs_3 ++ (lw_privs_4))), lw_okq q
  exact List.forall_mem_append.mpr ⟨lw_r1, List.forall_mem_append.mpr ⟨lw_r2, List.forall_mem_append.mpr ⟨lw_r3, lw_r4⟩⟩⟩
-- ===== end of PART A; then your names; then what follows =====
/-! THE CLAIM OUT OF ONE WALK OF THE LAW'S BODY. Your part is whole_start (and what it stands on); all else here is the same for every law, but numbers. -/
def R_law : String := "TuneSchoolLaw"
def lw_P (b : Addr) (xs : List Int32) (args : Array Value) (s : State) : Prop := args = #[.ref b] ∧ s.IntsAt b xs ∧ xs.length ≤ 8 ∧ (Jvm.Cond.and given_1 narrow_1).before args s = true
def lw_Q (_ : Array Value) (s : State) (o : Outcome) (t : State) : Prop := o = .returned (some (.int 1)) ∧ Framed s o t [] 600000 7302250
def lw_Z (below : List Frame) (a : Array Value) (s : State) : State → Prop := fun t => ∃ o, t.status = .running ∧ Ended t below o ∧ lw_Q a s o t
/-- the law's own end, with 1 on the stack, nothing written that was there before, its room as the claim has it -/
theorem lw_ret {p : Program} {l : Launch} {e : Env} {s : State} {m : MethodId} {below : List Frame} {meth : Method} {c : Code} {b : Nat} (hx : p.tables.exec = Jvm.exec) (hb : c.code = code) (hr : meth.sig.returnType = ret) (hlocks : meth.locks = false) {pc : Nat} {H : Heap} {ls : Array Slot} (hdg : decode code pc = .ok (.ireturn, 1)) : W p l e room_1 s m #[Value.ref b] below meth c H [] 600000 7302250 (lw_Z below #[Value.ref b] s) (F0 m pc ls [.int 1]) := by
  intro T hT X
  obtain ⟨fs, hret, hrun, hended, hW, hframe⟩ := X.leave (v := some (.int 1)) (hlocks := hlocks) (fun h => by rw [hr] at h; cases h)
  have hmeth' : T.vm.method? m = some meth := X.method'
  refine ⟨T.setFrames fs, ?_, .returned (some (.int 1)), hrun, hended, rfl, ⟨_, rfl⟩, hW, hframe⟩
  jvm_step X.here [X.here.top, hx, hb, hdg, hmeth', hr, ret, narrow_b1]
  (try refine ⟨rfl, ?_⟩); (try refine ⟨rfl, ?_⟩)
  first | (intro acts; rw [hret _ acts rfl rfl rfl]) | rw [hret _ _ rfl rfl rfl]
  exact Steps.refl _
/-- what holds at the law's entry: the machine, the code, the tables' words (any of lw_tbl by 'hts w (by decide +kernel)'), the script of L ints xs at the cell b, what the Statement gives of the start (any of its parts by flat_of_before) -/
def lw_At (p : Program) (s : State) (m : MethodId) (meth : Method) (c : Code) (b L : Nat) (xs : Nat → Int32) : Prop :=
  p.tables.exec = Jvm.exec ∧ c.code = code ∧ meth.sig.returnType = ret ∧ c.maxLocals = 4 ∧ s.vm.findClass R_law = some m.cls ∧ (∀ w ∈ lw_tbl, w.before #[Value.ref b] s = true) ∧ va_X b L xs s s.heap ∧ b < s.heap.size ∧ meth.locks = false ∧ (Jvm.Cond.and given_1 narrow_1).before #[Value.ref b] s = true
end
section
def RX0 : String := "TuneSchool$Cadence"
def TX0 : u_T := fun k => match k with
  | _ => ("TuneSchool$Rule", "truths", "[J", true)
def tyX0 : Nat → FieldType := fun k => match k with
  | _ => .array .long
abbrev wsX00 : List Cond := u_ws RX0 TX0 1
theorem nmX0 : ∀ a, a < 1 → ∀ b, b < 1 → a ≠ b → (TX0 a).2.1 ≠ (TX0 b).2.1 := by decide +kernel
theorem tyX0_ok : ∀ k, k < 1 → parseFieldDescriptor (TX0 k).2.2.1 = some (tyX0 k) := by decide +kernel
abbrev cX0_init : ByteArray := prog_2_method_1_code
def yX0_init : MethodName := ⟨RX0, "<init>", "()V"⟩
abbrev cX0_kind : ByteArray := prog_2_method_2_code
def yX0_kind : MethodName := ⟨RX0, "kind", "()I"⟩
abbrev cX0_tells : ByteArray := prog_2_method_3_code
def yX0_tells : MethodName := ⟨RX0, "tells", "(LTuneSchool$Moment;)Z"⟩
abbrev cX0_mends : ByteArray := prog_2_method_4_code
def yX0_mends : MethodName := ⟨RX0, "mends", "(LTuneSchool$Moment;)I"⟩
def RX1 : String := "TuneSchool$Desk"
def TX1 : u_T := fun k => match k with
  | 0 => ("TuneSchool$Desk", "m", "LTuneSchool$Moment;", true)
  | 1 => ("TuneSchool$Desk", "weights", "[I", true)
  | 2 => ("TuneSchool$Desk", "keys", "I", false)
  | 3 => ("TuneSchool$Desk", "begun", "Z", false)
  | 4 => ("TuneSchool$Desk", "ended", "Z", false)
  | 5 => ("TuneSchool$Desk", "target", "I", false)
  | 6 => ("TuneSchool$Desk", "place", "I", false)
  | 7 => ("TuneSchool$Desk", "above", "Z", false)
  | 8 => ("TuneSchool$Desk", "low", "I", false)
  | 9 => ("TuneSchool$Desk", "high", "I", false)
  | 10 => ("TuneSchool$Desk", "done", "I", false)
  | 11 => ("TuneSchool$Desk", "lastHeardTick", "I", false)
  | 12 => ("TuneSchool$Desk", "given", "LTuneSchool$Voice;", true)
  | 13 => ("TuneSchool$Desk", "begins", "[I", true)
  | 14 => ("TuneSchool$Desk", "leasts", "[I", true)
  | 15 => ("TuneSchool$Desk", "choices", "[I", true)
  | _ => ("TuneSchool$Desk", "tunesFrom", "[I", true)
def tyX1 : Nat → FieldType := fun k => match k with
  | 0 => .object "TuneSchool$Moment"
  | 1 => .array .int
  | 2 => .int
  | 3 => .boolean
  | 4 => .boolean
  | 5 => .int
  | 6 => .int
  | 7 => .boolean
  | 8 => .int
  | 9 => .int
  | 10 => .int
  | 11 => .int
  | 12 => .object "TuneSchool$Voice"
  | 13 => .array .int
  | 14 => .array .int
  | 15 => .array .int
  | _ => .array .int
abbrev wsX10 : List Cond := u_ws RX1 TX1 17
theorem nmX1 : ∀ a, a < 17 → ∀ b, b < 17 → a ≠ b → (TX1 a).2.1 ≠ (TX1 b).2.1 := by decide +kernel
theorem tyX1_ok : ∀ k, k < 17 → parseFieldDescriptor (TX1 k).2.2.1 = some (tyX1 k) := by decide +kernel
abbrev cX1_init : ByteArray := prog_3_method_1_code
def yX1_init : MethodName := ⟨RX1, "<init>", "(LTuneSchool$Moment;)V"⟩
abbrev cX1_begin : ByteArray := prog_3_method_2_code
def yX1_begin : MethodName := ⟨RX1, "begin", "(LTuneSchool$Voice;ZII)V"⟩
abbrev cX1_notes : ByteArray := prog_3_method_3_code
def yX1_notes : MethodName := ⟨RX1, "notes", "()I"⟩
abbrev cX1_left : ByteArray := prog_3_method_4_code
def yX1_left : MethodName := ⟨RX1, "left", "()I"⟩
abbrev cX1_isWorked : ByteArray := prog_3_method_5_code
def yX1_isWorked : MethodName := ⟨RX1, "isWorked", "()Z"⟩
abbrev cX1_isHeard : ByteArray := prog_3_method_6_code
def yX1_isHeard : MethodName := ⟨RX1, "isHeard", "(I)Z"⟩
abbrev cX1_takes : ByteArray := prog_3_method_7_code
def yX1_takes : MethodName := ⟨RX1, "takes", "(II)Z"⟩
abbrev cX1_hasWorked : ByteArray := prog_3_method_8_code
def yX1_hasWorked : MethodName := ⟨RX1, "hasWorked", "(I)Z"⟩
abbrev cX1_cell : ByteArray := prog_3_method_9_code
def yX1_cell : MethodName := ⟨RX1, "cell", "(III)I"⟩
abbrev cX1_tuneWeight : ByteArray := prog_3_method_10_code
def yX1_tuneWeight : MethodName := ⟨RX1, "tuneWeight", "()I"⟩
abbrev cX1_hasTune : ByteArray := prog_3_method_11_code
def yX1_hasTune : MethodName := ⟨RX1, "hasTune", "()Z"⟩
abbrev cX1_tunes : ByteArray := prog_3_method_12_code
def yX1_tunes : MethodName := ⟨RX1, "tunes", "()I"⟩
abbrev cX1_nextHeard : ByteArray := prog_3_method_13_code
def yX1_nextHeard : MethodName := ⟨RX1, "nextHeard", "(I)I"⟩
abbrev cX1_takeStep : ByteArray := prog_3_method_14_code
def yX1_takeStep : MethodName := ⟨RX1, "takeStep", "()V"⟩
abbrev cX1_takeFresh : ByteArray := prog_3_method_15_code
def yX1_takeFresh : MethodName := ⟨RX1, "takeFresh", "(I)V"⟩
abbrev cX1_work : ByteArray := prog_3_method_16_code
def yX1_work : MethodName := ⟨RX1, "work", "(ILTuneSchool$Standing;)V"⟩
abbrev cX1_isAllowed : ByteArray := prog_3_method_17_code
def yX1_isAllowed : MethodName := ⟨RX1, "isAllowed", "(II)Z"⟩
abbrev cX1_refuses : ByteArray := prog_3_method_18_code
def yX1_refuses : MethodName := ⟨RX1, "refuses", "(LTuneSchool$Standing;IIII)Z"⟩
abbrev cX1_openFresh : ByteArray := prog_3_method_19_code
def yX1_openFresh : MethodName := ⟨RX1, "openFresh", "(IZ)V"⟩
abbrev cX1_offer : ByteArray := prog_3_method_20_code
def yX1_offer : MethodName := ⟨RX1, "offer", "(LTuneSchool$Standing;IZII)V"⟩
abbrev cX1_closeFresh : ByteArray := prog_3_method_21_code
def yX1_closeFresh : MethodName := ⟨RX1, "closeFresh", "(II)V"⟩
abbrev cX1_weightBetween : ByteArray := prog_3_method_22_code
def yX1_weightBetween : MethodName := ⟨RX1, "weightBetween", "(II)I"⟩
abbrev cX1_mayCome : ByteArray := prog_3_method_23_code
def yX1_mayCome : MethodName := ⟨RX1, "mayCome", "(III)Z"⟩
abbrev cX1_dueBehind : ByteArray := prog_3_method_24_code
def yX1_dueBehind : MethodName := ⟨RX1, "dueBehind", "(LTuneSchool$Standing;II)I"⟩
abbrev cX1_isAsTold : ByteArray := prog_3_method_25_code
def yX1_isAsTold : MethodName := ⟨RX1, "isAsTold", "(LTuneSchool$Standing;)Z"⟩
abbrev cX1_write : ByteArray := prog_3_method_26_code
def yX1_write : MethodName := ⟨RX1, "write", "(LTuneSchool$Voice;)V"⟩
def RX2 : String := "TuneSchool$Interval"
def TX2 : u_T := fun k => match k with
  | _ => ("TuneSchool$Rule", "truths", "[J", true)
def tyX2 : Nat → FieldType := fun k => match k with
  | _ => .array .long
abbrev wsX20 : List Cond := u_ws RX2 TX2 1
theorem nmX2 : ∀ a, a < 1 → ∀ b, b < 1 → a ≠ b → (TX2 a).2.1 ≠ (TX2 b).2.1 := by decide +kernel
theorem tyX2_ok : ∀ k, k < 1 → parseFieldDescriptor (TX2 k).2.2.1 = some (tyX2 k) := by decide +kernel
abbrev cX2_init : ByteArray := prog_4_method_1_code
def yX2_init : MethodName := ⟨RX2, "<init>", "()V"⟩
abbrev cX2_kind : ByteArray := prog_4_method_2_code
def yX2_kind : MethodName := ⟨RX2, "kind", "()I"⟩
abbrev cX2_tells : ByteArray := prog_4_method_3_code
def yX2_tells : MethodName := ⟨RX2, "tells", "(LTuneSchool$Moment;)Z"⟩
abbrev cX2_mends : ByteArray := prog_4_method_4_code
def yX2_mends : MethodName := ⟨RX2, "mends", "(LTuneSchool$Moment;)I"⟩
def RX3 : String := "TuneSchool$Leap"
def TX3 : u_T := fun k => match k with
  | _ => ("TuneSchool$Rule", "truths", "[J", true)
def tyX3 : Nat → FieldType := fun k => match k with
  | _ => .array .long
abbrev wsX30 : List Cond := u_ws RX3 TX3 1
theorem nmX3 : ∀ a, a < 1 → ∀ b, b < 1 → a ≠ b → (TX3 a).2.1 ≠ (TX3 b).2.1 := by decide +kernel
theorem tyX3_ok : ∀ k, k < 1 → parseFieldDescriptor (TX3 k).2.2.1 = some (tyX3 k) := by decide +kernel
abbrev cX3_init : ByteArray := prog_5_method_1_code
def yX3_init : MethodName := ⟨RX3, "<init>", "()V"⟩
abbrev cX3_kind : ByteArray := prog_5_method_2_code
def yX3_kind : MethodName := ⟨RX3, "kind", "()I"⟩
abbrev cX3_listens : ByteArray := prog_5_method_3_code
def yX3_listens : MethodName := ⟨RX3, "listens", "(LTuneSchool$Moment;)Z"⟩
abbrev cX3_tells : ByteArray := prog_5_method_4_code
def yX3_tells : MethodName := ⟨RX3, "tells", "(LTuneSchool$Moment;)Z"⟩
abbrev cX3_wantsAnswer : ByteArray := prog_5_method_5_code
def yX3_wantsAnswer : MethodName := ⟨RX3, "wantsAnswer", "(II)Z"⟩
def RX4 : String := "TuneSchool$Line"
def TX4 : u_T := fun k => match k with
  | 0 => ("TuneSchool$Line", "characters", "[I", true)
  | 1 => ("TuneSchool$Line", "length", "I", false)
  | _ => ("TuneSchool$Line", "at", "I", false)
def tyX4 : Nat → FieldType := fun k => match k with
  | 0 => .array .int
  | 1 => .int
  | _ => .int
abbrev wsX40 : List Cond := u_ws RX4 TX4 3
theorem nmX4 : ∀ a, a < 3 → ∀ b, b < 3 → a ≠ b → (TX4 a).2.1 ≠ (TX4 b).2.1 := by decide +kernel
theorem tyX4_ok : ∀ k, k < 3 → parseFieldDescriptor (TX4 k).2.2.1 = some (tyX4 k) := by decide +kernel
abbrev cX4_init : ByteArray := prog_6_method_1_code
def yX4_init : MethodName := ⟨RX4, "<init>", "()V"⟩
abbrev cX4_tell : ByteArray := prog_6_method_2_code
def yX4_tell : MethodName := ⟨RX4, "tell", "(LTuneSchool$Voice;)V"⟩
abbrev cX4_addPitch : ByteArray := prog_6_method_3_code
def yX4_addPitch : MethodName := ⟨RX4, "addPitch", "(I)V"⟩
abbrev cX4_add : ByteArray := prog_6_method_4_code
def yX4_add : MethodName := ⟨RX4, "add", "(I)V"⟩
abbrev cX4_wrongPlace : ByteArray := prog_6_method_5_code
def yX4_wrongPlace : MethodName := ⟨RX4, "wrongPlace", "(LTuneSchool$Voice;)I"⟩
abbrev cX4_here : ByteArray := prog_6_method_6_code
def yX4_here : MethodName := ⟨RX4, "here", "()I"⟩
abbrev cX4_takePitch : ByteArray := prog_6_method_7_code
def yX4_takePitch : MethodName := ⟨RX4, "takePitch", "()I"⟩
def RX5 : String := "TuneSchool$Moment"
def TX5 : u_T := fun k => match k with
  | 0 => ("TuneSchool$Moment", "numbers", "[I", true)
  | 1 => ("TuneSchool$Moment", "traced", "I", false)
  | 2 => ("TuneSchool$Moment", "open", "Z", false)
  | 3 => ("TuneSchool$Moment", "strongEach", "I", false)
  | 4 => ("TuneSchool$Moment", "tick", "I", false)
  | 5 => ("TuneSchool$Moment", "p", "I", false)
  | 6 => ("TuneSchool$Moment", "q", "I", false)
  | 7 => ("TuneSchool$Moment", "pBefore", "I", false)
  | 8 => ("TuneSchool$Moment", "qBefore", "I", false)
  | 9 => ("TuneSchool$Moment", "last", "Z", false)
  | _ => ("TuneSchool$Moment", "alone", "LTuneSchool$Voice;", false)
def tyX5 : Nat → FieldType := fun k => match k with
  | 0 => .array .int
  | 1 => .int
  | 2 => .boolean
  | 3 => .int
  | 4 => .int
  | 5 => .int
  | 6 => .int
  | 7 => .int
  | 8 => .int
  | 9 => .boolean
  | _ => .object "TuneSchool$Voice"
abbrev wsX50 : List Cond := u_ws RX5 TX5 11
theorem nmX5 : ∀ a, a < 11 → ∀ b, b < 11 → a ≠ b → (TX5 a).2.1 ≠ (TX5 b).2.1 := by decide +kernel
theorem tyX5_ok : ∀ k, k < 11 → parseFieldDescriptor (TX5 k).2.2.1 = some (tyX5 k) := by decide +kernel
abbrev cX5_init : ByteArray := prog_7_method_1_code
def yX5_init : MethodName := ⟨RX5, "<init>", "()V"⟩
abbrev cX5_openTrace : ByteArray := prog_7_method_2_code
def yX5_openTrace : MethodName := ⟨RX5, "openTrace", "()V"⟩
abbrev cX5_mark : ByteArray := prog_7_method_3_code
def yX5_mark : MethodName := ⟨RX5, "mark", "(I)V"⟩
abbrev cX5_stand : ByteArray := prog_7_method_4_code
def yX5_stand : MethodName := ⟨RX5, "stand", "(LTuneSchool$Voice;LTuneSchool$Voice;II)V"⟩
abbrev cX5_comeFrom : ByteArray := prog_7_method_5_code
def yX5_comeFrom : MethodName := ⟨RX5, "comeFrom", "(II)V"⟩
abbrev cX5_bothSound : ByteArray := prog_7_method_6_code
def yX5_bothSound : MethodName := ⟨RX5, "bothSound", "()Z"⟩
abbrev cX5_isStrong : ByteArray := prog_7_method_7_code
def yX5_isStrong : MethodName := ⟨RX5, "isStrong", "()Z"⟩
abbrev cX5_step : ByteArray := prog_7_method_8_code
def yX5_step : MethodName := ⟨RX5, "step", "()I"⟩
abbrev cX5_moved : ByteArray := prog_7_method_9_code
def yX5_moved : MethodName := ⟨RX5, "moved", "()Z"⟩
abbrev cX5_way : ByteArray := prog_7_method_10_code
def yX5_way : MethodName := ⟨RX5, "way", "()I"⟩
def RX6 : String := "TuneSchool$Motion"
def TX6 : u_T := fun k => match k with
  | _ => ("TuneSchool$Rule", "truths", "[J", true)
def tyX6 : Nat → FieldType := fun k => match k with
  | _ => .array .long
abbrev wsX60 : List Cond := u_ws RX6 TX6 1
theorem nmX6 : ∀ a, a < 1 → ∀ b, b < 1 → a ≠ b → (TX6 a).2.1 ≠ (TX6 b).2.1 := by decide +kernel
theorem tyX6_ok : ∀ k, k < 1 → parseFieldDescriptor (TX6 k).2.2.1 = some (tyX6 k) := by decide +kernel
abbrev cX6_init : ByteArray := prog_8_method_1_code
def yX6_init : MethodName := ⟨RX6, "<init>", "()V"⟩
abbrev cX6_kind : ByteArray := prog_8_method_2_code
def yX6_kind : MethodName := ⟨RX6, "kind", "()I"⟩
abbrev cX6_tells : ByteArray := prog_8_method_3_code
def yX6_tells : MethodName := ⟨RX6, "tells", "(LTuneSchool$Moment;)Z"⟩
def RX7 : String := "TuneSchool$Rule"
def TX7 : u_T := fun k => match k with
  | _ => ("", "", "", false)
def tyX7 : Nat → FieldType := fun k => match k with
  | _ => .int
abbrev wsX70 : List Cond := u_ws RX7 TX7 0
theorem nmX7 : ∀ a, a < 0 → ∀ b, b < 0 → a ≠ b → (TX7 a).2.1 ≠ (TX7 b).2.1 := by decide +kernel
theorem tyX7_ok : ∀ k, k < 0 → parseFieldDescriptor (TX7 k).2.2.1 = some (tyX7 k) := by decide +kernel
abbrev cX7_init : ByteArray := prog_9_method_1_code
def yX7_init : MethodName := ⟨RX7, "<init>", "()V"⟩
abbrev cX7_width : ByteArray := prog_9_method_4_code
def yX7_width : MethodName := ⟨RX7, "width", "()I"⟩
abbrev cX7_ruleAt : ByteArray := prog_9_method_5_code
def yX7_ruleAt : MethodName := ⟨RX7, "ruleAt", "(I)LTuneSchool$Rule;"⟩
abbrev cX7_holds : ByteArray := prog_9_method_6_code
def yX7_holds : MethodName := ⟨RX7, "holds", "(II)Z"⟩
abbrev cX7_change : ByteArray := prog_9_method_7_code
def yX7_change : MethodName := ⟨RX7, "change", "(IIZ)V"⟩
abbrev cX7_listens : ByteArray := prog_9_method_8_code
def yX7_listens : MethodName := ⟨RX7, "listens", "(LTuneSchool$Moment;)Z"⟩
abbrev cX7_mends : ByteArray := prog_9_method_9_code
def yX7_mends : MethodName := ⟨RX7, "mends", "(LTuneSchool$Moment;)I"⟩
def RX8 : String := "TuneSchool$School"
def TX8 : u_T := fun k => match k with
  | 0 => ("TuneSchool$School", "type", "I", true)
  | _ => ("TuneSchool$School", "seats", "[LTuneSchool$Rule;", true)
def tyX8 : Nat → FieldType := fun k => match k with
  | 0 => .int
  | _ => .array (.object "TuneSchool$Rule")
abbrev wsX80 : List Cond := u_ws RX8 TX8 2
theorem nmX8 : ∀ a, a < 2 → ∀ b, b < 2 → a ≠ b → (TX8 a).2.1 ≠ (TX8 b).2.1 := by decide +kernel
theorem tyX8_ok : ∀ k, k < 2 → parseFieldDescriptor (TX8 k).2.2.1 = some (tyX8 k) := by decide +kernel
abbrev cX8_init : ByteArray := prog_10_method_1_code
def yX8_init : MethodName := ⟨RX8, "<init>", "(II)V"⟩
abbrev cX8_width : ByteArray := prog_10_method_2_code
def yX8_width : MethodName := ⟨RX8, "width", "()I"⟩
abbrev cX8_ruleAt : ByteArray := prog_10_method_3_code
def yX8_ruleAt : MethodName := ⟨RX8, "ruleAt", "(I)LTuneSchool$Rule;"⟩
abbrev cX8_isFor : ByteArray := prog_10_method_4_code
def yX8_isFor : MethodName := ⟨RX8, "isFor", "(LTuneSchool$Standing;)Z"⟩
def RX9 : String := "TuneSchool$Standing"
def TX9 : u_T := fun k => match k with
  | _ => ("", "", "", false)
def tyX9 : Nat → FieldType := fun k => match k with
  | _ => .int
abbrev wsX90 : List Cond := u_ws RX9 TX9 0
theorem nmX9 : ∀ a, a < 0 → ∀ b, b < 0 → a ≠ b → (TX9 a).2.1 ≠ (TX9 b).2.1 := by decide +kernel
theorem tyX9_ok : ∀ k, k < 0 → parseFieldDescriptor (TX9 k).2.2.1 = some (tyX9 k) := by decide +kernel
abbrev cX9_init : ByteArray := prog_11_method_1_code
def yX9_init : MethodName := ⟨RX9, "<init>", "()V"⟩
def RX10 : String := "TuneSchool$Voice"
def TX10 : u_T := fun k => match k with
  | 0 => ("TuneSchool$Voice", "rows", "[[I", true)
  | 1 => ("TuneSchool$Voice", "sizes", "[I", true)
  | 2 => ("TuneSchool$Voice", "ticks", "[I", true)
  | 3 => ("TuneSchool$Voice", "behindAll", "I", false)
  | _ => ("TuneSchool$Voice", "there", "Z", false)
def tyX10 : Nat → FieldType := fun k => match k with
  | 0 => .array (.array .int)
  | 1 => .array .int
  | 2 => .array .int
  | 3 => .int
  | _ => .boolean
abbrev wsX100 : List Cond := u_ws RX10 TX10 5
theorem nmX10 : ∀ a, a < 5 → ∀ b, b < 5 → a ≠ b → (TX10 a).2.1 ≠ (TX10 b).2.1 := by decide +kernel
theorem tyX10_ok : ∀ k, k < 5 → parseFieldDescriptor (TX10 k).2.2.1 = some (tyX10 k) := by decide +kernel
abbrev cX10_init : ByteArray := prog_12_method_1_code
def yX10_init : MethodName := ⟨RX10, "<init>", "()V"⟩
abbrev cX10_renew : ByteArray := prog_12_method_2_code
def yX10_renew : MethodName := ⟨RX10, "renew", "(I)V"⟩
abbrev cX10_becomeAs : ByteArray := prog_12_method_3_code
def yX10_becomeAs : MethodName := ⟨RX10, "becomeAs", "(LTuneSchool$Voice;)V"⟩
abbrev cX10_has : ByteArray := prog_12_method_4_code
def yX10_has : MethodName := ⟨RX10, "has", "(II)Z"⟩
abbrev cX10_hasPart : ByteArray := prog_12_method_5_code
def yX10_hasPart : MethodName := ⟨RX10, "hasPart", "(III)Z"⟩
abbrev cX10_walk : ByteArray := prog_12_method_6_code
def yX10_walk : MethodName := ⟨RX10, "walk", "()Z"⟩
abbrev cX10_at : ByteArray := prog_12_method_7_code
def yX10_at : MethodName := ⟨RX10, "at", "(I)I"⟩
abbrev cX10_otherBehind : ByteArray := prog_12_method_8_code
def yX10_otherBehind : MethodName := ⟨RX10, "otherBehind", "(I)I"⟩
abbrev cX10_firstPitch : ByteArray := prog_12_method_9_code
def yX10_firstPitch : MethodName := ⟨RX10, "firstPitch", "()I"⟩
abbrev cX10_canShift : ByteArray := prog_12_method_10_code
def yX10_canShift : MethodName := ⟨RX10, "canShift", "(I)Z"⟩
abbrev cX10_shift : ByteArray := prog_12_method_11_code
def yX10_shift : MethodName := ⟨RX10, "shift", "(I)I"⟩
abbrev cX10_followed : ByteArray := prog_12_method_12_code
def yX10_followed : MethodName := ⟨RX10, "followed", "(IIII)I"⟩
abbrev cX10_follow : ByteArray := prog_12_method_13_code
def yX10_follow : MethodName := ⟨RX10, "follow", "(LTuneSchool$Voice;III)V"⟩
def RX11 : String := "TuneSchool"
def TX11 : u_T := fun k => match k with
  | 0 => ("TuneSchool", "voices", "[LTuneSchool$Voice;", true)
  | 1 => ("TuneSchool", "kept", "LTuneSchool$Voice;", true)
  | 2 => ("TuneSchool", "draft", "LTuneSchool$Voice;", true)
  | 3 => ("TuneSchool", "follower", "LTuneSchool$Voice;", true)
  | 4 => ("TuneSchool", "places", "[LTuneSchool$Standing;", true)
  | 5 => ("TuneSchool", "moment", "LTuneSchool$Moment;", true)
  | 6 => ("TuneSchool", "desk", "LTuneSchool$Desk;", true)
  | 7 => ("TuneSchool", "line", "LTuneSchool$Line;", true)
  | 8 => ("TuneSchool", "lasts", "[I", true)
  | 9 => ("TuneSchool", "faultRules", "[LTuneSchool$Rule;", true)
  | 10 => ("TuneSchool", "faultNumbers", "[I", true)
  | 11 => ("TuneSchool", "noted", "I", false)
  | 12 => ("TuneSchool", "faultsFound", "I", false)
  | 13 => ("TuneSchool", "keptNumber", "I", false)
  | 14 => ("TuneSchool", "latestFinding", "I", false)
  | 15 => ("TuneSchool", "findings", "I", false)
  | _ => ("TuneSchool", "rowsCopied", "I", false)
def tyX11 : Nat → FieldType := fun k => match k with
  | 0 => .array (.object "TuneSchool$Voice")
  | 1 => .object "TuneSchool$Voice"
  | 2 => .object "TuneSchool$Voice"
  | 3 => .object "TuneSchool$Voice"
  | 4 => .array (.object "TuneSchool$Standing")
  | 5 => .object "TuneSchool$Moment"
  | 6 => .object "TuneSchool$Desk"
  | 7 => .object "TuneSchool$Line"
  | 8 => .array .int
  | 9 => .array (.object "TuneSchool$Rule")
  | 10 => .array .int
  | 11 => .int
  | 12 => .int
  | 13 => .int
  | 14 => .int
  | 15 => .int
  | _ => .int
abbrev wsX110 : List Cond := u_ws RX11 TX11 17
theorem nmX11 : ∀ a, a < 17 → ∀ b, b < 17 → a ≠ b → (TX11 a).2.1 ≠ (TX11 b).2.1 := by decide +kernel
theorem tyX11_ok : ∀ k, k < 17 → parseFieldDescriptor (TX11 k).2.2.1 = some (tyX11 k) := by decide +kernel
abbrev cX11_init : ByteArray := prog_1_method_1_code
def yX11_init : MethodName := ⟨RX11, "<init>", "()V"⟩
abbrev cX11_voice : ByteArray := prog_1_method_2_code
def yX11_voice : MethodName := ⟨RX11, "voice", "(II)I"⟩
abbrev cX11_drop : ByteArray := prog_1_method_3_code
def yX11_drop : MethodName := ⟨RX11, "drop", "(I)I"⟩
abbrev cX11_note : ByteArray := prog_1_method_4_code
def yX11_note : MethodName := ⟨RX11, "note", "(IIII)I"⟩
abbrev cX11_cut : ByteArray := prog_1_method_5_code
def yX11_cut : MethodName := ⟨RX11, "cut", "(III)I"⟩
abbrev cX11_size : ByteArray := prog_1_method_6_code
def yX11_size : MethodName := ⟨RX11, "size", "(II)I"⟩
abbrev cX11_number : ByteArray := prog_1_method_7_code
def yX11_number : MethodName := ⟨RX11, "number", "(III)I"⟩
abbrev cX11_end : ByteArray := prog_1_method_8_code
def yX11_end : MethodName := ⟨RX11, "end", "(I)I"⟩
abbrev cX11_sounds : ByteArray := prog_1_method_9_code
def yX11_sounds : MethodName := ⟨RX11, "sounds", "(II)I"⟩
abbrev cX11_transpose : ByteArray := prog_1_method_10_code
def yX11_transpose : MethodName := ⟨RX11, "transpose", "(II)I"⟩
abbrev cX11_copy : ByteArray := prog_1_method_11_code
def yX11_copy : MethodName := ⟨RX11, "copy", "(IIIII)I"⟩
abbrev cX11_undo : ByteArray := prog_1_method_12_code
def yX11_undo : MethodName := ⟨RX11, "undo", "()I"⟩
abbrev cX11_rule : ByteArray := prog_1_method_13_code
def yX11_rule : MethodName := ⟨RX11, "rule", "(II)I"⟩
abbrev cX11_school : ByteArray := prog_1_method_14_code
def yX11_school : MethodName := ⟨RX11, "school", "(III)I"⟩
abbrev cX11_clear : ByteArray := prog_1_method_15_code
def yX11_clear : MethodName := ⟨RX11, "clear", "(I)I"⟩
abbrev cX11_truth : ByteArray := prog_1_method_16_code
def yX11_truth : MethodName := ⟨RX11, "truth", "(IIIZ)I"⟩
abbrev cX11_is : ByteArray := prog_1_method_17_code
def yX11_is : MethodName := ⟨RX11, "is", "(II)I"⟩
abbrev cX11_seat : ByteArray := prog_1_method_18_code
def yX11_seat : MethodName := ⟨RX11, "seat", "(III)I"⟩
abbrev cX11_seated : ByteArray := prog_1_method_19_code
def yX11_seated : MethodName := ⟨RX11, "seated", "(II)I"⟩
abbrev cX11_strong : ByteArray := prog_1_method_20_code
def yX11_strong : MethodName := ⟨RX11, "strong", "(I)I"⟩
abbrev cX11_key : ByteArray := prog_1_method_21_code
def yX11_key : MethodName := ⟨RX11, "key", "(I)I"⟩
abbrev cX11_weight : ByteArray := prog_1_method_22_code
def yX11_weight : MethodName := ⟨RX11, "weight", "(II)I"⟩
abbrev cX11_faults : ByteArray := prog_1_method_23_code
def yX11_faults : MethodName := ⟨RX11, "faults", "(I)I"⟩
abbrev cX11_fault : ByteArray := prog_1_method_24_code
def yX11_fault : MethodName := ⟨RX11, "fault", "(II)I"⟩
abbrev cX11_mend : ByteArray := prog_1_method_25_code
def yX11_mend : MethodName := ⟨RX11, "mend", "(I)I"⟩
abbrev cX11_canon : ByteArray := prog_1_method_26_code
def yX11_canon : MethodName := ⟨RX11, "canon", "(IIIII)I"⟩
abbrev cX11_canons : ByteArray := prog_1_method_27_code
def yX11_canons : MethodName := ⟨RX11, "canons", "(IIII)I"⟩
abbrev cX11_follows : ByteArray := prog_1_method_28_code
def yX11_follows : MethodName := ⟨RX11, "follows", "(IIIII)I"⟩
abbrev cX11_set : ByteArray := prog_1_method_29_code
def yX11_set : MethodName := ⟨RX11, "set", "(IIIZIII)I"⟩
abbrev cX11_goOn : ByteArray := prog_1_method_30_code
def yX11_goOn : MethodName := ⟨RX11, "goOn", "(I)I"⟩
abbrev cX11_least : ByteArray := prog_1_method_31_code
def yX11_least : MethodName := ⟨RX11, "least", "()I"⟩
abbrev cX11_many : ByteArray := prog_1_method_32_code
def yX11_many : MethodName := ⟨RX11, "many", "()I"⟩
abbrev cX11_row : ByteArray := prog_1_method_33_code
def yX11_row : MethodName := ⟨RX11, "row", "(III)I"⟩
abbrev cX11_spoil : ByteArray := prog_1_method_34_code
def yX11_spoil : MethodName := ⟨RX11, "spoil", "(IIII)I"⟩
abbrev cX11_check : ByteArray := prog_1_method_35_code
def yX11_check : MethodName := ⟨RX11, "check", "()I"⟩
abbrev cX11_print : ByteArray := prog_1_method_36_code
def yX11_print : MethodName := ⟨RX11, "print", "(I)I"⟩
abbrev cX11_read : ByteArray := prog_1_method_37_code
def yX11_read : MethodName := ⟨RX11, "read", "(I)I"⟩
abbrev cX11_put : ByteArray := prog_1_method_38_code
def yX11_put : MethodName := ⟨RX11, "put", "(II)I"⟩
abbrev cX11_cutLine : ByteArray := prog_1_method_39_code
def yX11_cutLine : MethodName := ⟨RX11, "cutLine", "(I)I"⟩
abbrev cX11_character : ByteArray := prog_1_method_40_code
def yX11_character : MethodName := ⟨RX11, "character", "(I)I"⟩
abbrev cX11_status : ByteArray := prog_1_method_41_code
def yX11_status : MethodName := ⟨RX11, "status", "()I"⟩
abbrev cX11_trace : ByteArray := prog_1_method_42_code
def yX11_trace : MethodName := ⟨RX11, "trace", "(I)I"⟩
abbrev cX11_count : ByteArray := prog_1_method_43_code
def yX11_count : MethodName := ⟨RX11, "count", "(I)I"⟩
abbrev cX11_isWithin : ByteArray := prog_1_method_44_code
def yX11_isWithin : MethodName := ⟨RX11, "isWithin", "(III)Z"⟩
abbrev cX11_isVoice : ByteArray := prog_1_method_45_code
def yX11_isVoice : MethodName := ⟨RX11, "isVoice", "(I)Z"⟩
abbrev cX11_isRow : ByteArray := prog_1_method_46_code
def yX11_isRow : MethodName := ⟨RX11, "isRow", "(I)Z"⟩
abbrev cX11_isPlace : ByteArray := prog_1_method_47_code
def yX11_isPlace : MethodName := ⟨RX11, "isPlace", "(I)Z"⟩
abbrev cX11_isFollower : ByteArray := prog_1_method_48_code
def yX11_isFollower : MethodName := ⟨RX11, "isFollower", "(III)Z"⟩
abbrev cX11_finding : ByteArray := prog_1_method_49_code
def yX11_finding : MethodName := ⟨RX11, "finding", "(I)I"⟩
abbrev cX11_fine : ByteArray := prog_1_method_50_code
def yX11_fine : MethodName := ⟨RX11, "fine", "(I)I"⟩
abbrev cX11_keep : ByteArray := prog_1_method_51_code
def yX11_keep : MethodName := ⟨RX11, "keep", "(I)V"⟩
abbrev cX11_goThrough : ByteArray := prog_1_method_52_code
def yX11_goThrough : MethodName := ⟨RX11, "goThrough", "(LTuneSchool$Voice;)I"⟩
abbrev cX11_voicesThere : ByteArray := prog_1_method_53_code
def yX11_voicesThere : MethodName := ⟨RX11, "voicesThere", "()I"⟩
abbrev cX11_placesTaken : ByteArray := prog_1_method_54_code
def yX11_placesTaken : MethodName := ⟨RX11, "placesTaken", "()I"⟩
abbrev cX11_newRule : ByteArray := prog_1_method_55_code
def yX11_newRule : MethodName := ⟨RX11, "newRule", "(I)LTuneSchool$Rule;"⟩
abbrev cX11_standsAs : ByteArray := prog_1_method_56_code
def yX11_standsAs : MethodName := ⟨RX11, "standsAs", "(LTuneSchool$Standing;I)Z"⟩
abbrev cX11_lastOfBoth : ByteArray := prog_1_method_57_code
def yX11_lastOfBoth : MethodName := ⟨RX11, "lastOfBoth", "(LTuneSchool$Voice;LTuneSchool$Voice;)I"⟩
abbrev cX11_findLasts : ByteArray := prog_1_method_58_code
def yX11_findLasts : MethodName := ⟨RX11, "findLasts", "()V"⟩
abbrev cX11_askPair : ByteArray := prog_1_method_59_code
def yX11_askPair : MethodName := ⟨RX11, "askPair", "(LTuneSchool$Standing;III)V"⟩
abbrev cX11_noteFault : ByteArray := prog_1_method_60_code
def yX11_noteFault : MethodName := ⟨RX11, "noteFault", "(LTuneSchool$Rule;III)V"⟩
abbrev cX11_faultNumber : ByteArray := prog_1_method_61_code
def yX11_faultNumber : MethodName := ⟨RX11, "faultNumber", "(II)I"⟩
abbrev cX11_firstFault : ByteArray := prog_1_method_62_code
def yX11_firstFault : MethodName := ⟨RX11, "firstFault", "(LTuneSchool$Voice;LTuneSchool$Standing;III)I"⟩
abbrev cX11_tellsAny : ByteArray := prog_1_method_63_code
def yX11_tellsAny : MethodName := ⟨RX11, "tellsAny", "(LTuneSchool$Standing;)Z"⟩
abbrev cX11_advance : ByteArray := prog_1_method_64_code
def yX11_advance : MethodName := ⟨RX11, "advance", "(I)I"⟩
abbrev cX11_writeTune : ByteArray := prog_1_method_65_code
def yX11_writeTune : MethodName := ⟨RX11, "writeTune", "()I"⟩
def RX12 : String := "TuneSchoolModel"
def TX12 : u_T := fun k => match k with
  | 0 => ("TuneSchoolModel", "status", "I", false)
  | 1 => ("TuneSchoolModel", "findings", "I", false)
  | 2 => ("TuneSchoolModel", "isThere", "[Z", true)
  | 3 => ("TuneSchoolModel", "sizes", "[I", true)
  | 4 => ("TuneSchoolModel", "numbers", "[I", true)
  | 5 => ("TuneSchoolModel", "isKept", "Z", false)
  | 6 => ("TuneSchoolModel", "keptVoice", "I", false)
  | 7 => ("TuneSchoolModel", "keptThere", "Z", false)
  | 8 => ("TuneSchoolModel", "keptSizes", "[I", true)
  | 9 => ("TuneSchoolModel", "keptNumbers", "[I", true)
  | 10 => ("TuneSchoolModel", "copied", "I", false)
  | 11 => ("TuneSchoolModel", "sound", "[I", true)
  | 12 => ("TuneSchoolModel", "ends", "[I", true)
  | 13 => ("TuneSchoolModel", "rules", "I", false)
  | 14 => ("TuneSchoolModel", "kindOf", "[I", true)
  | 15 => ("TuneSchoolModel", "rests", "[Z", true)
  | 16 => ("TuneSchoolModel", "comes", "[Z", true)
  | 17 => ("TuneSchoolModel", "answered", "[Z", true)
  | 18 => ("TuneSchoolModel", "schools", "I", false)
  | 19 => ("TuneSchoolModel", "typeOf", "[I", true)
  | 20 => ("TuneSchoolModel", "seatsOf", "[I", true)
  | 21 => ("TuneSchoolModel", "seats", "[I", true)
  | 22 => ("TuneSchoolModel", "sort", "[I", true)
  | 23 => ("TuneSchoolModel", "what", "[I", true)
  | 24 => ("TuneSchoolModel", "strong", "I", false)
  | 25 => ("TuneSchoolModel", "key", "I", false)
  | 26 => ("TuneSchoolModel", "weights", "[I", true)
  | 27 => ("TuneSchoolModel", "isTracing", "Z", false)
  | 28 => ("TuneSchoolModel", "traced", "I", false)
  | 29 => ("TuneSchoolModel", "traces", "[I", true)
  | 30 => ("TuneSchoolModel", "faultCount", "I", false)
  | 31 => ("TuneSchoolModel", "noted", "I", false)
  | 32 => ("TuneSchoolModel", "faultSeat", "[I", true)
  | 33 => ("TuneSchoolModel", "faultTick", "[I", true)
  | 34 => ("TuneSchoolModel", "faultA", "[I", true)
  | 35 => ("TuneSchoolModel", "faultB", "[I", true)
  | 36 => ("TuneSchoolModel", "faultRule", "[I", true)
  | 37 => ("TuneSchoolModel", "line", "[I", true)
  | 38 => ("TuneSchoolModel", "lineSize", "I", false)
  | 39 => ("TuneSchoolModel", "middle", "[I", true)
  | 40 => ("TuneSchoolModel", "rowA", "I", false)
  | 41 => ("TuneSchoolModel", "rowB", "I", false)
  | 42 => ("TuneSchoolModel", "lastBoth", "I", false)
  | 43 => ("TuneSchoolModel", "lasts", "[I", true)
  | 44 => ("TuneSchoolModel", "isSet", "Z", false)
  | 45 => ("TuneSchoolModel", "setVoice", "I", false)
  | 46 => ("TuneSchoolModel", "setPlace", "I", false)
  | 47 => ("TuneSchoolModel", "setAbove", "Z", false)
  | 48 => ("TuneSchoolModel", "setLow", "I", false)
  | 49 => ("TuneSchoolModel", "setHigh", "I", false)
  | 50 => ("TuneSchoolModel", "notes", "I", false)
  | 51 => ("TuneSchoolModel", "gPitch", "[I", true)
  | 52 => ("TuneSchoolModel", "gLength", "[I", true)
  | 53 => ("TuneSchoolModel", "gBegin", "[I", true)
  | 54 => ("TuneSchoolModel", "stepsDone", "I", false)
  | 55 => ("TuneSchoolModel", "isWorked", "Z", false)
  | 56 => ("TuneSchoolModel", "isOver", "Z", false)
  | 57 => ("TuneSchoolModel", "hasTune", "Z", false)
  | 58 => ("TuneSchoolModel", "tuneWeight", "I", false)
  | 59 => ("TuneSchoolModel", "tuneMany", "I", false)
  | 60 => ("TuneSchoolModel", "leasts", "[I", true)
  | 61 => ("TuneSchoolModel", "chosen", "[I", true)
  | 62 => ("TuneSchoolModel", "manies", "[I", true)
  | 63 => ("TuneSchoolModel", "fitting", "[Z", true)
  | 64 => ("TuneSchoolModel", "best", "I", false)
  | 65 => ("TuneSchoolModel", "choice", "I", false)
  | 66 => ("TuneSchoolModel", "many", "I", false)
  | 67 => ("TuneSchoolModel", "tune", "[I", true)
  | 68 => ("TuneSchoolModel", "readPitch", "[I", true)
  | 69 => ("TuneSchoolModel", "readLength", "[I", true)
  | _ => ("TuneSchoolModel", "readNotes", "I", false)
def tyX12 : Nat → FieldType := fun k => match k with
  | 0 => .int
  | 1 => .int
  | 2 => .array .boolean
  | 3 => .array .int
  | 4 => .array .int
  | 5 => .boolean
  | 6 => .int
  | 7 => .boolean
  | 8 => .array .int
  | 9 => .array .int
  | 10 => .int
  | 11 => .array .int
  | 12 => .array .int
  | 13 => .int
  | 14 => .array .int
  | 15 => .array .boolean
  | 16 => .array .boolean
  | 17 => .array .boolean
  | 18 => .int
  | 19 => .array .int
  | 20 => .array .int
  | 21 => .array .int
  | 22 => .array .int
  | 23 => .array .int
  | 24 => .int
  | 25 => .int
  | 26 => .array .int
  | 27 => .boolean
  | 28 => .int
  | 29 => .array .int
  | 30 => .int
  | 31 => .int
  | 32 => .array .int
  | 33 => .array .int
  | 34 => .array .int
  | 35 => .array .int
  | 36 => .array .int
  | 37 => .array .int
  | 38 => .int
  | 39 => .array .int
  | 40 => .int
  | 41 => .int
  | 42 => .int
  | 43 => .array .int
  | 44 => .boolean
  | 45 => .int
  | 46 => .int
  | 47 => .boolean
  | 48 => .int
  | 49 => .int
  | 50 => .int
  | 51 => .array .int
  | 52 => .array .int
  | 53 => .array .int
  | 54 => .int
  | 55 => .boolean
  | 56 => .boolean
  | 57 => .boolean
  | 58 => .int
  | 59 => .int
  | 60 => .array .int
  | 61 => .array .int
  | 62 => .array .int
  | 63 => .array .boolean
  | 64 => .int
  | 65 => .int
  | 66 => .int
  | 67 => .array .int
  | 68 => .array .int
  | 69 => .array .int
  | _ => .int
abbrev wsX120 : List Cond := u_ws RX12 TX12 71
theorem nmX12 : ∀ a, a < 71 → ∀ b, b < 71 → a ≠ b → (TX12 a).2.1 ≠ (TX12 b).2.1 := by decide +kernel
theorem tyX12_ok : ∀ k, k < 71 → parseFieldDescriptor (TX12 k).2.2.1 = some (tyX12 k) := by decide +kernel
abbrev cX12_init : ByteArray := prog_14_method_1_code
def yX12_init : MethodName := ⟨RX12, "<init>", "()V"⟩
abbrev cX12_in : ByteArray := prog_14_method_3_code
def yX12_in : MethodName := ⟨RX12, "in", "(III)Z"⟩
abbrev cX12_isVoice : ByteArray := prog_14_method_4_code
def yX12_isVoice : MethodName := ⟨RX12, "isVoice", "(I)Z"⟩
abbrev cX12_isPlace : ByteArray := prog_14_method_5_code
def yX12_isPlace : MethodName := ⟨RX12, "isPlace", "(I)Z"⟩
abbrev cX12_finds : ByteArray := prog_14_method_6_code
def yX12_finds : MethodName := ⟨RX12, "finds", "(I)I"⟩
abbrev cX12_distance : ByteArray := prog_14_method_7_code
def yX12_distance : MethodName := ⟨RX12, "distance", "(II)I"⟩
abbrev cX12_keep : ByteArray := prog_14_method_8_code
def yX12_keep : MethodName := ⟨RX12, "keep", "(I)V"⟩
abbrev cX12_pitchAt : ByteArray := prog_14_method_9_code
def yX12_pitchAt : MethodName := ⟨RX12, "pitchAt", "(II)I"⟩
abbrev cX12_lengthAt : ByteArray := prog_14_method_10_code
def yX12_lengthAt : MethodName := ⟨RX12, "lengthAt", "(II)I"⟩
abbrev cX12_against : ByteArray := prog_14_method_11_code
def yX12_against : MethodName := ⟨RX12, "against", "(I)I"⟩
abbrev cX12_lay : ByteArray := prog_14_method_12_code
def yX12_lay : MethodName := ⟨RX12, "lay", "(I)V"⟩
abbrev cX12_soundAt : ByteArray := prog_14_method_13_code
def yX12_soundAt : MethodName := ⟨RX12, "soundAt", "(II)I"⟩
abbrev cX12_voice : ByteArray := prog_14_method_14_code
def yX12_voice : MethodName := ⟨RX12, "voice", "(II)I"⟩
abbrev cX12_drop : ByteArray := prog_14_method_15_code
def yX12_drop : MethodName := ⟨RX12, "drop", "(I)I"⟩
abbrev cX12_note : ByteArray := prog_14_method_16_code
def yX12_note : MethodName := ⟨RX12, "note", "(IIII)I"⟩
abbrev cX12_cut : ByteArray := prog_14_method_17_code
def yX12_cut : MethodName := ⟨RX12, "cut", "(III)I"⟩
abbrev cX12_size : ByteArray := prog_14_method_18_code
def yX12_size : MethodName := ⟨RX12, "size", "(II)I"⟩
abbrev cX12_number : ByteArray := prog_14_method_19_code
def yX12_number : MethodName := ⟨RX12, "number", "(III)I"⟩
abbrev cX12_end : ByteArray := prog_14_method_20_code
def yX12_end : MethodName := ⟨RX12, "end", "(I)I"⟩
abbrev cX12_sounds : ByteArray := prog_14_method_21_code
def yX12_sounds : MethodName := ⟨RX12, "sounds", "(II)I"⟩
abbrev cX12_transpose : ByteArray := prog_14_method_22_code
def yX12_transpose : MethodName := ⟨RX12, "transpose", "(II)I"⟩
abbrev cX12_copyRow : ByteArray := prog_14_method_23_code
def yX12_copyRow : MethodName := ⟨RX12, "copyRow", "(IIIIII)Z"⟩
abbrev cX12_copy : ByteArray := prog_14_method_24_code
def yX12_copy : MethodName := ⟨RX12, "copy", "(IIIII)I"⟩
abbrev cX12_undo : ByteArray := prog_14_method_25_code
def yX12_undo : MethodName := ⟨RX12, "undo", "()I"⟩
abbrev cX12_rule : ByteArray := prog_14_method_26_code
def yX12_rule : MethodName := ⟨RX12, "rule", "(II)I"⟩
abbrev cX12_school : ByteArray := prog_14_method_27_code
def yX12_school : MethodName := ⟨RX12, "school", "(III)I"⟩
abbrev cX12_clear : ByteArray := prog_14_method_28_code
def yX12_clear : MethodName := ⟨RX12, "clear", "(I)I"⟩
abbrev cX12_isOf : ByteArray := prog_14_method_29_code
def yX12_isOf : MethodName := ⟨RX12, "isOf", "(II)Z"⟩
abbrev cX12_told : ByteArray := prog_14_method_30_code
def yX12_told : MethodName := ⟨RX12, "told", "([ZIZ)I"⟩
abbrev cX12_truth : ByteArray := prog_14_method_31_code
def yX12_truth : MethodName := ⟨RX12, "truth", "(IIIZ)I"⟩
abbrev cX12_is : ByteArray := prog_14_method_32_code
def yX12_is : MethodName := ⟨RX12, "is", "(II)I"⟩
abbrev cX12_seat : ByteArray := prog_14_method_33_code
def yX12_seat : MethodName := ⟨RX12, "seat", "(III)I"⟩
abbrev cX12_seated : ByteArray := prog_14_method_34_code
def yX12_seated : MethodName := ⟨RX12, "seated", "(II)I"⟩
abbrev cX12_strong : ByteArray := prog_14_method_35_code
def yX12_strong : MethodName := ⟨RX12, "strong", "(I)I"⟩
abbrev cX12_key : ByteArray := prog_14_method_36_code
def yX12_key : MethodName := ⟨RX12, "key", "(I)I"⟩
abbrev cX12_weight : ByteArray := prog_14_method_37_code
def yX12_weight : MethodName := ⟨RX12, "weight", "(II)I"⟩
abbrev cX12_beginTrace : ByteArray := prog_14_method_38_code
def yX12_beginTrace : MethodName := ⟨RX12, "beginTrace", "()V"⟩
abbrev cX12_tell : ByteArray := prog_14_method_39_code
def yX12_tell : MethodName := ⟨RX12, "tell", "(I)V"⟩
abbrev cX12_pair : ByteArray := prog_14_method_40_code
def yX12_pair : MethodName := ⟨RX12, "pair", "(II)V"⟩
abbrev cX12_byInterval : ByteArray := prog_14_method_41_code
def yX12_byInterval : MethodName := ⟨RX12, "byInterval", "(IIII)Z"⟩
abbrev cX12_byMotion : ByteArray := prog_14_method_42_code
def yX12_byMotion : MethodName := ⟨RX12, "byMotion", "(IIII)Z"⟩
abbrev cX12_byCadence : ByteArray := prog_14_method_43_code
def yX12_byCadence : MethodName := ⟨RX12, "byCadence", "(IIII)Z"⟩
abbrev cX12_byLeap : ByteArray := prog_14_method_44_code
def yX12_byLeap : MethodName := ⟨RX12, "byLeap", "(III)Z"⟩
abbrev cX12_hasFault : ByteArray := prog_14_method_45_code
def yX12_hasFault : MethodName := ⟨RX12, "hasFault", "(IIII)Z"⟩
abbrev cX12_listens : ByteArray := prog_14_method_46_code
def yX12_listens : MethodName := ⟨RX12, "listens", "(I)Z"⟩
abbrev cX12_askedAt : ByteArray := prog_14_method_47_code
def yX12_askedAt : MethodName := ⟨RX12, "askedAt", "(I)I"⟩
abbrev cX12_ruleAt : ByteArray := prog_14_method_48_code
def yX12_ruleAt : MethodName := ⟨RX12, "ruleAt", "(II)I"⟩
abbrev cX12_asks : ByteArray := prog_14_method_49_code
def yX12_asks : MethodName := ⟨RX12, "asks", "(II)Z"⟩
abbrev cX12_faults : ByteArray := prog_14_method_50_code
def yX12_faults : MethodName := ⟨RX12, "faults", "(I)I"⟩
abbrev cX12_look : ByteArray := prog_14_method_51_code
def yX12_look : MethodName := ⟨RX12, "look", "(IIII)V"⟩
abbrev cX12_fault : ByteArray := prog_14_method_52_code
def yX12_fault : MethodName := ⟨RX12, "fault", "(II)I"⟩
abbrev cX12_nearest : ByteArray := prog_14_method_53_code
def yX12_nearest : MethodName := ⟨RX12, "nearest", "(IIII)I"⟩
abbrev cX12_mend : ByteArray := prog_14_method_54_code
def yX12_mend : MethodName := ⟨RX12, "mend", "(I)I"⟩
abbrev cX12_followed : ByteArray := prog_14_method_55_code
def yX12_followed : MethodName := ⟨RX12, "followed", "(IIIII)I"⟩
abbrev cX12_firstFault : ByteArray := prog_14_method_56_code
def yX12_firstFault : MethodName := ⟨RX12, "firstFault", "(IIIII)I"⟩
abbrev cX12_againstCanon : ByteArray := prog_14_method_57_code
def yX12_againstCanon : MethodName := ⟨RX12, "againstCanon", "(II)I"⟩
abbrev cX12_canon : ByteArray := prog_14_method_58_code
def yX12_canon : MethodName := ⟨RX12, "canon", "(IIIII)I"⟩
abbrev cX12_canons : ByteArray := prog_14_method_59_code
def yX12_canons : MethodName := ⟨RX12, "canons", "(IIII)I"⟩
abbrev cX12_follows : ByteArray := prog_14_method_60_code
def yX12_follows : MethodName := ⟨RX12, "follows", "(IIIII)I"⟩
abbrev cX12_at : ByteArray := prog_14_method_61_code
def yX12_at : MethodName := ⟨RX12, "at", "(III)I"⟩
abbrev cX12_isHeard : ByteArray := prog_14_method_62_code
def yX12_isHeard : MethodName := ⟨RX12, "isHeard", "(I)Z"⟩
abbrev cX12_nextHeard : ByteArray := prog_14_method_63_code
def yX12_nextHeard : MethodName := ⟨RX12, "nextHeard", "(I)I"⟩
abbrev cX12_isJoined : ByteArray := prog_14_method_64_code
def yX12_isJoined : MethodName := ⟨RX12, "isJoined", "(II)Z"⟩
abbrev cX12_laySetting : ByteArray := prog_14_method_65_code
def yX12_laySetting : MethodName := ⟨RX12, "laySetting", "()V"⟩
abbrev cX12_fits : ByteArray := prog_14_method_66_code
def yX12_fits : MethodName := ⟨RX12, "fits", "(III)Z"⟩
abbrev cX12_mustAnswer : ByteArray := prog_14_method_67_code
def yX12_mustAnswer : MethodName := ⟨RX12, "mustAnswer", "(I)Z"⟩
abbrev cX12_dueBehind : ByteArray := prog_14_method_68_code
def yX12_dueBehind : MethodName := ⟨RX12, "dueBehind", "(III)I"⟩
abbrev cX12_step : ByteArray := prog_14_method_69_code
def yX12_step : MethodName := ⟨RX12, "step", "(II)I"⟩
abbrev cX12_reckon : ByteArray := prog_14_method_70_code
def yX12_reckon : MethodName := ⟨RX12, "reckon", "(III)V"⟩
abbrev cX12_fit : ByteArray := prog_14_method_71_code
def yX12_fit : MethodName := ⟨RX12, "fit", "(I)V"⟩
abbrev cX12_work : ByteArray := prog_14_method_72_code
def yX12_work : MethodName := ⟨RX12, "work", "(I)V"⟩
abbrev cX12_reckonTune : ByteArray := prog_14_method_73_code
def yX12_reckonTune : MethodName := ⟨RX12, "reckonTune", "()V"⟩
abbrev cX12_finish : ByteArray := prog_14_method_74_code
def yX12_finish : MethodName := ⟨RX12, "finish", "()V"⟩
abbrev cX12_set : ByteArray := prog_14_method_75_code
def yX12_set : MethodName := ⟨RX12, "set", "(IIIZIII)I"⟩
abbrev cX12_goOn : ByteArray := prog_14_method_76_code
def yX12_goOn : MethodName := ⟨RX12, "goOn", "(I)I"⟩
abbrev cX12_goesOn : ByteArray := prog_14_method_77_code
def yX12_goesOn : MethodName := ⟨RX12, "goesOn", "(I)I"⟩
abbrev cX12_least : ByteArray := prog_14_method_78_code
def yX12_least : MethodName := ⟨RX12, "least", "()I"⟩
abbrev cX12_many : ByteArray := prog_14_method_79_code
def yX12_many : MethodName := ⟨RX12, "many", "()I"⟩
abbrev cX12_hasLeast : ByteArray := prog_14_method_80_code
def yX12_hasLeast : MethodName := ⟨RX12, "hasLeast", "(I)Z"⟩
abbrev cX12_row : ByteArray := prog_14_method_81_code
def yX12_row : MethodName := ⟨RX12, "row", "(III)I"⟩
abbrev cX12_spoil : ByteArray := prog_14_method_82_code
def yX12_spoil : MethodName := ⟨RX12, "spoil", "(IIII)I"⟩
abbrev cX12_check : ByteArray := prog_14_method_83_code
def yX12_check : MethodName := ⟨RX12, "check", "()I"⟩
abbrev cX12_say : ByteArray := prog_14_method_84_code
def yX12_say : MethodName := ⟨RX12, "say", "(I)V"⟩
abbrev cX12_print : ByteArray := prog_14_method_85_code
def yX12_print : MethodName := ⟨RX12, "print", "(I)I"⟩
abbrev cX12_charAt : ByteArray := prog_14_method_86_code
def yX12_charAt : MethodName := ⟨RX12, "charAt", "(I)I"⟩
abbrev cX12_wrongIn : ByteArray := prog_14_method_87_code
def yX12_wrongIn : MethodName := ⟨RX12, "wrongIn", "()I"⟩
abbrev cX12_read : ByteArray := prog_14_method_88_code
def yX12_read : MethodName := ⟨RX12, "read", "(I)I"⟩
abbrev cX12_put : ByteArray := prog_14_method_89_code
def yX12_put : MethodName := ⟨RX12, "put", "(II)I"⟩
abbrev cX12_cutLine : ByteArray := prog_14_method_90_code
def yX12_cutLine : MethodName := ⟨RX12, "cutLine", "(I)I"⟩
abbrev cX12_character : ByteArray := prog_14_method_91_code
def yX12_character : MethodName := ⟨RX12, "character", "(I)I"⟩
abbrev cX12_status : ByteArray := prog_14_method_92_code
def yX12_status : MethodName := ⟨RX12, "status", "()I"⟩
abbrev cX12_trace : ByteArray := prog_14_method_93_code
def yX12_trace : MethodName := ⟨RX12, "trace", "(I)I"⟩
abbrev cX12_count : ByteArray := prog_14_method_94_code
def yX12_count : MethodName := ⟨RX12, "count", "(I)I"⟩
def RJ9 : String := "java/lang/Math"
def TJ9 : u_T := fun k => match k with
  | _ => ("", "", "", false)
def tyJ9 : Nat → FieldType := fun k => match k with
  | _ => .int
abbrev wsJ90 : List Cond := u_ws RJ9 TJ9 0
theorem nmJ9 : ∀ a, a < 0 → ∀ b, b < 0 → a ≠ b → (TJ9 a).2.1 ≠ (TJ9 b).2.1 := by decide +kernel
theorem tyJ9_ok : ∀ k, k < 0 → parseFieldDescriptor (TJ9 k).2.2.1 = some (tyJ9 k) := by decide +kernel
abbrev cJ9_abs_0f7a4 : ByteArray := prog_15_method_59_code
def yJ9_abs_0f7a4 : MethodName := ⟨RJ9, "abs", "(I)I"⟩
abbrev cJ9_max_7cf53 : ByteArray := prog_15_method_65_code
def yJ9_max_7cf53 : MethodName := ⟨RJ9, "max", "(II)I"⟩
abbrev cJ9_min_7cf53 : ByteArray := prog_15_method_69_code
def yJ9_min_7cf53 : MethodName := ⟨RJ9, "min", "(II)I"⟩
def RJ10 : String := "java/lang/System"
def TJ10 : u_T := fun k => match k with
  | _ => ("", "", "", false)
def tyJ10 : Nat → FieldType := fun k => match k with
  | _ => .int
abbrev wsJ100 : List Cond := u_ws RJ10 TJ10 0
theorem nmJ10 : ∀ a, a < 0 → ∀ b, b < 0 → a ≠ b → (TJ10 a).2.1 ≠ (TJ10 b).2.1 := by decide +kernel
theorem tyJ10_ok : ∀ k, k < 0 → parseFieldDescriptor (TJ10 k).2.2.1 = some (tyJ10 k) := by decide +kernel
def RJ7 : String := "java/util/Arrays"
def TJ7 : u_T := fun k => match k with
  | _ => ("", "", "", false)
def tyJ7 : Nat → FieldType := fun k => match k with
  | _ => .int
abbrev wsJ70 : List Cond := u_ws RJ7 TJ7 0
theorem nmJ7 : ∀ a, a < 0 → ∀ b, b < 0 → a ≠ b → (TJ7 a).2.1 ≠ (TJ7 b).2.1 := by decide +kernel
theorem tyJ7_ok : ∀ k, k < 0 → parseFieldDescriptor (TJ7 k).2.2.1 = some (tyJ7 k) := by decide +kernel
abbrev cJ7_fill_53178 : ByteArray := prog_17_method_103_code
def yJ7_fill_53178 : MethodName := ⟨RJ7, "fill", "([II)V"⟩
def RL : String := "TuneSchoolLaw"
abbrev cL_law : ByteArray := code
def yL_law : MethodName := ⟨RL, "law", "([I)Z"⟩
end
section
/-! the tables' good words, one list for every method -/
def gtb : List Cond := lw_tbl.filter goodWord
theorem gtb_of {w : Cond} (h : w ∈ lw_tbl) (hg : goodWord w = true) : w ∈ gtb := List.mem_filter.mpr ⟨h, hg⟩
theorem gtb_tbl {w : Cond} (h : w ∈ gtb) : w ∈ lw_tbl := (List.mem_filter.mp h).1
theorem gtb_good {w : Cond} (h : w ∈ gtb) : (w.onTables && w.keeps) = true ∨ ∃ ty, w = .arrayClass ty := good_of_word (List.mem_filter.mp h).2
theorem mgs {w : Cond} {i : Nat} (h : (k2_sels lw_privs)[i]? = some w) (hg : goodWord w = true) : w ∈ gtb := gtb_of (List.mem_append_left _ (List.mem_of_getElem? h)) hg
theorem mt1 {w : Cond} {i : Nat} (h : tables_1_1[i]? = some w) : w ∈ lw_tbl := List.mem_append_right _ (show w ∈ tables_1 from List.mem_append_left _ (List.mem_of_getElem? h))
theorem mt2 {w : Cond} {i : Nat} (h : tables_1_2[i]? = some w) : w ∈ lw_tbl := List.mem_append_right _ (show w ∈ tables_1 from List.mem_append_right _ (List.mem_append_left _ (List.mem_of_getElem? h)))
theorem mt3 {w : Cond} {i : Nat} (h : tables_1_3[i]? = some w) : w ∈ lw_tbl := List.mem_append_right _ (show w ∈ tables_1 from List.mem_append_right _ (List.mem_append_right _ (List.mem_append_left _ (List.mem_of_getElem? h))))
theorem mt4 {w : Cond} {i : Nat} (h : tables_1_4[i]? = some w) : w ∈ lw_tbl := List.mem_append_right _ (show w ∈ tables_1 from List.mem_append_right _ (List.mem_append_right _ (List.mem_append_right _ (List.mem_append_left _ (List.mem_of_getElem? h)))))
theorem mt5 {w : Cond} {i : Nat} (h : tables_1_5[i]? = some w) : w ∈ lw_tbl := List.mem_append_right _ (show w ∈ tables_1 from List.mem_append_right _ (List.mem_append_right _ (List.mem_append_right _ (List.mem_append_right _ (List.mem_append_left _ (List.mem_of_getElem? h))))))
theorem mt6 {w : Cond} {i : Nat} (h : tables_1_6[i]? = some w) : w ∈ lw_tbl := List.mem_append_right _ (show w ∈ tables_1 from List.mem_append_right _ (List.mem_append_right _ (List.mem_append_right _ (List.mem_append_right _ (List.mem_append_right _ (List.mem_append_left _ (List.mem_of_getElem? h)))))))
theorem mt7 {w : Cond} {i : Nat} (h : tables_1_7[i]? = some w) : w ∈ lw_tbl := List.mem_append_right _ (show w ∈ tables_1 from List.mem_append_right _ (List.mem_append_right _ (List.mem_append_right _ (List.mem_append_right _ (List.mem_append_right _ (List.mem_append_right _ (List.mem_of_getElem? h)))))))
theorem q_try1 : Cond.initialized "TuneSchool" ∈ gtb := gtb_of (mt1 (i := 1) rfl) rfl
theorem q_try2 : Cond.selects "TuneSchool" yX11_finding yX11_finding ∈ gtb := mgs (i := 0) rfl rfl
theorem gd_c {c : Cond} (h : c ∈ gtb) : GoodIn gtb (c :: gtb) := fun w hw => (List.mem_cons.mp hw).elim (fun e => by rw [e]; exact ⟨h, gtb_good h⟩) (fun hw => ⟨hw, gtb_good hw⟩)
theorem gd_V {own C : String} {y : MethodName} {idx : Nat} {c : Cond} (h1 : Cond.methodLink own idx y ∈ gtb) (h2 : Cond.instanceMethod y ∈ gtb) (h3 : Cond.selects C y y ∈ gtb) (h4 : Cond.initialized C ∈ gtb) (h5 : c ∈ gtb) : GoodIn gtb (wsV own idx C y (c :: gtb)) := by
  intro w hw
  have : w ∈ gtb := by
    simp only [wsV, List.mem_append, List.mem_cons, List.not_mem_nil, or_false] at hw
    rcases hw with (rfl | rfl | rfl | rfl) | rfl | h <;> assumption
  exact ⟨this, gtb_good this⟩
theorem gd_S {own : String} {y : MethodName} {idx : Nat} {c : Cond} (h1 : Cond.methodLink own idx y ∈ gtb) (h2 : Cond.static y ∈ gtb) (h4 : Cond.initialized y.cls ∈ gtb) (h5 : c ∈ gtb) : GoodIn gtb (va_wsS own idx y (c :: gtb)) := by
  intro w hw
  have : w ∈ gtb := by
    simp only [va_wsS, List.mem_append, List.mem_cons, List.not_mem_nil, or_false] at hw
    rcases hw with (rfl | rfl | rfl) | rfl | h <;> assumption
  exact ⟨this, gtb_good this⟩
/-! the words that no method's list may hold, by themselves; the array classes -/
def nwW : List Cond := [.methodLinkNest "TuneSchool" 15 yX10_init "TuneSchool", .methodLinkNest "TuneSchool" 34 yX5_init "TuneSchool", .methodLinkNest "TuneSchool$Desk" 27 yX10_init "TuneSchool", .methodLinkNest "TuneSchool" 50 yX4_init "TuneSchool", .methodLinkNest "TuneSchool" 331 yX6_init "TuneSchool", .methodLinkNest "TuneSchool$Motion" 3 yX2_init "TuneSchool", .methodLinkNest "TuneSchool$Interval" 3 yX7_init "TuneSchool", .methodLinkNest "TuneSchool$Rule" 3 yX9_init "TuneSchool", .methodLinkNest "TuneSchool" 334 yX3_init "TuneSchool", .methodLinkNest "TuneSchool$Leap" 3 yX7_init "TuneSchool", .methodLinkNest "TuneSchool" 337 yX0_init "TuneSchool", .methodLinkNest "TuneSchool$Cadence" 3 yX6_init "TuneSchool", .methodLinkNest "TuneSchool" 340 yX2_init "TuneSchool", .methodLinkNest "TuneSchool$School" 1 yX9_init "TuneSchool", .castable "TuneSchool$Cadence" "TuneSchool$Standing", .castable "TuneSchool$Interval" "TuneSchool$Standing", .castable "TuneSchool$Leap" "TuneSchool$Standing", .castable "TuneSchool$Motion" "TuneSchool$Standing", .castable "TuneSchool$School" "TuneSchool$Standing"]
def nwOk : Cond → Bool
  | .methodLinkNest _ _ _ _ => true
  | .castable _ _ => true
  | _ => false
theorem nwW_ok : ∀ w ∈ nwW, nwOk w = true := by
  intro w hw
  simp only [nwW, List.mem_cons, List.not_mem_nil, or_false] at hw
  rcases hw with rfl | rfl | rfl | rfl | rfl | rfl | rfl | rfl | rfl | rfl | rfl | rfl | rfl | rfl | rfl | rfl | rfl | rfl | rfl <;> rfl
theorem nw_warm1 {w : Cond} (hw : nwOk w = true) {s U : State} (hW : s.WarmedH U.vm) (h : va_Nw w s) : va_Nw w U := by
  cases w <;> first | (simp [nwOk] at hw; done) | exact va_Nw.warmM hW h | exact va_Nw.warmC hW h
theorem nw_same1 {w : Cond} (hw : nwOk w = true) {s U : State} (hW : s.vm = U.vm) (h : va_Nw w s) : va_Nw w U := by
  cases w <;> first | (simp [nwOk] at hw; done) | exact va_Nw.same rfl hW h
def a2 (k : Nat → ClassId) (U : State) : Prop := ∃ kA : Class, U.vm.classes[k 6]? = some kA ∧ kA.kind = .array (k 0) (.array .int)
theorem a2.moved {k : Nat → ClassId} {u U : State} (hvm : u.vm.Alike U.vm) (h : a2 k u) : a2 k U := by
  obtain ⟨kA, h1, h2⟩ := h
  obtain ⟨k', hk', he⟩ := hvm.2.2 _ _ h1
  exact ⟨k', hk', by rw [he]; exact h2⟩
def nw (k : Nat → ClassId) (U : State) : Prop := (∀ w ∈ nwW, va_Nw w U) ∧ va_AO "TuneSchool$Voice" U ∧ va_AO "TuneSchool$Standing" U ∧ va_AO "TuneSchool$Rule" U ∧ a2 k U
theorem nw.warm {k : Nat → ClassId} {s U : State} (hW : s.WarmedH U.vm) (h : nw k s) : nw k U := ⟨fun w hw => nw_warm1 (nwW_ok w hw) hW (h.1 w hw), h.2.1.moved hW.alike, h.2.2.1.moved hW.alike, h.2.2.2.1.moved hW.alike, h.2.2.2.2.moved hW.alike⟩
theorem nw.same {k : Nat → ClassId} {s U : State} (hW : s.vm = U.vm) (h : nw k s) : nw k U := by
  have ha : s.vm.Alike U.vm := hW ▸ Vm.Alike.refl s.vm
  exact ⟨fun w hw => nw_same1 (nwW_ok w hw) hW (h.1 w hw), h.2.1.moved ha, h.2.2.1.moved ha, h.2.2.2.1.moved ha, h.2.2.2.2.moved ha⟩
abbrev clsL : List vw_C := [("TuneSchool$Cadence", TX0, 1), ("TuneSchool$Desk", TX1, 17), ("TuneSchool$Interval", TX2, 1), ("TuneSchool$Leap", TX3, 1), ("TuneSchool$Line", TX4, 3), ("TuneSchool$Moment", TX5, 11), ("TuneSchool$Motion", TX6, 1), ("TuneSchool$School", TX8, 2), ("TuneSchool$Voice", TX10, 5), ("TuneSchool", TX11, 17), ("TuneSchoolModel", TX12, 71)]
abbrev tyL (k : Nat → ClassId) : List (ClassId × FieldType) := [(k 0, .int), (k 1, .boolean), (k 2, .long), (k 3, .object "TuneSchool$Voice"), (k 4, .object "TuneSchool$Standing"), (k 5, .object "TuneSchool$Rule"), (k 6, .array .int)]
/-- what a method's start says -/
def PX (D : va_G) (k : Nat → ClassId) (wc : va_W) (sz : Nat) (av : List Value) : Array Value → State → Prop := va_Pc av (fun U => U.heap.size = sz ∧ va_P D clsL wc U.heap ∧ va_K D clsL (tyL k) U ∧ va_D (fun _ => True) wc ∧ nw k U)
theorem PX.blind {D : va_G} {k : Nat → ClassId} {wc : va_W} {sz : Nat} {av : List Value} : FrameBlind (PX D k wc sz av) := by
  intro a U g mk q
  obtain ⟨q0, q1, qP, qK, qD, qN⟩ := q
  exact ⟨q0, q1, qP, va_K.moved (u := U) (U := U.calling g mk a) (Vm.Alike.refl U.vm) qK, qD, nw.same (s := U) (U := U.calling g mk a) rfl qN⟩
theorem preS {D : va_G} {k : Nat → ClassId} {s : State} {H : Heap} {wc : va_W} {As : List Value} {A : Nat → Prop} (hK : va_K D clsL (tyL k) s) (hN : nw k s) (hP : va_P D clsL wc H) (hD : va_D A wc) : PreS s H (PX D k wc H.size As) As :=
  ⟨PX.blind, fun U hU hW => ⟨rfl, by rw [hU], by rw [hU]; exact hP, va_K.moved hW.alike hK, hD.weaken (fun _ _ _ _ => trivial), hN.warm hW⟩⟩
theorem preV {D : va_G} {k : Nat → ClassId} {s : State} {H : Heap} {wc : va_W} {b : Addr} {As : List Value} {A : Nat → Prop} (ci q0 : Nat) {C : String} {T : u_T} {N : Nat} {fs : List Value} (hK : va_K D clsL (tyL k) s) (hN : nw k s) (hP : va_P D clsL wc H) (hD : va_D A wc) (hc : clsL[ci]? = some (C, T, N)) (he : wc[q0]? = some (b, .inr (ci, fs))) : PreV s H C b (PX D k wc H.size (.ref b :: As)) As :=
  ⟨PX.blind, va_recv hK hP hc he, fun U hU hW => ⟨rfl, by rw [hU], by rw [hU]; exact hP, va_K.moved hW.alike hK, hD.weaken (fun _ _ _ _ => trivial), hN.warm hW⟩⟩
/-- the world behind a method -/
def WX (D : va_G) (A : Nat → Prop) (wc : va_W) (t : State) : Prop := va_P D clsL wc t.heap ∧ va_D A wc
end
section
theorem nilP {D : va_G} {H : Heap} : va_P D clsL [] H := fun k q h => by simp at h
theorem nilD {A : Nat → Prop} : va_D A [] := ⟨fun i j p q h => by simp at h, fun k q h => by simp at h⟩
/-- what a method's body may count on -/
def BX (p : Program) (s : State) (m : MethodId) (meth : Method) (c : Code) (D : va_G) (k : Nat → ClassId) (y : MethodName) (cc : ByteArray) (nL : Nat) (ret : Option FieldType) (args : Array Value) (wc : va_W) (A : Nat → Prop) : Prop :=
  p.tables.exec = Jvm.exec ∧ c.code = cc ∧ c.maxLocals = nL ∧ meth.sig.returnType = ret ∧ meth.locks = false ∧ meth.name = y.name ∧ s.vm.findClass y.cls = some m.cls ∧ (∀ w ∈ gtb, w.before args s = true) ∧ va_K D clsL (tyL k) s ∧ nw k s ∧ (∀ q : Nat, s.heap.size ≤ q → A q) ∧ va_P D clsL wc s.heap ∧ va_D A wc ∧ va_S A s.heap s.heap []
theorem mtX {l : Launch} {y : MethodName} {D : va_G} {k : Nat → ClassId} {wc : va_W} {sz : Nat} {av : List Value} {rm : Room} {mc ms : Nat} {cc : ByteArray} {maxL : Nat} {ret : Option FieldType} (Qc : (Nat → Prop) → Array Value → State → Outcome → State → Prop) (free : (Nat → Prop) → Addr → Prop)
    (hy : plainName y.cls = true) (hlen : (lg_sl av).length ≤ maxL)
    (body : ∀ (p : Program) (e : Env) (s : State) (m : MethodId) (below : List Frame) (meth : Method) (c : Code) (ls : Array Slot) (A : Nat → Prop), BX p s m meth c D k y cc maxL ret av.toArray wc A → lv_has ls maxL (lv_args 0 av) → W p l e rm s m av.toArray below meth c s.heap [] 0 0 (MQ below (Qc A) av.toArray s mc ms (free A)) (F0 m 0 ls [])) :
    Met l y (.code y cc maxL ret :: gtb) rm (PX D k wc sz av) (Qc (va_A wc sz)) mc ms (free (va_A wc sz)) := by
  refine Met.ofW (cc := cc) (maxL := maxL) (ret := ret) hy rfl ?_
  intro p e s m args below meth c s₁ B hml hv
  obtain ⟨rfl, hsz, hP, hK, hD0, hN⟩ := hv
  have hts := atoms_spec (ws := Cond.code y cc maxL ret :: gtb) B.pre
  subst hsz
  have hl := lv_entry av (n := maxL) hlen
  rw [lg_entry_eq]
  exact body p e s m below meth c _ _ ⟨B.exec, B.bytes, hml, B.returns, B.notSynchronized, (name_of_methodNamed B.named B.method).1, findClass_of_methodNamed B.named, fun w h => hts w (List.mem_cons_of_mem _ h), hK, hN, fun q h => Or.inr h, hP, hD0.self (sz := s.heap.size), va_S.rf⟩ hl
/-- contracts: an int, or nothing, and a world behind; a pure one -/
abbrev CI (l : Launch) (y : MethodName) (cc : ByteArray) (nL : Nat) (ret : Option FieldType) (fr lo mc ms : Nat) (D : va_G) (k : Nat → ClassId) (wc : va_W) (av : List Value) {S : Type} (post : Int32 → S → Prop) (w1 : S → va_W) : Prop :=
  ∀ sz : Nat, Met l y (.code y cc nL ret :: gtb) { frames := fr, cells := mc, slots := ms, locals := lo } (PX D k wc sz av) (va_Qi post (fun u t => WX D (va_A wc sz) (w1 u) t) (va_A wc sz)) mc ms (va_A wc sz)
abbrev CV (l : Launch) (y : MethodName) (cc : ByteArray) (nL : Nat) (fr lo mc ms : Nat) (D : va_G) (k : Nat → ClassId) (wc : va_W) (av : List Value) {S : Type} (post : S → Prop) (w1 : S → va_W) : Prop :=
  ∀ sz : Nat, Met l y (.code y cc nL none :: gtb) { frames := fr, cells := mc, slots := ms, locals := lo } (PX D k wc sz av) (va_Qv post (fun u t => WX D (va_A wc sz) (w1 u) t) (va_A wc sz)) mc ms (va_A wc sz)
abbrev CR (l : Launch) (y : MethodName) (cc : ByteArray) (nL : Nat) (ret : Option FieldType) (fr lo mc ms : Nat) (D : va_G) (k : Nat → ClassId) (wc : va_W) (av : List Value) {S : Type} (post : S → Prop) (w1 : S → Nat → va_W) : Prop :=
  ∀ sz : Nat, Met l y (.code y cc nL ret :: gtb) { frames := fr, cells := mc, slots := ms, locals := lo } (PX D k wc sz av) (va_Qr post (fun u a t => WX D (va_A wc sz) (w1 u a) t) (va_A wc sz)) mc ms (va_A wc sz)
abbrev CP (l : Launch) (y : MethodName) (cc : ByteArray) (nL : Nat) (ret : Option FieldType) (fr lo : Nat) (D : va_G) (k : Nat → ClassId) (wc : va_W) (av : List Value) (post : Int32 → Prop) : Prop :=
  ∀ sz : Nat, Met l y (.code y cc nL ret :: gtb) { frames := fr, cells := 0, slots := 0, locals := lo } (PX D k wc sz av) (vp_Si post) 0 0 (fun _ => False)
abbrev mdOk (y : MethodName) (n : Nat) : Prop := y.cls ≠ "java/lang/invoke/MethodHandle" ∧ y.cls ≠ "java/lang/invoke/VarHandle" ∧ (parseMethodDescriptor y.desc).map (fun d => d.parameters.length) = some n
section CALLS
variable {p : Program} {l : Launch} {e : Env} {R : Room} {s : State} {m : MethodId} {args : Array Value} {below : List Frame} {meth : Method} {c : Code} {H : Heap} {locs : List Loc} {cells slots : Nat} {Q : State → Prop}
variable {D : va_G} {k : Nat → ClassId} {A A' : Nat → Prop} {ws wc wr : va_W} {H0 : Heap} {y : MethodName} {bytes cc : ByteArray} {maxL nL mc ms n index fr lo pc : Nat} {ret : Option FieldType} {own C : String} {b : Addr} {As rest st0 : List Value} {ls : Array Slot}
theorem afterI {S : Type} {post : Int32 → S → Prop} {w1 : S → va_W} {a : Array Value} (hr : va_Run p l e R s m args below meth c H locs cells slots mc ms (F0 m pc ls st0) rest (va_Qi post (fun u t => WX D (va_A wc H.size) (w1 u) t) (va_A wc H.size) a) (va_A wc H.size))
    (hP : va_P D clsL ws H) (hD : va_D A ws) (hS : va_S A H0 H locs) (hA : ∀ q, H0.size ≤ q → A q) (isC isR : List Nat) (hC : isC.map (fun i => ws[i]?) = wc.map some) (hR : isR.map (fun i => ws[i]?) = wr.map some) (hn : va_nd isR = true) (hdis : ∀ i ∈ isR, i ∉ isC)
    (kk : ∀ (r : Int32) (u : S) (H1 : Heap) (locs1 : List Loc), post r u → va_P D clsL (wr ++ w1 u) H1 → va_D A (wr ++ w1 u) → va_S A H0 H1 locs1 → W p l e R s m args below meth c H1 locs1 (cells + mc) (slots + ms) Q (F0 m (pc + 3) ls (.int r :: rest))) : W p l e R s m args below meth c H locs cells slots Q (F0 m pc ls st0) := by
  have hF := va_free hD hS hA isC hC
  refine va_calli hr hS (fun q _ h => hF q h) hF (fun r u t H1 locs1 ht hvm hw hB hz1 hk1 hS1 => ?_)
  obtain ⟨hP1, hD1⟩ := hB
  rw [ht] at hP1
  obtain ⟨hP2, hD2⟩ := va_join hP hD isC isR hC hR hn hdis hk1 hF hP1 hD1
  exact kk r u H1 locs1 hw hP2 hD2 hS1
theorem afterV {S : Type} {post : S → Prop} {w1 : S → va_W} {a : Array Value} (hr : va_Run p l e R s m args below meth c H locs cells slots mc ms (F0 m pc ls st0) rest (va_Qv post (fun u t => WX D (va_A wc H.size) (w1 u) t) (va_A wc H.size) a) (va_A wc H.size))
    (hP : va_P D clsL ws H) (hD : va_D A ws) (hS : va_S A H0 H locs) (hA : ∀ q, H0.size ≤ q → A q) (isC isR : List Nat) (hC : isC.map (fun i => ws[i]?) = wc.map some) (hR : isR.map (fun i => ws[i]?) = wr.map some) (hn : va_nd isR = true) (hdis : ∀ i ∈ isR, i ∉ isC)
    (kk : ∀ (u : S) (H1 : Heap) (locs1 : List Loc), post u → va_P D clsL (wr ++ w1 u) H1 → va_D A (wr ++ w1 u) → va_S A H0 H1 locs1 → W p l e R s m args below meth c H1 locs1 (cells + mc) (slots + ms) Q (F0 m (pc + 3) ls rest)) : W p l e R s m args below meth c H locs cells slots Q (F0 m pc ls st0) := by
  have hF := va_free hD hS hA isC hC
  refine va_callv hr hS (fun q _ h => hF q h) hF (fun u t H1 locs1 ht hvm hw hB hz1 hk1 hS1 => ?_)
  obtain ⟨hP1, hD1⟩ := hB
  rw [ht] at hP1
  obtain ⟨hP2, hD2⟩ := va_join hP hD isC isR hC hR hn hdis hk1 hF hP1 hD1
  exact kk u H1 locs1 hw hP2 hD2 hS1
theorem afterR {S : Type} {post : S → Prop} {w1 : S → Nat → va_W} {a : Array Value} (hr : va_Run p l e R s m args below meth c H locs cells slots mc ms (F0 m pc ls st0) rest (va_Qr post (fun u x t => WX D (va_A wc H.size) (w1 u x) t) (va_A wc H.size) a) (va_A wc H.size))
    (hP : va_P D clsL ws H) (hD : va_D A ws) (hS : va_S A H0 H locs) (hA : ∀ q, H0.size ≤ q → A q) (isC isR : List Nat) (hC : isC.map (fun i => ws[i]?) = wc.map some) (hR : isR.map (fun i => ws[i]?) = wr.map some) (hn : va_nd isR = true) (hdis : ∀ i ∈ isR, i ∉ isC)
    (kk : ∀ (u : S) (ra : Nat) (H1 : Heap) (locs1 : List Loc), post u → va_P D clsL (wr ++ w1 u ra) H1 → va_D A (wr ++ w1 u ra) → va_S A H0 H1 locs1 → W p l e R s m args below meth c H1 locs1 (cells + mc) (slots + ms) Q (F0 m (pc + 3) ls (.ref ra :: rest))) : W p l e R s m args below meth c H locs cells slots Q (F0 m pc ls st0) := by
  have hF := va_free hD hS hA isC hC
  refine va_callr hr hS (fun q _ h => hF q h) hF (fun u ra t H1 locs1 ht hvm hw hB hz1 hk1 hS1 => ?_)
  obtain ⟨hP1, hD1⟩ := hB
  rw [ht] at hP1
  obtain ⟨hP2, hD2⟩ := va_join hP hD isC isR hC hR hn hdis hk1 hF hP1 hD1
  exact kk u ra H1 locs1 hw hP2 hD2 hS1
/-- the five kinds of call -/
theorem xV {Qc : Array Value → State → Outcome → State → Prop} {free : Addr → Prop} (S : CallFix p m c cc nL s args gtb own) (hM : Met l y (.code y bytes maxL ret :: gtb) { frames := fr, cells := mc, slots := ms, locals := lo } (PX D k wc H.size (.ref b :: As)) Qc mc ms free)
    (hK : va_K D clsL (tyL k) s) (hN : nw k s) (hP : va_P D clsL wc H) (hD : va_D A' wc) (ci q0 : Nat) {T : u_T} {N : Nat} {fs : List Value} (hc : clsL[ci]? = some (C, T, N)) (he : wc[q0]? = some (b, .inr (ci, fs))) (hC : y.cls = C)
    (h1 : Cond.methodLink own index y ∈ gtb) (h2 : Cond.instanceMethod y ∈ gtb) (h3 : Cond.selects C y y ∈ gtb) (h4 : Cond.initialized C ∈ gtb) (h5 : Cond.code y bytes maxL ret ∈ gtb) (hd : mdOk y n)
    (hR : fr + 1 ≤ R.frames ∧ 8 + (maxL + 11) + lo ≤ R.locals) (hn : As.length = n) (hsize : ls.size = nL) (hstack : st0 = As.reverse ++ .ref b :: rest) (hW : (rest.map fun v => v.category).sum ≤ 8) (hdg : decode cc pc = .ok (.invokevirtual index, 3)) (hf : cells + mc ≤ R.cells ∧ slots + ms ≤ R.slots) :
    va_Run p l e R s m args below meth c H locs cells slots mc ms (F0 m pc ls st0) rest (Qc (Value.ref b :: As).toArray) free :=
  va_runV (As := As) (rest := rest) (C := C) (b := b) S hM (cwV n S.2.2.2.2 (gd_V h1 h2 h3 h4 h5) rfl rfl rfl ⟨hC, hd⟩ hR) (preV ci q0 hK hN hP hD hc he) rfl hn hsize hstack (lv_room hW) hdg hf
theorem xS {Qc : Array Value → State → Outcome → State → Prop} {free : Addr → Prop} (S : CallFix p m c cc nL s args gtb own) (hM : Met l y (.code y bytes maxL ret :: gtb) { frames := fr, cells := mc, slots := ms, locals := lo } (PX D k wc H.size As) Qc mc ms free)
    (hK : va_K D clsL (tyL k) s) (hN : nw k s) (hP : va_P D clsL wc H) (hD : va_D A' wc)
    (h1 : Cond.methodLink own index y ∈ gtb) (h2 : Cond.static y ∈ gtb) (h4 : Cond.initialized y.cls ∈ gtb) (h5 : Cond.code y bytes maxL ret ∈ gtb) (hd : mdOk y n)
    (hR : fr + 1 ≤ R.frames ∧ 8 + (maxL + 11) + lo ≤ R.locals) (hn : As.length = n) (hsize : ls.size = nL) (hstack : st0 = As.reverse ++ rest) (hW : (rest.map fun v => v.category).sum ≤ 8) (hdg : decode cc pc = .ok (.invokestatic index, 3)) (hf : cells + mc ≤ R.cells ∧ slots + ms ≤ R.slots) :
    va_Run p l e R s m args below meth c H locs cells slots mc ms (F0 m pc ls st0) rest (Qc As.toArray) free :=
  va_runS (As := As) (rest := rest) S hM (va_cwS n S.2.2.2.2 (gd_S h1 h2 h4 h5) rfl rfl rfl hd hR) (preS hK hN hP hD) rfl hn hsize hstack (lv_room hW) hdg hf
theorem xI {Qc : Array Value → State → Outcome → State → Prop} {free : Addr → Prop} (S : CallFix p m c cc nL s args gtb own) (hM : Met l y (.code y bytes maxL none :: gtb) { frames := fr, cells := mc, slots := ms, locals := lo } (PX D k wc H.size (.ref b :: As)) Qc mc ms free)
    (hK : va_K D clsL (tyL k) s) (hN : nw k s) (hP : va_P D clsL wc H) (hD : va_D A' wc) (hy : y.name = "<init>")
    (h1 : Cond.methodLink own index y ∈ gtb) (h2 : Cond.instanceMethod y ∈ gtb) (h4 : Cond.initialized y.cls ∈ gtb) (h5 : Cond.code y bytes maxL none ∈ gtb) (hd : mdOk y n)
    (hR : fr + 1 ≤ R.frames ∧ 8 + (maxL + 11) + lo ≤ R.locals) (hn : As.length = n) (hsize : ls.size = nL) (hstack : st0 = As.reverse ++ .ref b :: rest) (hW : (rest.map fun v => v.category).sum ≤ 8) (hdg : decode cc pc = .ok (.invokespecial index, 3)) (hf : cells + mc ≤ R.cells ∧ slots + ms ≤ R.slots) :
    va_Run p l e R s m args below meth c H locs cells slots mc ms (F0 m pc ls st0) rest (Qc (Value.ref b :: As).toArray) free :=
  va_runI (As := As) (rest := rest) (b := b) S hM (cwI n S.2.2.2.2 (gd_c h5) rfl rfl rfl (S.2.2.2.2 _ h4) (S.2.2.2.2 _ h1) (S.2.2.2.2 _ h2) hy hd hR) (preS hK hN hP hD) rfl hn hsize hstack (lv_room hW) hdg hf
theorem xN {Qc : Array Value → State → Outcome → State → Prop} {free : Addr → Prop} {host : String} (S : CallFix p m c cc nL s args gtb own) (hM : Met l y (.code y bytes maxL none :: gtb) { frames := fr, cells := mc, slots := ms, locals := lo } (PX D k wc H.size (.ref b :: As)) Qc mc ms free)
    (hK : va_K D clsL (tyL k) s) (hN : nw k s) (hP : va_P D clsL wc H) (hD : va_D A' wc) (hy : y.name = "<init>")
    (h1 : Cond.methodLinkNest own index y host ∈ nwW) (h2 : Cond.instanceMethod y ∈ gtb) (h4 : Cond.initialized y.cls ∈ gtb) (h5 : Cond.code y bytes maxL none ∈ gtb) (hd : mdOk y n)
    (hR : fr + 1 ≤ R.frames ∧ 8 + (maxL + 11) + lo ≤ R.locals) (hn : As.length = n) (hsize : ls.size = nL) (hstack : st0 = As.reverse ++ .ref b :: rest) (hW : (rest.map fun v => v.category).sum ≤ 8) (hdg : decode cc pc = .ok (.invokespecial index, 3)) (hf : cells + mc ≤ R.cells ∧ slots + ms ≤ R.slots) :
    va_Run p l e R s m args below meth c H locs cells slots mc ms (F0 m pc ls st0) rest (Qc (Value.ref b :: As).toArray) free :=
  va_runIN (As := As) (rest := rest) (b := b) S hM ⟨va_cnB n S.2.2.2.2 (gd_c h5) rfl rfl rfl (hN.1 _ h1) (S.2.2.2.2 _ h4) hd hR, hy, S.2.2.2.2 _ h2⟩ (preS hK hN hP hD) rfl hn hsize hstack (lv_room hW) hdg hf
theorem afterP {post : Int32 → Prop} {a : Array Value} (hr : va_Run p l e R s m args below meth c H locs cells slots 0 0 (F0 m pc ls st0) rest (vp_Si post a) (fun _ => False))
    (kk : ∀ r : Int32, post r → W p l e R s m args below meth c H locs cells slots Q (F0 m (pc + 3) ls (.int r :: rest))) : W p l e R s m args below meth c H locs cells slots Q (F0 m pc ls st0) := vp_callSi hr.run kk
end CALLS
section ARR
variable {p : Program} {l : Launch} {e : Env} {R : Room} {s : State} {m : MethodId} {args : Array Value} {below : List Frame} {meth : Method} {c : Code} {H : Heap} {locs : List Loc} {cells slots : Nat} {Q : State → Prop}
variable {D : va_G} {k : Nat → ClassId} {A : Nat → Prop} {ws : va_W} {H0 : Heap} {cc : ByteArray} {pc : Nat} {rest : List Value} {ls : Array Slot} {a : Nat}
theorem newI (hx : p.tables.exec = Jvm.exec) (hb : c.code = cc) (harr : (Cond.arrayClass .int).before args s = true) (hK : va_K D clsL (tyL k) s) (hP : va_P D clsL ws H) (hD : va_D A ws) (hS : va_S A H0 H locs) (hA : ∀ q, H0.size ≤ q → A q)
    {n : Int32} {N' : Nat} (hn : ¬ n < 0) (hN : n.toNatClampNeg = N') (hbytes : N' * 4 ≤ 536870912) (hcells : cells + 1 ≤ R.cells) (hslots : slots + N' ≤ R.slots) (hdg : decode cc pc = .ok (.newarray .int, 2))
    (kk : ∀ (q : Nat) (H1 : Heap), va_P D clsL (ws ++ [(q, .inl (k 0, N', .inl (fun _ => 0)))]) H1 → va_D A (ws ++ [(q, .inl (k 0, N', .inl (fun _ => 0)))]) → va_S A H0 H1 locs →
      W p l e R s m args below meth c H1 locs (cells + 1) (slots + N') Q (F0 m (pc + 2) ls (.ref q :: rest))) : W p l e R s m args below meth c H locs cells slots Q (F0 m pc ls (.int n :: rest)) := by
  refine va_newa (atype := .int) (ty := .int) (a0 := (N', .inl (fun _ => 0))) hx hb harr rfl hK hP hD hS hA (fun _ => rfl) hn hN hbytes hcells hslots hdg (fun q cA H1 hK1 hP1 hD1 hS1 => ?_)
  have e1 : some cA = some (k 0) := ((hK1.2 7 (cA, .int) rfl).2 : s.vm.findClass _ = _).symm.trans (hK.2 0 (k 0, .int) rfl).2
  cases e1
  exact kk q H1 hP1 hD1 hS1
theorem newZ (hx : p.tables.exec = Jvm.exec) (hb : c.code = cc) (harr : (Cond.arrayClass .boolean).before args s = true) (hK : va_K D clsL (tyL k) s) (hP : va_P D clsL ws H) (hD : va_D A ws) (hS : va_S A H0 H locs) (hA : ∀ q, H0.size ≤ q → A q)
    {n : Int32} {N' : Nat} (hn : ¬ n < 0) (hN : n.toNatClampNeg = N') (hbytes : N' * 1 ≤ 536870912) (hcells : cells + 1 ≤ R.cells) (hslots : slots + N' ≤ R.slots) (hdg : decode cc pc = .ok (.newarray .boolean, 2))
    (kk : ∀ (q : Nat) (H1 : Heap), va_P D clsL (ws ++ [(q, .inl (k 1, N', .inl (fun _ => 0)))]) H1 → va_D A (ws ++ [(q, .inl (k 1, N', .inl (fun _ => 0)))]) → va_S A H0 H1 locs →
      W p l e R s m args below meth c H1 locs (cells + 1) (slots + N') Q (F0 m (pc + 2) ls (.ref q :: rest))) : W p l e R s m args below meth c H locs cells slots Q (F0 m pc ls (.int n :: rest)) := by
  refine va_newa (atype := .boolean) (ty := .boolean) (a0 := (N', .inl (fun _ => 0))) hx hb harr rfl hK hP hD hS hA (fun _ => rfl) hn hN hbytes hcells hslots hdg (fun q cA H1 hK1 hP1 hD1 hS1 => ?_)
  have e1 : some cA = some (k 1) := ((hK1.2 7 (cA, .boolean) rfl).2 : s.vm.findClass _ = _).symm.trans (hK.2 1 (k 1, .boolean) rfl).2
  cases e1
  exact kk q H1 hP1 hD1 hS1
theorem newJ (hx : p.tables.exec = Jvm.exec) (hb : c.code = cc) (harr : (Cond.arrayClass .long).before args s = true) (hK : va_K D clsL (tyL k) s) (hP : va_P D clsL ws H) (hD : va_D A ws) (hS : va_S A H0 H locs) (hA : ∀ q, H0.size ≤ q → A q)
    {n : Int32} {N' : Nat} (hn : ¬ n < 0) (hN : n.toNatClampNeg = N') (hbytes : N' * 8 ≤ 536870912) (hcells : cells + 1 ≤ R.cells) (hslots : slots + N' ≤ R.slots) (hdg : decode cc pc = .ok (.newarray .long, 2))
    (kk : ∀ (q : Nat) (H1 : Heap), va_P D clsL (ws ++ [(q, .inl (k 2, N', .inr (.inl (fun _ => 0))))]) H1 → va_D A (ws ++ [(q, .inl (k 2, N', .inr (.inl (fun _ => 0))))]) → va_S A H0 H1 locs →
      W p l e R s m args below meth c H1 locs (cells + 1) (slots + N') Q (F0 m (pc + 2) ls (.ref q :: rest))) : W p l e R s m args below meth c H locs cells slots Q (F0 m pc ls (.int n :: rest)) := by
  refine va_newa (atype := .long) (ty := .long) (a0 := (N', .inr (.inl (fun _ => 0)))) hx hb harr rfl hK hP hD hS hA (fun _ => rfl) hn hN hbytes hcells hslots hdg (fun q cA H1 hK1 hP1 hD1 hS1 => ?_)
  have e1 : some cA = some (k 2) := ((hK1.2 7 (cA, .long) rfl).2 : s.vm.findClass _ = _).symm.trans (hK.2 2 (k 2, .long) rfl).2
  cases e1
  exact kk q H1 hP1 hD1 hS1
/-- a row of references; t0: which of the array classes -/
theorem newQ (t0 : Nat) (hx : p.tables.exec = Jvm.exec) (hb : c.code = cc) {own C : String} {index : Nat} (hown : s.vm.findClass own = some m.cls) (hclink : (Cond.classLink own index C).before args s = true) (hover : va_AO C s) (hK : va_K D clsL (tyL k) s) (ht : (tyL k)[t0]? = some (k t0, .object C)) (hP : va_P D clsL ws H) (hD : va_D A ws) (hS : va_S A H0 H locs) (hA : ∀ q, H0.size ≤ q → A q)
    {n : Int32} {N' : Nat} (hn : ¬ n < 0) (hN : n.toNatClampNeg = N') (hbytes : N' * 4 ≤ 536870912) (hcells : cells + 1 ≤ R.cells) (hslots : slots + N' ≤ R.slots) (hdg : decode cc pc = .ok (.anewarray index, 3))
    (kk : ∀ (q : Nat) (H1 : Heap), va_P D clsL (ws ++ [(q, .inl (k t0, N', .inr (.inr (.inr (.inr (fun _ => none))))))]) H1 → va_D A (ws ++ [(q, .inl (k t0, N', .inr (.inr (.inr (.inr (fun _ => none))))))]) → va_S A H0 H1 locs →
      W p l e R s m args below meth c H1 locs (cells + 1) (slots + N') Q (F0 m (pc + 3) ls (.ref q :: rest))) : W p l e R s m args below meth c H locs cells slots Q (F0 m pc ls (.int n :: rest)) := by
  refine va_newq hx hb hown hclink hover hK hP hD hS hA hn hN hbytes hcells hslots hdg (fun q cA H1 hK1 hP1 hD1 hS1 => ?_)
  obtain ⟨-, kA, comp, -, -, -, g1⟩ := hK1.2 7 (cA, .object C) rfl
  obtain ⟨-, kB, comp2, -, -, -, g2⟩ := hK.2 t0 _ ht
  have e1 : some cA = some (k t0) := g1.symm.trans g2
  cases e1
  exact kk q H1 hP1 hD1 hS1
/-- a row of rows: a row read out of it -/
theorem ald2 (hx : p.tables.exec = Jvm.exec) (hb : c.code = cc) (hK : va_K D clsL (tyL k) s) (hP : va_P D clsL ws H) (q0 : Nat) {n : Nat} {f : Nat → Option Nat} (ha : ws[q0]? = some (a, .inl (k 6, n, .inr (.inr (.inr (.inr f)))))) {i : Int32} {v : Nat} (hin : vp_in i n) (hv : f i.toNatClampNeg = some v) (hdg : decode cc pc = .ok (.aaload, 1))
    (kk : W p l e R s m args below meth c H locs cells slots Q (F0 m (pc + 1) ls (.ref v :: rest))) : W p l e R s m args below meth c H locs cells slots Q (F0 m pc ls (.int i :: .ref a :: rest)) := by
  have hlt : i.toNatClampNeg < n := Nat.not_le.mp fun q => hin (Or.inr q)
  have hcell : H[a]? = some (arrV (k 6) n (fun j => va_rf (f j))) := hP q0 _ ha
  exact W.aald (v := .ref v) (ty := .array .int) hx hb hcell ((hK.2 6 (k 6, .array .int) rfl).1 n (fun j => va_rf (f j))) rfl (fun q => by cases q) (by show ¬ (i < 0 ∨ (arrV _ _ _).slots.size ≤ _); rw [arrV_size]; exact hin) (by show (arrV _ _ _).slots[_]? = _; rw [arrV_read _ _ hlt, hv]; rfl) rfl rfl hdg kk
end ARR
end
section
/-! new int[2][24]: one instruction, three cells -/
section GRID
variable {E : CtlPost} {e : Env} {d : Bool} {acts : List Action} {s : State}
theorem g_i24 : ¬ ((24 : Int32) < 0) := by decide
theorem g_i2 : ¬ ((2 : Int32) < 0) := by decide
theorem g_n24 : (24 : Int32).toNatClampNeg = 24 := by decide
theorem g_n2 : (2 : Int32).toNatClampNeg = 2 := by decide
theorem g_row {comp cc : ClassId} {kc : Class} (hkc : s.vm.classes[comp]? = some kc) (hkind : kc.kind = .array cc .int) (hl : ¬ 24 > e.platform.arrayLengthLimit) (hh : ¬ 24 * componentBytes .int > e.platform.maxHeapBytes)
    (h1 : s.heap.size < e.platform.maxCells) (h2 : s.slotsUsed + 24 ≤ e.platform.maxSlots) {Q : Addr → Pre} (hq : ∀ acts', Q s.heap.size d acts' (s.pushCell { cls := comp, slots := Array.replicate 24 (.int 0) })) : wp (Op.multianewarray.make comp [24]) Q E e d acts s := by
  rw [Op.multianewarray.make]
  simp only [wp_bind', Jvm.W.ite, g_i24, if_false, wp_pure', Jvm.W.theClass, hkc, hkind, Option.some.injEq, exists_eq_left', g_n24]
  exact Jvm.W.newArray_of hkc hkind hl hh h1 h2 rfl hq
def g_o0 (c : ClassId) : Cell := { cls := c, slots := Array.replicate 2 .null }
def g_in (c : ClassId) : Cell := { cls := c, slots := Array.replicate 24 (.int 0) }
def g_o1 (c : ClassId) (h : Nat) : Cell := (g_o0 c).setSlot 0 (.ref (h + 1))
def g_o2 (c : ClassId) (h : Nat) : Cell := (g_o1 c h).setSlot 1 (.ref (h + 2))
def g_s1 (s : State) (c : ClassId) : State := s.pushCell (g_o0 c)
def g_s2 (s : State) (c ci : ClassId) : State := (g_s1 s c).pushCell (g_in ci)
def g_s3 (s : State) (c ci : ClassId) : State := (g_s2 s c ci).setCell s.heap.size (g_o1 c s.heap.size)
def g_s4 (s : State) (c ci : ClassId) : State := (g_s3 s c ci).pushCell (g_in ci)
def g_s5 (s : State) (c ci : ClassId) : State := (g_s4 s c ci).setCell s.heap.size (g_o2 c s.heap.size)
theorem g_z1 (s : State) (c : ClassId) : (g_s1 s c).heap.size = s.heap.size + 1 := by simp [g_s1]
theorem g_z2 (s : State) (c ci : ClassId) : (g_s2 s c ci).heap.size = s.heap.size + 2 := by simp [g_s2, g_z1]
theorem g_z3 (s : State) (c ci : ClassId) : (g_s3 s c ci).heap.size = s.heap.size + 2 := by simp [g_s3, State.setCell, g_z2]
theorem g_z4 (s : State) (c ci : ClassId) : (g_s4 s c ci).heap.size = s.heap.size + 3 := by simp [g_s4, g_z3]
theorem g_z5 (s : State) (c ci : ClassId) : (g_s5 s c ci).heap.size = s.heap.size + 3 := by simp [g_s5, State.setCell, g_z4]
theorem g_push {s : State} {c : Cell} {a n : Nat} (hn : s.heap.size = n) (h : a < n) : (s.pushCell c).heap[a]? = s.heap[a]? := State.heap_pushCell_of_lt _ _ (by rw [hn]; exact h)
theorem g_last {s : State} {c : Cell} {n : Nat} (hn : s.heap.size = n) : (s.pushCell c).heap[n]? = some c := by
  rw [← hn]
  exact State.heap_pushCell_size _ _
theorem g_c2 (s : State) (c ci : ClassId) : (g_s2 s c ci).heap[s.heap.size]? = some (g_o0 c) := (g_push (g_z1 s c) (by omega)).trans (g_last rfl)
theorem g_c3 (s : State) (c ci : ClassId) : (g_s3 s c ci).heap[s.heap.size]? = some (g_o1 c s.heap.size) := State.heap_setCell_self (g_c2 s c ci)
theorem g_c4 (s : State) (c ci : ClassId) : (g_s4 s c ci).heap[s.heap.size]? = some (g_o1 c s.heap.size) := (g_push (g_z3 s c ci) (by omega)).trans (g_c3 s c ci)
theorem g_c5 (s : State) (c ci : ClassId) : (g_s5 s c ci).heap[s.heap.size]? = some (g_o2 c s.heap.size) := State.heap_setCell_self (g_c4 s c ci)
theorem g_a5 (s : State) (c ci : ClassId) : (g_s5 s c ci).heap[s.heap.size + 1]? = some (g_in ci) := (State.heap_setCell_other (s := g_s4 s c ci) (show s.heap.size ≠ s.heap.size + 1 by omega)).trans ((g_push (g_z3 s c ci) (by omega)).trans ((State.heap_setCell_other (s := g_s2 s c ci) (show s.heap.size ≠ s.heap.size + 1 by omega)).trans (g_last (g_z1 s c))))
theorem g_b5 (s : State) (c ci : ClassId) : (g_s5 s c ci).heap[s.heap.size + 2]? = some (g_in ci) := (State.heap_setCell_other (s := g_s4 s c ci) (show s.heap.size ≠ s.heap.size + 2 by omega)).trans (g_last (g_z3 s c ci))
theorem g_old (s : State) (c ci : ClassId) {a : Nat} (h : a < s.heap.size) : (g_s5 s c ci).heap[a]? = s.heap[a]? := (State.heap_setCell_other (s := g_s4 s c ci) (show s.heap.size ≠ a by omega)).trans ((g_push (g_z3 s c ci) (by omega)).trans ((State.heap_setCell_other (s := g_s2 s c ci) (show s.heap.size ≠ a by omega)).trans ((g_push (g_z1 s c) (by omega)).trans (g_push rfl h))))
theorem g_top (s : State) (f : JFrame) (c ci : ClassId) : g_s5 (s.setTop f) c ci = (g_s5 s c ci).setTop f := by
  simp only [g_s5, g_s4, g_s3, g_s2, g_s1, State.heap_setTop, State.pushCell_setTop, State.setCell_setTop]
theorem g_make {c comp cc : ClassId} {kA kc : Class} (hk : s.vm.classes[c]? = some kA) (hkA : kA.kind = .array comp (.array .int)) (hkc : s.vm.classes[comp]? = some kc) (hkind : kc.kind = .array cc .int) (hl : ¬ 24 > e.platform.arrayLengthLimit) (hh : ¬ 24 * 4 > e.platform.maxHeapBytes)
    (h1 : s.heap.size + 3 ≤ e.platform.maxCells) (h2 : s.slotsUsed + 50 ≤ e.platform.maxSlots) {Q : Addr → Pre} (hq : ∀ d' acts', Q s.heap.size d' acts' (g_s5 s c comp)) : wp (Op.multianewarray.make c [2, 24]) Q E e d acts s := by
  rw [Op.multianewarray.make]
  simp only [wp_bind', Jvm.W.ite, g_i2, if_false, wp_pure', Jvm.W.theClass, hk, hkA, Option.some.injEq, exists_eq_left', g_n2]
  refine Jvm.W.newArray_of hk hkA (by omega) (by show ¬ 2 * 4 > _; omega) (by omega) (by omega) rfl (fun acts1 => ?_)
  have hb : ((2 : Int32) == 0) = false := by decide
  simp only [hb]
  rw [if_neg (by decide), wp_bind', Std.Legacy.Range.forIn_eq_forIn_range']
  show wp (forIn [0, 1] PUnit.unit _) _ E e d acts1 (g_s1 s c)
  simp only [List.forIn_cons, List.forIn_nil, wp_bind']
  have u1 : (g_s1 s c).slotsUsed = s.slotsUsed + 2 := by simp [g_s1, g_o0]
  have u2 : (g_s2 s c comp).slotsUsed = s.slotsUsed + 26 := by simp [g_s2, u1, g_in]
  have u3 : (g_s3 s c comp).slotsUsed = s.slotsUsed + 26 := by simp [g_s3, u2]
  have v1 : (g_s1 s c).vm = s.vm := rfl
  have v3 : (g_s3 s c comp).vm = s.vm := rfl
  refine g_row (by rw [v1]; exact hkc) hkind hl hh (by rw [g_z1]; omega) (by rw [u1]; omega) (fun acts2 => ?_)
  rw [wp_bind', Jvm.W.writeLoc]
  refine ⟨g_o0 c, g_c2 s c comp, by simp [g_o0], by simp [g_o0], by simp [g_o0, State.fitsSlot, State.slotType?, v1, hk, hkA, fits], ?_⟩
  have e3 : ((g_s1 s c).pushCell { cls := comp, slots := Array.replicate 24 (.int 0) }).setCell s.heap.size ((g_o0 c).setSlot 0 (.ref (g_s1 s c).heap.size)) = g_s3 s c comp := by rw [g_z1]; rfl
  rw [e3]
  simp only [wp_pure', wp_bind']
  refine g_row (by rw [v3]; exact hkc) hkind hl hh (by rw [g_z3]; omega) (by rw [u3]; omega) (fun acts3 => ?_)
  rw [wp_bind', Jvm.W.writeLoc]
  refine ⟨g_o1 c s.heap.size, g_c4 s c comp, by simp [g_o1, g_o0, Cell.setSlot], by simp [g_o1, g_o0, Cell.setSlot], by simp [g_o1, g_o0, Cell.setSlot, State.fitsSlot, State.slotType?, v3, hk, hkA, fits], ?_⟩
  have e5 : ((g_s3 s c comp).pushCell { cls := comp, slots := Array.replicate 24 (.int 0) }).setCell s.heap.size ((g_o1 c s.heap.size).setSlot 1 (.ref (g_s3 s c comp).heap.size)) = g_s5 s c comp := by rw [g_z3]; rfl
  rw [e5]
  simp only [wp_pure']
  exact hq _ _
end GRID
end
section
section GRID2
variable {p : Program} {l : Launch} {e : Env} {R : Room} {s : State} {m : MethodId} {args : Array Value} {below : List Frame} {meth : Method} {c : Code} {H : Heap} {locs : List Loc} {cells slots : Nat} {Q : State → Prop}
variable {D : va_G} {k : Nat → ClassId} {A : Nat → Prop} {ws : va_W} {H0 : Heap} {cc : ByteArray} {pc : Nat} {rest : List Value} {ls : Array Slot} {T : State}
theorem g_stand (X : Stand p l e R s m args below meth c T locs cells slots) (cO ci : ClassId) : Stand p l e R s m args below meth c (g_s5 T cO ci) locs (cells + 3) (slots + 50) := by
  have Y1 := X.pushed (g_o0 cO)
  have Y2 := Y1.pushed (g_in ci)
  have Y3 := Y2.stored (g_c2 T cO ci) 0 (.ref (T.heap.size + 1))
  have Y4 := Y3.pushed (g_in ci)
  have Y5 := Y4.stored (g_c4 T cO ci) 1 (.ref (T.heap.size + 2))
  have e0 : (g_o0 cO).slots.size = 2 := by simp [g_o0]
  have e1 : (g_in ci).slots.size = 24 := by simp [g_in]
  rw [e0, e1] at Y5
  have hz : s.heap.size ≤ T.heap.size := X.heapGrown
  have Y6 := Stand.dropFresh Y5 (fun x hx => by simp only [List.mem_cons, List.not_mem_nil, or_false] at hx; rw [hx]; exact hz)
  have Y7 := Stand.dropFresh Y6 (fun x hx => by simp only [List.mem_cons, List.not_mem_nil, or_false] at hx; rw [hx]; exact hz)
  exact Y7
theorem g_go (X : Stand p l e R s m args below meth c T locs cells slots) (hexec : p.tables.exec = Jvm.exec) {own : String} {index : Nat} (hown : s.vm.findClass own = some m.cls) (hclink : (Cond.classLink own index "[[I").before args s = true) {cO ci cx : ClassId} {kA kc : Class} (hnm : s.vm.findClass "[[I" = some cO)
    (hk : s.vm.classes[cO]? = some kA) (hkA : kA.kind = .array ci (.array .int)) (hkc : s.vm.classes[ci]? = some kc) (hkind : kc.kind = .array cx .int) {g : JFrame} (hg : g.method = m) (hdg : decode c.code g.pc = .ok (.multianewarray index 2, 4)) {rest : List Value} (hstack : g.stack = .int 24 :: .int 2 :: rest)
    (hcells : cells + 3 ≤ R.cells) (hslots : slots + 50 ≤ R.slots) :
    ∃ vm₁ : Vm, Stand p l e R s m args below meth c (g_s5 (T.setVm vm₁) cO ci) locs (cells + 3) (slots + 50) ∧
      ∀ target, Steps p.tables e below ((g_s5 (T.setVm vm₁) cO ci).setTop { g with pc := g.pc + 4, stack := .ref T.heap.size :: rest }) target → Steps p.tables e below (T.setTop g) target := by
  subst hg
  have hpl : e.platform.magicAccessors = ({} : Platform).magicAccessors := by rw [X.admits.platform]
  obtain ⟨c0, hfc0, hcl⟩ := Cond.classLink_spec hown hclink e.platform hpl
  cases hnm.symm.trans hfc0
  obtain ⟨hg₁, hwarm₁, hready₁⟩ := State.classEntry (e := e) X.warmed hcl
  generalize T.vm.noted g.method.cls index (.cls cO) = vm₁ at hg₁ hwarm₁ hready₁
  have hal : s.vm.Alike vm₁ := hwarm₁.alike
  obtain ⟨kA₁, hkA₁, heA⟩ := hal.2.2 _ _ hk
  obtain ⟨kC₁, hkC₁, heC⟩ := hal.2.2 _ _ hkc
  have hkindA₁ : kA₁.kind = .array ci (.array .int) := by rw [heA]; exact hkA
  have hkindC₁ : kC₁.kind = .array cx .int := by rw [heC]; exact hkind
  have X₁ := X.noted hwarm₁
  obtain ⟨hr1, hr2⟩ := X.roomAbove hcells hslots
  have XF := g_stand X₁ cO ci
  refine ⟨vm₁, XF, fun target hrest => ?_⟩
  have hl : ¬ 24 > e.platform.arrayLengthLimit := by rw [Launch.admits_arrayLengthLimit X.admits]; omega
  have hh : ¬ 24 * 4 > e.platform.maxHeapBytes := by rw [Launch.admits_maxHeapBytes X.admits]; omega
  jvm_step X.here [hexec, hdg]
  simp only [Op.multianewarray.sem, wp_bind', Jvm.W.resolveClassAt_links (State.method?_setTop g X.here.top) hg₁]
  rw [Jvm.W.popN, if_neg (by decide)]
  refine ⟨g, State.topJava?_setTop' (s := T.setVm vm₁) g X.here.top, [.int 2, .int 24], rest, rfl, hstack, ?_⟩
  simp only [List.mapM_cons, List.mapM_nil, wp_bind', wp_pure']
  refine g_make (s := ((T.setTop g).setVm vm₁).setTop { g with stack := rest }) (kA := kA₁) (kc := kC₁) (comp := ci) (cc := cx) hkA₁ hkindA₁ hkC₁ hkindC₁ hl hh hr1 hr2 (fun d' acts' => ?_)
  have eS : ((T.setTop g).setVm vm₁).setTop { g with stack := rest } = (T.setVm vm₁).setTop { g with stack := rest } := by
    show ((T.setVm vm₁).setTop g).setTop _ = _
    rw [State.setTop_setTop]
  rw [eS, g_top]
  simp only [wp_bind', Jvm.W.mark, Jvm.W.pushRef, State.topJava?_setTop' _ XF.here.top, Option.some.injEq, exists_eq_left', State.setTop_setTop, State.heap_setTop]
  intro acts
  simp [jvm, XF.here.top]
  exact hrest
theorem g_oV (cO : ClassId) (h : Nat) : g_o2 cO h = vp_cell cO (2, .inr (.inr (.inr (.inr (va_up (va_up (fun _ => none) 0 (some (h + 1))) 1 (some (h + 2))))))) := by
  rw [vp_cell_q]
  show ((({ cls := cO, slots := Array.replicate 2 .null, vm := .none } : Cell).setSlot 0 (.ref (h + 1))).setSlot 1 (.ref (h + 2))) = _
  rw [arrV_new, arrV_store, arrV_store]
  refine congrArg (arrV cO 2) (funext fun j => ?_)
  by_cases h1 : j = 1
  · subst h1; simp [updV, va_up, va_rf]
  · by_cases h0 : j = 0
    · subst h0; simp [updV, va_up, va_rf]
    · simp [updV, va_up, va_rf, h0, h1]
theorem newG (hx : p.tables.exec = Jvm.exec) (hb : c.code = cc) {own : String} {index : Nat} (hown : s.vm.findClass own = some m.cls) (hclink : (Cond.classLink own index "[[I").before args s = true) (hK : va_K D clsL (tyL k) s) (hN : nw k s) (hP : va_P D clsL ws H) (hD : va_D A ws) (hS : va_S A H0 H locs) (hA : ∀ q, H0.size ≤ q → A q)
    (hcells : cells + 3 ≤ R.cells) (hslots : slots + 50 ≤ R.slots) (hdg : decode cc pc = .ok (.multianewarray index 2, 4))
    (kk : ∀ (q q1 q2 : Nat) (H1 : Heap), va_P D clsL (((ws ++ [(q, .inl (k 6, 2, .inr (.inr (.inr (.inr (va_up (va_up (fun _ => none) 0 (some q1)) 1 (some q2)))))))]) ++ [(q1, .inl (k 0, 24, .inl (fun _ => 0)))]) ++ [(q2, .inl (k 0, 24, .inl (fun _ => 0)))]) H1 → va_D A (((ws ++ [(q, .inl (k 6, 2, .inr (.inr (.inr (.inr (va_up (va_up (fun _ => none) 0 (some q1)) 1 (some q2)))))))]) ++ [(q1, .inl (k 0, 24, .inl (fun _ => 0)))]) ++ [(q2, .inl (k 0, 24, .inl (fun _ => 0)))]) → va_S A H0 H1 locs →
      W p l e R s m args below meth c H1 locs (cells + 3) (slots + 50) Q (F0 m (pc + 4) ls (.ref q :: rest))) : W p l e R s m args below meth c H locs cells slots Q (F0 m pc ls (.int 24 :: .int 2 :: rest)) := by
  intro T hT X
  obtain ⟨kA, hk, hkA⟩ := hN.2.2.2.2
  obtain ⟨-, kc, hkc, cx, hkind⟩ := (hK.2 0 (k 0, .int) rfl).1 0 (fun _ => .int 0)
  have hnm : s.vm.findClass "[[I" = some (k 6) := (hK.2 6 (k 6, .array .int) rfl).2
  obtain ⟨vm₁, X', st⟩ := g_go X hx hown hclink hnm hk hkA hkc hkind (g := F0 m pc ls (.int 24 :: .int 2 :: rest)) rfl (by rw [hb]; exact hdg) rfl hcells hslots
  have hTh : (T.setVm vm₁).heap = H := hT
  generalize hH1 : (g_s5 (T.setVm vm₁) (k 6) (k 0)).heap = H1
  have z1 : H1.size = H.size + 3 := by rw [← hH1, g_z5, hTh]
  have c1 : H1[H.size]? = some (g_o2 (k 6) H.size) := by
    have h := g_c5 (T.setVm vm₁) (k 6) (k 0)
    rw [hH1, hTh] at h
    exact h
  have a1 : H1[H.size + 1]? = some (g_in (k 0)) := by
    have h := g_a5 (T.setVm vm₁) (k 6) (k 0)
    rw [hH1, hTh] at h
    exact h
  have b1 : H1[H.size + 2]? = some (g_in (k 0)) := by
    have h := g_b5 (T.setVm vm₁) (k 6) (k 0)
    rw [hH1, hTh] at h
    exact h
  have o1 : ∀ q : Nat, q < H.size → H1[q]? = H[q]? := fun q hq => by
    have h := g_old (T.setVm vm₁) (k 6) (k 0) (a := q) (by rw [hTh]; exact hq)
    rw [hH1, hTh] at h
    exact h
  have hin : g_in (k 0) = vp_cell (k 0) (24, .inl (fun _ => 0)) := by
    show ({ cls := k 0, slots := Array.replicate 24 (.int 0), vm := .none } : Cell) = arrV (k 0) 24 (fun _ => .int 0)
    exact arrV_new (k 0) 24 (.int 0)
  have hkp : ∀ (i : Nat) (x : Nat × va_E), ws[i]? = some x → H1[x.1]? = H[x.1]? := fun i x hx => o1 x.1 ((hP i x hx).lt)
  have one : ∀ (x : Nat × va_E), va_at D clsL x H1 → va_P D clsL [x] H1 := fun x hx i y hy => by
    have hz : i < 1 := (List.getElem?_eq_some_iff.mp hy).1
    rw [show i = 0 by omega] at hy
    cases hy
    exact hx
  have P1 := (hP.kept hkp).app (one (H.size, .inl (k 6, 2, .inr (.inr (.inr (.inr (va_up (va_up (fun _ => none) 0 (some (H.size + 1))) 1 (some (H.size + 2)))))))) (c1.trans (congrArg some (g_oV (k 6) H.size))))
  have P2 := P1.app (one (H.size + 1, .inl (k 0, 24, .inl (fun _ => 0))) (a1.trans (congrArg some hin)))
  have P3 := P2.app (one (H.size + 2, .inl (k 0, 24, .inl (fun _ => 0))) (b1.trans (congrArg some hin)))
  have far : ∀ (V : va_W) (n : Nat), va_D A V → (∀ (i : Nat) (x : Nat × va_E), V[i]? = some x → x.1 < n) → A n → ∀ e : va_E, va_D A (V ++ [(n, e)]) := fun V n hV hlt hn e => hV.app ⟨fun i j x y hi hj hxy => by
      have h1 : i < 1 := (List.getElem?_eq_some_iff.mp hi).1
      have h2 : j < 1 := (List.getElem?_eq_some_iff.mp hj).1
      omega, fun i x hi => by
      have h1 : i < 1 := (List.getElem?_eq_some_iff.mp hi).1
      rw [show i = 0 by omega] at hi
      cases hi
      exact hn⟩ (fun i j x y hi hj hxy => by
      have h1 : j < 1 := (List.getElem?_eq_some_iff.mp hj).1
      rw [show j = 0 by omega] at hj
      cases hj
      have := hlt i x hi
      omega)
  have lt1 : ∀ (V : va_W) (n : Nat) (e : va_E), (∀ (i : Nat) (x : Nat × va_E), V[i]? = some x → x.1 < n) → ∀ (i : Nat) (x : Nat × va_E), (V ++ [(n, e)])[i]? = some x → x.1 < n + 1 := fun V n e hV i x hx => by
    by_cases hl : i < V.length
    · rw [List.getElem?_append_left hl] at hx
      have := hV i x hx
      omega
    · rw [List.getElem?_append_right (by omega)] at hx
      have h1 : i - V.length < 1 := (List.getElem?_eq_some_iff.mp hx).1
      rw [show i - V.length = 0 by omega] at hx
      cases hx
      exact Nat.lt_succ_self n
  have l0 : ∀ (i : Nat) (x : Nat × va_E), ws[i]? = some x → x.1 < H.size := fun i x hx => (hP i x hx).lt
  have l1 := lt1 ws H.size (.inl (k 6, 2, .inr (.inr (.inr (.inr (va_up (va_up (fun _ => none) 0 (some (H.size + 1))) 1 (some (H.size + 2)))))))) l0
  have l2 := lt1 _ (H.size + 1) (.inl (k 0, 24, .inl (fun _ => 0))) l1
  have hz0 := hS.1
  have D1 := far ws H.size hD l0 (hA _ hz0) (.inl (k 6, 2, .inr (.inr (.inr (.inr (va_up (va_up (fun _ => none) 0 (some (H.size + 1))) 1 (some (H.size + 2))))))))
  have D2 := far _ (H.size + 1) D1 l1 (hA _ (by omega)) (.inl (k 0, 24, .inl (fun _ => 0)))
  have D3 := far _ (H.size + 2) D2 l2 (hA _ (by omega)) (.inl (k 0, 24, .inl (fun _ => 0)))
  obtain ⟨t, t1, t2⟩ := kk H.size (H.size + 1) (H.size + 2) H1 P3 D3 ⟨by omega, fun x h1 h2 => (o1 x (Nat.lt_of_lt_of_le h1 hS.1)).trans (hS.2.1 x h1 h2), hS.2.2⟩ _ hH1 X'
  refine ⟨t, st t ?_, t2⟩
  have e1 : T.heap.size = H.size := by rw [hT]
  rw [e1]
  exact t1
end GRID2
end
section
theorem q1_0 : (Jvm.Cond.initialized "TuneSchoolLaw") ∈ gtb := gtb_of (mt1 (i := 0) rfl) rfl
theorem q1_1 : (Jvm.Cond.initialized "TuneSchool") ∈ gtb := gtb_of (mt1 (i := 1) rfl) rfl
theorem q1_2 : (Jvm.Cond.initialized "TuneSchool$Voice") ∈ gtb := gtb_of (mt1 (i := 2) rfl) rfl
theorem q1_3 : (Jvm.Cond.initialized "TuneSchool$Moment") ∈ gtb := gtb_of (mt1 (i := 3) rfl) rfl
theorem q1_4 : (Jvm.Cond.initialized "TuneSchool$Desk") ∈ gtb := gtb_of (mt1 (i := 4) rfl) rfl
theorem q1_5 : (Jvm.Cond.initialized "TuneSchool$Line") ∈ gtb := gtb_of (mt1 (i := 5) rfl) rfl
theorem q1_6 : (Jvm.Cond.initialized "TuneSchoolModel") ∈ gtb := gtb_of (mt1 (i := 6) rfl) rfl
theorem q1_7 : (Jvm.Cond.initialized "java/lang/System") ∈ gtb := gtb_of (mt1 (i := 7) rfl) rfl
theorem q1_8 : (Jvm.Cond.initialized "java/util/Arrays") ∈ gtb := gtb_of (mt1 (i := 8) rfl) rfl
theorem q1_9 : (Jvm.Cond.initialized "TuneSchool$Standing") ∈ gtb := gtb_of (mt1 (i := 9) rfl) rfl
theorem q1_10 : (Jvm.Cond.initialized "TuneSchool$Rule") ∈ gtb := gtb_of (mt1 (i := 10) rfl) rfl
theorem q1_11 : (Jvm.Cond.initialized "TuneSchool$Interval") ∈ gtb := gtb_of (mt1 (i := 11) rfl) rfl
theorem q1_12 : (Jvm.Cond.initialized "TuneSchool$Motion") ∈ gtb := gtb_of (mt1 (i := 12) rfl) rfl
theorem q1_13 : (Jvm.Cond.initialized "TuneSchool$Leap") ∈ gtb := gtb_of (mt1 (i := 13) rfl) rfl
theorem q1_14 : (Jvm.Cond.initialized "TuneSchool$Cadence") ∈ gtb := gtb_of (mt1 (i := 14) rfl) rfl
theorem q1_15 : (Jvm.Cond.initialized "TuneSchool$School") ∈ gtb := gtb_of (mt1 (i := 15) rfl) rfl
theorem q1_16 : (Jvm.Cond.initialized "java/lang/Math") ∈ gtb := gtb_of (mt1 (i := 16) rfl) rfl
theorem q1_17 : (Jvm.Cond.classLink "TuneSchoolLaw" (7 : Nat) "TuneSchool") ∈ gtb := gtb_of (mt1 (i := 17) rfl) rfl
theorem q1_18 : (Jvm.Cond.instantiable "TuneSchool" (17 : Nat)) ∈ gtb := gtb_of (mt1 (i := 18) rfl) rfl
theorem q1_19 : (Jvm.Cond.methodLink "TuneSchoolLaw" (9 : Nat) ({ cls := "TuneSchool", name := "<init>", desc := "()V" } : Jvm.MethodName)) ∈ gtb := gtb_of (mt1 (i := 19) rfl) rfl
theorem q1_20 : (Jvm.Cond.instanceMethod ({ cls := "TuneSchool", name := "<init>", desc := "()V" } : Jvm.MethodName)) ∈ gtb := gtb_of (mt1 (i := 20) rfl) rfl
theorem q1_21 : (Jvm.Cond.code ({ cls := "TuneSchool", name := "<init>", desc := "()V" } : Jvm.MethodName) prog_1_method_1_code (2 : Nat) (Option.none : Option Jvm.ClassFile.FieldType)) ∈ gtb := gtb_of (mt1 (i := 21) rfl) rfl
theorem q1_22 : (Jvm.Cond.methodLink "TuneSchool" (1 : Nat) ({ cls := "java/lang/Object", name := "<init>", desc := "()V" } : Jvm.MethodName)) ∈ gtb := gtb_of (mt1 (i := 22) rfl) rfl
theorem q1_23 : (Jvm.Cond.instanceMethod ({ cls := "java/lang/Object", name := "<init>", desc := "()V" } : Jvm.MethodName)) ∈ gtb := gtb_of (mt1 (i := 23) rfl) rfl
theorem q1_24 : (Jvm.Cond.code ({ cls := "java/lang/Object", name := "<init>", desc := "()V" } : Jvm.MethodName) object_method_1_code (1 : Nat) (Option.none : Option Jvm.ClassFile.FieldType)) ∈ gtb := gtb_of (mt1 (i := 24) rfl) rfl
theorem q1_25 : (Jvm.Cond.classLink "TuneSchool" (9 : Nat) "TuneSchool$Voice") ∈ gtb := gtb_of (mt1 (i := 25) rfl) rfl
theorem q1_27 : (Jvm.Cond.instantiable "TuneSchool$Voice" (5 : Nat)) ∈ gtb := gtb_of (mt1 (i := 27) rfl) rfl
theorem q1_29 : (Jvm.Cond.instanceMethod ({ cls := "TuneSchool$Voice", name := "<init>", desc := "()V" } : Jvm.MethodName)) ∈ gtb := gtb_of (mt1 (i := 29) rfl) rfl
theorem q1_30 : (Jvm.Cond.code ({ cls := "TuneSchool$Voice", name := "<init>", desc := "()V" } : Jvm.MethodName) prog_12_method_1_code (1 : Nat) (Option.none : Option Jvm.ClassFile.FieldType)) ∈ gtb := gtb_of (mt1 (i := 30) rfl) rfl
theorem q1_31 : (Jvm.Cond.methodLink "TuneSchool$Voice" (3 : Nat) ({ cls := "java/lang/Object", name := "<init>", desc := "()V" } : Jvm.MethodName)) ∈ gtb := gtb_of (mt1 (i := 31) rfl) rfl
theorem q1_32 : (Jvm.Cond.classLink "TuneSchool$Voice" (9 : Nat) "[[I") ∈ gtb := gtb_of (mt1 (i := 32) rfl) rfl
theorem q1_34 : (Jvm.Cond.fieldLink "TuneSchool$Voice" (11 : Nat) "TuneSchool$Voice" "rows" "[[I") ∈ gtb := gtb_of (mt1 (i := 34) rfl) rfl
theorem q1_35 : (Jvm.Cond.fieldLink "TuneSchool$Line" (28 : Nat) "TuneSchool$Voice" "rows" "[[I") ∈ gtb := gtb_of (mt1 (i := 35) rfl) rfl
theorem q1_36 : (Jvm.Cond.fieldLink "TuneSchool$Desk" (69 : Nat) "TuneSchool$Voice" "rows" "[[I") ∈ gtb := gtb_of (mt1 (i := 36) rfl) rfl
theorem q1_37 : (Jvm.Cond.fieldLink "TuneSchool" (102 : Nat) "TuneSchool$Voice" "rows" "[[I") ∈ gtb := gtb_of (mt1 (i := 37) rfl) rfl
theorem q1_38 : (Jvm.Cond.fieldLink "TuneSchool$Voice" (16 : Nat) "TuneSchool$Voice" "sizes" "[I") ∈ gtb := gtb_of (mt1 (i := 38) rfl) rfl
theorem q1_39 : (Jvm.Cond.fieldLink "TuneSchool$Line" (19 : Nat) "TuneSchool$Voice" "sizes" "[I") ∈ gtb := gtb_of (mt1 (i := 39) rfl) rfl
theorem q1_40 : (Jvm.Cond.fieldLink "TuneSchool$Desk" (88 : Nat) "TuneSchool$Voice" "sizes" "[I") ∈ gtb := gtb_of (mt1 (i := 40) rfl) rfl
theorem q1_41 : (Jvm.Cond.fieldLink "TuneSchool" (109 : Nat) "TuneSchool$Voice" "sizes" "[I") ∈ gtb := gtb_of (mt1 (i := 41) rfl) rfl
theorem q1_42 : (Jvm.Cond.fieldLink "TuneSchool$Voice" (20 : Nat) "TuneSchool$Voice" "ticks" "[I") ∈ gtb := gtb_of (mt1 (i := 42) rfl) rfl
theorem q1_43 : (Jvm.Cond.fieldLink "TuneSchool$Voice" (39 : Nat) "TuneSchool$Voice" "behindAll" "I") ∈ gtb := gtb_of (mt1 (i := 43) rfl) rfl
theorem q1_44 : (Jvm.Cond.fieldLink "TuneSchool" (116 : Nat) "TuneSchool$Voice" "behindAll" "I") ∈ gtb := gtb_of (mt1 (i := 44) rfl) rfl
theorem q1_45 : (Jvm.Cond.fieldLink "TuneSchool$Voice" (23 : Nat) "TuneSchool$Voice" "there" "Z") ∈ gtb := gtb_of (mt1 (i := 45) rfl) rfl
theorem q1_46 : (Jvm.Cond.fieldLink "TuneSchool" (90 : Nat) "TuneSchool$Voice" "there" "Z") ∈ gtb := gtb_of (mt1 (i := 46) rfl) rfl
theorem q1_47 : (Jvm.Cond.laysFinal "TuneSchool$Voice" "TuneSchool$Voice" "rows" "[[I") ∈ gtb := gtb_of (mt1 (i := 47) rfl) rfl
theorem q1_49 : (Jvm.Cond.laysFinal "TuneSchool$Voice" "TuneSchool$Voice" "sizes" "[I") ∈ gtb := gtb_of (mt1 (i := 49) rfl) rfl
theorem q1_51 : (Jvm.Cond.laysFinal "TuneSchool$Voice" "TuneSchool$Voice" "ticks" "[I") ∈ gtb := gtb_of (mt1 (i := 51) rfl) rfl
theorem q1_53 : (Jvm.Cond.lays "TuneSchool$Voice" "TuneSchool$Voice" "behindAll" "I") ∈ gtb := gtb_of (mt1 (i := 53) rfl) rfl
theorem q1_55 : (Jvm.Cond.lays "TuneSchool$Voice" "TuneSchool$Voice" "there" "Z") ∈ gtb := gtb_of (mt1 (i := 55) rfl) rfl
theorem q1_57 : (Jvm.Cond.superclass "TuneSchool$Voice" "java/lang/Object") ∈ gtb := gtb_of (mt1 (i := 57) rfl) rfl
theorem q1_58 : (Jvm.Cond.arrayClass Jvm.ClassFile.FieldType.int) ∈ gtb := gtb_of (mt1 (i := 58) rfl) rfl
theorem q1_59 : (Jvm.Cond.classLink "TuneSchool" (26 : Nat) "TuneSchool$Standing") ∈ gtb := gtb_of (mt1 (i := 59) rfl) rfl
theorem q1_61 : (Jvm.Cond.classLink "TuneSchool" (32 : Nat) "TuneSchool$Moment") ∈ gtb := gtb_of (mt1 (i := 61) rfl) rfl
theorem q1_62 : (Jvm.Cond.instantiable "TuneSchool$Moment" (11 : Nat)) ∈ gtb := gtb_of (mt1 (i := 62) rfl) rfl
theorem q1_64 : (Jvm.Cond.instanceMethod ({ cls := "TuneSchool$Moment", name := "<init>", desc := "()V" } : Jvm.MethodName)) ∈ gtb := gtb_of (mt1 (i := 64) rfl) rfl
theorem q1_65 : (Jvm.Cond.code ({ cls := "TuneSchool$Moment", name := "<init>", desc := "()V" } : Jvm.MethodName) prog_7_method_1_code (1 : Nat) (Option.none : Option Jvm.ClassFile.FieldType)) ∈ gtb := gtb_of (mt1 (i := 65) rfl) rfl
theorem q1_66 : (Jvm.Cond.methodLink "TuneSchool$Moment" (3 : Nat) ({ cls := "java/lang/Object", name := "<init>", desc := "()V" } : Jvm.MethodName)) ∈ gtb := gtb_of (mt1 (i := 66) rfl) rfl
theorem q1_67 : (Jvm.Cond.fieldLink "TuneSchool$Moment" (9 : Nat) "TuneSchool$Moment" "numbers" "[I") ∈ gtb := gtb_of (mt1 (i := 67) rfl) rfl
theorem q1_68 : (Jvm.Cond.fieldLink "TuneSchool" (311 : Nat) "TuneSchool$Moment" "numbers" "[I") ∈ gtb := gtb_of (mt1 (i := 68) rfl) rfl
theorem q1_69 : (Jvm.Cond.fieldLink "TuneSchool$Moment" (19 : Nat) "TuneSchool$Moment" "traced" "I") ∈ gtb := gtb_of (mt1 (i := 69) rfl) rfl
theorem q1_70 : (Jvm.Cond.fieldLink "TuneSchool" (305 : Nat) "TuneSchool$Moment" "traced" "I") ∈ gtb := gtb_of (mt1 (i := 70) rfl) rfl
theorem q1_71 : (Jvm.Cond.fieldLink "TuneSchool$Moment" (22 : Nat) "TuneSchool$Moment" "open" "Z") ∈ gtb := gtb_of (mt1 (i := 71) rfl) rfl
theorem q1_72 : (Jvm.Cond.fieldLink "TuneSchool$Desk" (144 : Nat) "TuneSchool$Moment" "open" "Z") ∈ gtb := gtb_of (mt1 (i := 72) rfl) rfl
theorem q1_73 : (Jvm.Cond.fieldLink "TuneSchool$Moment" (15 : Nat) "TuneSchool$Moment" "strongEach" "I") ∈ gtb := gtb_of (mt1 (i := 73) rfl) rfl
theorem q1_74 : (Jvm.Cond.fieldLink "TuneSchool" (181 : Nat) "TuneSchool$Moment" "strongEach" "I") ∈ gtb := gtb_of (mt1 (i := 74) rfl) rfl
theorem q1_75 : (Jvm.Cond.fieldLink "TuneSchool$Moment" (26 : Nat) "TuneSchool$Moment" "tick" "I") ∈ gtb := gtb_of (mt1 (i := 75) rfl) rfl
theorem q1_76 : (Jvm.Cond.fieldLink "TuneSchool$Leap" (32 : Nat) "TuneSchool$Moment" "tick" "I") ∈ gtb := gtb_of (mt1 (i := 76) rfl) rfl
theorem q1_77 : (Jvm.Cond.fieldLink "TuneSchool$Desk" (156 : Nat) "TuneSchool$Moment" "tick" "I") ∈ gtb := gtb_of (mt1 (i := 77) rfl) rfl
theorem q1_78 : (Jvm.Cond.fieldLink "TuneSchool" (361 : Nat) "TuneSchool$Moment" "tick" "I") ∈ gtb := gtb_of (mt1 (i := 78) rfl) rfl
theorem q1_79 : (Jvm.Cond.fieldLink "TuneSchool$Cadence" (27 : Nat) "TuneSchool$Moment" "p" "I") ∈ gtb := gtb_of (mt1 (i := 79) rfl) rfl
theorem q1_80 : (Jvm.Cond.fieldLink "TuneSchool$Interval" (29 : Nat) "TuneSchool$Moment" "p" "I") ∈ gtb := gtb_of (mt1 (i := 80) rfl) rfl
theorem q1_81 : (Jvm.Cond.fieldLink "TuneSchool$Moment" (35 : Nat) "TuneSchool$Moment" "p" "I") ∈ gtb := gtb_of (mt1 (i := 81) rfl) rfl
theorem q1_82 : (Jvm.Cond.fieldLink "TuneSchool$Leap" (23 : Nat) "TuneSchool$Moment" "p" "I") ∈ gtb := gtb_of (mt1 (i := 82) rfl) rfl
theorem q1_83 : (Jvm.Cond.fieldLink "TuneSchool$Desk" (150 : Nat) "TuneSchool$Moment" "p" "I") ∈ gtb := gtb_of (mt1 (i := 83) rfl) rfl
theorem q1_84 : (Jvm.Cond.fieldLink "TuneSchool$Cadence" (31 : Nat) "TuneSchool$Moment" "q" "I") ∈ gtb := gtb_of (mt1 (i := 84) rfl) rfl
theorem q1_85 : (Jvm.Cond.fieldLink "TuneSchool$Moment" (38 : Nat) "TuneSchool$Moment" "q" "I") ∈ gtb := gtb_of (mt1 (i := 85) rfl) rfl
theorem q1_86 : (Jvm.Cond.fieldLink "TuneSchool$Desk" (153 : Nat) "TuneSchool$Moment" "q" "I") ∈ gtb := gtb_of (mt1 (i := 86) rfl) rfl
theorem q1_87 : (Jvm.Cond.fieldLink "TuneSchool$Leap" (19 : Nat) "TuneSchool$Moment" "pBefore" "I") ∈ gtb := gtb_of (mt1 (i := 87) rfl) rfl
theorem q1_88 : (Jvm.Cond.fieldLink "TuneSchool$Moment" (41 : Nat) "TuneSchool$Moment" "pBefore" "I") ∈ gtb := gtb_of (mt1 (i := 88) rfl) rfl
theorem q1_89 : (Jvm.Cond.fieldLink "TuneSchool$Moment" (44 : Nat) "TuneSchool$Moment" "qBefore" "I") ∈ gtb := gtb_of (mt1 (i := 89) rfl) rfl
theorem q1_90 : (Jvm.Cond.fieldLink "TuneSchool$Cadence" (19 : Nat) "TuneSchool$Moment" "last" "Z") ∈ gtb := gtb_of (mt1 (i := 90) rfl) rfl
theorem q1_91 : (Jvm.Cond.fieldLink "TuneSchool$Moment" (47 : Nat) "TuneSchool$Moment" "last" "Z") ∈ gtb := gtb_of (mt1 (i := 91) rfl) rfl
theorem q1_92 : (Jvm.Cond.fieldLink "TuneSchool$Desk" (159 : Nat) "TuneSchool$Moment" "last" "Z") ∈ gtb := gtb_of (mt1 (i := 92) rfl) rfl
theorem q1_93 : (Jvm.Cond.fieldLink "TuneSchool$Leap" (15 : Nat) "TuneSchool$Moment" "alone" "LTuneSchool$Voice;") ∈ gtb := gtb_of (mt1 (i := 93) rfl) rfl
theorem q1_94 : (Jvm.Cond.fieldLink "TuneSchool$Moment" (50 : Nat) "TuneSchool$Moment" "alone" "LTuneSchool$Voice;") ∈ gtb := gtb_of (mt1 (i := 94) rfl) rfl
theorem q1_95 : (Jvm.Cond.fieldLink "TuneSchool$Rule" (23 : Nat) "TuneSchool$Moment" "alone" "LTuneSchool$Voice;") ∈ gtb := gtb_of (mt1 (i := 95) rfl) rfl
theorem q1_96 : (Jvm.Cond.fieldLink "TuneSchool$Desk" (147 : Nat) "TuneSchool$Moment" "alone" "LTuneSchool$Voice;") ∈ gtb := gtb_of (mt1 (i := 96) rfl) rfl
theorem q1_97 : (Jvm.Cond.fieldLink "TuneSchool" (341 : Nat) "TuneSchool$Moment" "alone" "LTuneSchool$Voice;") ∈ gtb := gtb_of (mt1 (i := 97) rfl) rfl
theorem q1_98 : (Jvm.Cond.laysFinal "TuneSchool$Moment" "TuneSchool$Moment" "numbers" "[I") ∈ gtb := gtb_of (mt1 (i := 98) rfl) rfl
theorem q1_100 : (Jvm.Cond.lays "TuneSchool$Moment" "TuneSchool$Moment" "traced" "I") ∈ gtb := gtb_of (mt1 (i := 100) rfl) rfl
theorem q1_102 : (Jvm.Cond.lays "TuneSchool$Moment" "TuneSchool$Moment" "open" "Z") ∈ gtb := gtb_of (mt1 (i := 102) rfl) rfl
theorem q1_104 : (Jvm.Cond.lays "TuneSchool$Moment" "TuneSchool$Moment" "strongEach" "I") ∈ gtb := gtb_of (mt1 (i := 104) rfl) rfl
theorem q1_106 : (Jvm.Cond.lays "TuneSchool$Moment" "TuneSchool$Moment" "tick" "I") ∈ gtb := gtb_of (mt1 (i := 106) rfl) rfl
theorem q1_108 : (Jvm.Cond.lays "TuneSchool$Moment" "TuneSchool$Moment" "p" "I") ∈ gtb := gtb_of (mt1 (i := 108) rfl) rfl
theorem q1_110 : (Jvm.Cond.lays "TuneSchool$Moment" "TuneSchool$Moment" "q" "I") ∈ gtb := gtb_of (mt1 (i := 110) rfl) rfl
theorem q1_112 : (Jvm.Cond.lays "TuneSchool$Moment" "TuneSchool$Moment" "pBefore" "I") ∈ gtb := gtb_of (mt1 (i := 112) rfl) rfl
theorem q1_114 : (Jvm.Cond.lays "TuneSchool$Moment" "TuneSchool$Moment" "qBefore" "I") ∈ gtb := gtb_of (mt1 (i := 114) rfl) rfl
theorem q1_116 : (Jvm.Cond.lays "TuneSchool$Moment" "TuneSchool$Moment" "last" "Z") ∈ gtb := gtb_of (mt1 (i := 116) rfl) rfl
theorem q1_118 : (Jvm.Cond.lays "TuneSchool$Moment" "TuneSchool$Moment" "alone" "LTuneSchool$Voice;") ∈ gtb := gtb_of (mt1 (i := 118) rfl) rfl
theorem q1_120 : (Jvm.Cond.superclass "TuneSchool$Moment" "java/lang/Object") ∈ gtb := gtb_of (mt1 (i := 120) rfl) rfl
theorem q1_121 : (Jvm.Cond.classLink "TuneSchool" (39 : Nat) "TuneSchool$Desk") ∈ gtb := gtb_of (mt1 (i := 121) rfl) rfl
theorem q1_122 : (Jvm.Cond.instantiable "TuneSchool$Desk" (17 : Nat)) ∈ gtb := gtb_of (mt1 (i := 122) rfl) rfl
theorem q1_123 : (Jvm.Cond.methodLink "TuneSchool" (41 : Nat) ({ cls := "TuneSchool$Desk", name := "<init>", desc := "(LTuneSchool$Moment;)V" } : Jvm.MethodName)) ∈ gtb := gtb_of (mt1 (i := 123) rfl) rfl
theorem q1_124 : (Jvm.Cond.instanceMethod ({ cls := "TuneSchool$Desk", name := "<init>", desc := "(LTuneSchool$Moment;)V" } : Jvm.MethodName)) ∈ gtb := gtb_of (mt1 (i := 124) rfl) rfl
theorem q1_125 : (Jvm.Cond.code ({ cls := "TuneSchool$Desk", name := "<init>", desc := "(LTuneSchool$Moment;)V" } : Jvm.MethodName) prog_3_method_1_code (2 : Nat) (Option.none : Option Jvm.ClassFile.FieldType)) ∈ gtb := gtb_of (mt1 (i := 125) rfl) rfl
theorem q1_126 : (Jvm.Cond.methodLink "TuneSchool$Desk" (3 : Nat) ({ cls := "java/lang/Object", name := "<init>", desc := "()V" } : Jvm.MethodName)) ∈ gtb := gtb_of (mt1 (i := 126) rfl) rfl
theorem q1_127 : (Jvm.Cond.classLink "TuneSchool$Desk" (25 : Nat) "TuneSchool$Voice") ∈ gtb := gtb_of (mt1 (i := 127) rfl) rfl
theorem q1_129 : (Jvm.Cond.fieldLink "TuneSchool$Desk" (44 : Nat) "TuneSchool$Desk" "m" "LTuneSchool$Moment;") ∈ gtb := gtb_of (mt1 (i := 129) rfl) rfl
theorem q1_130 : (Jvm.Cond.fieldLink "TuneSchool$Desk" (9 : Nat) "TuneSchool$Desk" "weights" "[I") ∈ gtb := gtb_of (mt1 (i := 130) rfl) rfl
theorem q1_131 : (Jvm.Cond.fieldLink "TuneSchool" (187 : Nat) "TuneSchool$Desk" "weights" "[I") ∈ gtb := gtb_of (mt1 (i := 131) rfl) rfl
theorem q1_132 : (Jvm.Cond.fieldLink "TuneSchool$Desk" (15 : Nat) "TuneSchool$Desk" "keys" "I") ∈ gtb := gtb_of (mt1 (i := 132) rfl) rfl
theorem q1_133 : (Jvm.Cond.fieldLink "TuneSchool" (184 : Nat) "TuneSchool$Desk" "keys" "I") ∈ gtb := gtb_of (mt1 (i := 133) rfl) rfl
theorem q1_134 : (Jvm.Cond.fieldLink "TuneSchool$Desk" (56 : Nat) "TuneSchool$Desk" "begun" "Z") ∈ gtb := gtb_of (mt1 (i := 134) rfl) rfl
theorem q1_135 : (Jvm.Cond.fieldLink "TuneSchool" (255 : Nat) "TuneSchool$Desk" "begun" "Z") ∈ gtb := gtb_of (mt1 (i := 135) rfl) rfl
theorem q1_136 : (Jvm.Cond.fieldLink "TuneSchool$Desk" (59 : Nat) "TuneSchool$Desk" "ended" "Z") ∈ gtb := gtb_of (mt1 (i := 136) rfl) rfl
theorem q1_137 : (Jvm.Cond.fieldLink "TuneSchool" (258 : Nat) "TuneSchool$Desk" "ended" "Z") ∈ gtb := gtb_of (mt1 (i := 137) rfl) rfl
theorem q1_138 : (Jvm.Cond.fieldLink "TuneSchool" (246 : Nat) "TuneSchool$Desk" "target" "I") ∈ gtb := gtb_of (mt1 (i := 138) rfl) rfl
theorem q1_139 : (Jvm.Cond.fieldLink "TuneSchool" (249 : Nat) "TuneSchool$Desk" "place" "I") ∈ gtb := gtb_of (mt1 (i := 139) rfl) rfl
theorem q1_140 : (Jvm.Cond.fieldLink "TuneSchool$Desk" (52 : Nat) "TuneSchool$Desk" "above" "Z") ∈ gtb := gtb_of (mt1 (i := 140) rfl) rfl
theorem q1_141 : (Jvm.Cond.fieldLink "TuneSchool$Desk" (19 : Nat) "TuneSchool$Desk" "low" "I") ∈ gtb := gtb_of (mt1 (i := 141) rfl) rfl
theorem q1_142 : (Jvm.Cond.fieldLink "TuneSchool$Desk" (22 : Nat) "TuneSchool$Desk" "high" "I") ∈ gtb := gtb_of (mt1 (i := 142) rfl) rfl
theorem q1_143 : (Jvm.Cond.fieldLink "TuneSchool$Desk" (62 : Nat) "TuneSchool$Desk" "done" "I") ∈ gtb := gtb_of (mt1 (i := 143) rfl) rfl
theorem q1_144 : (Jvm.Cond.fieldLink "TuneSchool" (323 : Nat) "TuneSchool$Desk" "done" "I") ∈ gtb := gtb_of (mt1 (i := 144) rfl) rfl
theorem q1_145 : (Jvm.Cond.fieldLink "TuneSchool$Desk" (77 : Nat) "TuneSchool$Desk" "lastHeardTick" "I") ∈ gtb := gtb_of (mt1 (i := 145) rfl) rfl
theorem q1_146 : (Jvm.Cond.fieldLink "TuneSchool$Desk" (28 : Nat) "TuneSchool$Desk" "given" "LTuneSchool$Voice;") ∈ gtb := gtb_of (mt1 (i := 146) rfl) rfl
theorem q1_147 : (Jvm.Cond.fieldLink "TuneSchool$Desk" (32 : Nat) "TuneSchool$Desk" "begins" "[I") ∈ gtb := gtb_of (mt1 (i := 147) rfl) rfl
theorem q1_148 : (Jvm.Cond.fieldLink "TuneSchool$Desk" (35 : Nat) "TuneSchool$Desk" "leasts" "[I") ∈ gtb := gtb_of (mt1 (i := 148) rfl) rfl
theorem q1_149 : (Jvm.Cond.fieldLink "TuneSchool" (279 : Nat) "TuneSchool$Desk" "leasts" "[I") ∈ gtb := gtb_of (mt1 (i := 149) rfl) rfl
theorem q1_150 : (Jvm.Cond.fieldLink "TuneSchool$Desk" (38 : Nat) "TuneSchool$Desk" "choices" "[I") ∈ gtb := gtb_of (mt1 (i := 150) rfl) rfl
theorem q1_151 : (Jvm.Cond.fieldLink "TuneSchool$Desk" (41 : Nat) "TuneSchool$Desk" "tunesFrom" "[I") ∈ gtb := gtb_of (mt1 (i := 151) rfl) rfl
theorem q1_152 : (Jvm.Cond.laysFinal "TuneSchool$Desk" "TuneSchool$Desk" "m" "LTuneSchool$Moment;") ∈ gtb := gtb_of (mt1 (i := 152) rfl) rfl
theorem q1_154 : (Jvm.Cond.laysFinal "TuneSchool$Desk" "TuneSchool$Desk" "weights" "[I") ∈ gtb := gtb_of (mt1 (i := 154) rfl) rfl
theorem q1_156 : (Jvm.Cond.lays "TuneSchool$Desk" "TuneSchool$Desk" "keys" "I") ∈ gtb := gtb_of (mt1 (i := 156) rfl) rfl
theorem q1_158 : (Jvm.Cond.lays "TuneSchool$Desk" "TuneSchool$Desk" "begun" "Z") ∈ gtb := gtb_of (mt1 (i := 158) rfl) rfl
theorem q1_160 : (Jvm.Cond.lays "TuneSchool$Desk" "TuneSchool$Desk" "ended" "Z") ∈ gtb := gtb_of (mt1 (i := 160) rfl) rfl
theorem q1_162 : (Jvm.Cond.lays "TuneSchool$Desk" "TuneSchool$Desk" "target" "I") ∈ gtb := gtb_of (mt1 (i := 162) rfl) rfl
theorem q1_164 : (Jvm.Cond.lays "TuneSchool$Desk" "TuneSchool$Desk" "place" "I") ∈ gtb := gtb_of (mt1 (i := 164) rfl) rfl
theorem q1_166 : (Jvm.Cond.lays "TuneSchool$Desk" "TuneSchool$Desk" "above" "Z") ∈ gtb := gtb_of (mt1 (i := 166) rfl) rfl
theorem q1_168 : (Jvm.Cond.lays "TuneSchool$Desk" "TuneSchool$Desk" "low" "I") ∈ gtb := gtb_of (mt1 (i := 168) rfl) rfl
theorem q1_170 : (Jvm.Cond.lays "TuneSchool$Desk" "TuneSchool$Desk" "high" "I") ∈ gtb := gtb_of (mt1 (i := 170) rfl) rfl
theorem q1_172 : (Jvm.Cond.lays "TuneSchool$Desk" "TuneSchool$Desk" "done" "I") ∈ gtb := gtb_of (mt1 (i := 172) rfl) rfl
theorem q1_174 : (Jvm.Cond.lays "TuneSchool$Desk" "TuneSchool$Desk" "lastHeardTick" "I") ∈ gtb := gtb_of (mt1 (i := 174) rfl) rfl
theorem q1_176 : (Jvm.Cond.laysFinal "TuneSchool$Desk" "TuneSchool$Desk" "given" "LTuneSchool$Voice;") ∈ gtb := gtb_of (mt1 (i := 176) rfl) rfl
theorem q1_178 : (Jvm.Cond.laysFinal "TuneSchool$Desk" "TuneSchool$Desk" "begins" "[I") ∈ gtb := gtb_of (mt1 (i := 178) rfl) rfl
theorem q1_180 : (Jvm.Cond.laysFinal "TuneSchool$Desk" "TuneSchool$Desk" "leasts" "[I") ∈ gtb := gtb_of (mt1 (i := 180) rfl) rfl
theorem q1_182 : (Jvm.Cond.laysFinal "TuneSchool$Desk" "TuneSchool$Desk" "choices" "[I") ∈ gtb := gtb_of (mt1 (i := 182) rfl) rfl
theorem q1_184 : (Jvm.Cond.laysFinal "TuneSchool$Desk" "TuneSchool$Desk" "tunesFrom" "[I") ∈ gtb := gtb_of (mt1 (i := 184) rfl) rfl
theorem q1_186 : (Jvm.Cond.superclass "TuneSchool$Desk" "java/lang/Object") ∈ gtb := gtb_of (mt1 (i := 186) rfl) rfl
theorem q1_187 : (Jvm.Cond.classLink "TuneSchool" (48 : Nat) "TuneSchool$Line") ∈ gtb := gtb_of (mt1 (i := 187) rfl) rfl
theorem q1_188 : (Jvm.Cond.instantiable "TuneSchool$Line" (3 : Nat)) ∈ gtb := gtb_of (mt1 (i := 188) rfl) rfl
theorem q1_190 : (Jvm.Cond.instanceMethod ({ cls := "TuneSchool$Line", name := "<init>", desc := "()V" } : Jvm.MethodName)) ∈ gtb := gtb_of (mt1 (i := 190) rfl) rfl
theorem q1_191 : (Jvm.Cond.code ({ cls := "TuneSchool$Line", name := "<init>", desc := "()V" } : Jvm.MethodName) prog_6_method_1_code (1 : Nat) (Option.none : Option Jvm.ClassFile.FieldType)) ∈ gtb := gtb_of (mt1 (i := 191) rfl) rfl
theorem q1_192 : (Jvm.Cond.methodLink "TuneSchool$Line" (3 : Nat) ({ cls := "java/lang/Object", name := "<init>", desc := "()V" } : Jvm.MethodName)) ∈ gtb := gtb_of (mt1 (i := 192) rfl) rfl
theorem q1_193 : (Jvm.Cond.fieldLink "TuneSchool$Line" (9 : Nat) "TuneSchool$Line" "characters" "[I") ∈ gtb := gtb_of (mt1 (i := 193) rfl) rfl
theorem q1_194 : (Jvm.Cond.fieldLink "TuneSchool" (299 : Nat) "TuneSchool$Line" "characters" "[I") ∈ gtb := gtb_of (mt1 (i := 194) rfl) rfl
theorem q1_195 : (Jvm.Cond.fieldLink "TuneSchool$Line" (15 : Nat) "TuneSchool$Line" "length" "I") ∈ gtb := gtb_of (mt1 (i := 195) rfl) rfl
theorem q1_196 : (Jvm.Cond.fieldLink "TuneSchool" (293 : Nat) "TuneSchool$Line" "length" "I") ∈ gtb := gtb_of (mt1 (i := 196) rfl) rfl
theorem q1_197 : (Jvm.Cond.fieldLink "TuneSchool$Line" (38 : Nat) "TuneSchool$Line" "at" "I") ∈ gtb := gtb_of (mt1 (i := 197) rfl) rfl
theorem q1_198 : (Jvm.Cond.laysFinal "TuneSchool$Line" "TuneSchool$Line" "characters" "[I") ∈ gtb := gtb_of (mt1 (i := 198) rfl) rfl
theorem q1_200 : (Jvm.Cond.lays "TuneSchool$Line" "TuneSchool$Line" "length" "I") ∈ gtb := gtb_of (mt1 (i := 200) rfl) rfl
theorem q1_202 : (Jvm.Cond.lays "TuneSchool$Line" "TuneSchool$Line" "at" "I") ∈ gtb := gtb_of (mt1 (i := 202) rfl) rfl
theorem q1_204 : (Jvm.Cond.superclass "TuneSchool$Line" "java/lang/Object") ∈ gtb := gtb_of (mt1 (i := 204) rfl) rfl
theorem q1_205 : (Jvm.Cond.classLink "TuneSchool" (59 : Nat) "TuneSchool$Rule") ∈ gtb := gtb_of (mt1 (i := 205) rfl) rfl
theorem q1_207 : (Jvm.Cond.fieldLink "TuneSchool" (11 : Nat) "TuneSchool" "voices" "[LTuneSchool$Voice;") ∈ gtb := gtb_of (mt1 (i := 207) rfl) rfl
theorem q1_208 : (Jvm.Cond.fieldLink "TuneSchool" (16 : Nat) "TuneSchool" "kept" "LTuneSchool$Voice;") ∈ gtb := gtb_of (mt1 (i := 208) rfl) rfl
theorem q1_209 : (Jvm.Cond.fieldLink "TuneSchool" (20 : Nat) "TuneSchool" "draft" "LTuneSchool$Voice;") ∈ gtb := gtb_of (mt1 (i := 209) rfl) rfl
theorem q1_210 : (Jvm.Cond.fieldLink "TuneSchool" (23 : Nat) "TuneSchool" "follower" "LTuneSchool$Voice;") ∈ gtb := gtb_of (mt1 (i := 210) rfl) rfl
theorem q1_211 : (Jvm.Cond.fieldLink "TuneSchool" (28 : Nat) "TuneSchool" "places" "[LTuneSchool$Standing;") ∈ gtb := gtb_of (mt1 (i := 211) rfl) rfl
theorem q1_212 : (Jvm.Cond.fieldLink "TuneSchool" (35 : Nat) "TuneSchool" "moment" "LTuneSchool$Moment;") ∈ gtb := gtb_of (mt1 (i := 212) rfl) rfl
theorem q1_213 : (Jvm.Cond.fieldLink "TuneSchool" (44 : Nat) "TuneSchool" "desk" "LTuneSchool$Desk;") ∈ gtb := gtb_of (mt1 (i := 213) rfl) rfl
theorem q1_214 : (Jvm.Cond.fieldLink "TuneSchool" (51 : Nat) "TuneSchool" "line" "LTuneSchool$Line;") ∈ gtb := gtb_of (mt1 (i := 214) rfl) rfl
theorem q1_215 : (Jvm.Cond.fieldLink "TuneSchool" (55 : Nat) "TuneSchool" "lasts" "[I") ∈ gtb := gtb_of (mt1 (i := 215) rfl) rfl
theorem q1_216 : (Jvm.Cond.fieldLink "TuneSchool" (61 : Nat) "TuneSchool" "faultRules" "[LTuneSchool$Rule;") ∈ gtb := gtb_of (mt1 (i := 216) rfl) rfl
theorem q1_217 : (Jvm.Cond.fieldLink "TuneSchool" (65 : Nat) "TuneSchool" "faultNumbers" "[I") ∈ gtb := gtb_of (mt1 (i := 217) rfl) rfl
theorem q1_218 : (Jvm.Cond.fieldLink "TuneSchool" (199 : Nat) "TuneSchool" "noted" "I") ∈ gtb := gtb_of (mt1 (i := 218) rfl) rfl
theorem q1_219 : (Jvm.Cond.fieldLink "TuneSchool" (202 : Nat) "TuneSchool" "faultsFound" "I") ∈ gtb := gtb_of (mt1 (i := 219) rfl) rfl
theorem q1_220 : (Jvm.Cond.fieldLink "TuneSchool" (68 : Nat) "TuneSchool" "keptNumber" "I") ∈ gtb := gtb_of (mt1 (i := 220) rfl) rfl
theorem q1_221 : (Jvm.Cond.fieldLink "TuneSchool" (302 : Nat) "TuneSchool" "latestFinding" "I") ∈ gtb := gtb_of (mt1 (i := 221) rfl) rfl
theorem q1_222 : (Jvm.Cond.fieldLink "TuneSchool" (314 : Nat) "TuneSchool" "findings" "I") ∈ gtb := gtb_of (mt1 (i := 222) rfl) rfl
theorem q1_223 : (Jvm.Cond.fieldLink "TuneSchool" (128 : Nat) "TuneSchool" "rowsCopied" "I") ∈ gtb := gtb_of (mt1 (i := 223) rfl) rfl
theorem q1_224 : (Jvm.Cond.laysFinal "TuneSchool" "TuneSchool" "voices" "[LTuneSchool$Voice;") ∈ gtb := gtb_of (mt1 (i := 224) rfl) rfl
theorem q1_226 : (Jvm.Cond.laysFinal "TuneSchool" "TuneSchool" "kept" "LTuneSchool$Voice;") ∈ gtb := gtb_of (mt1 (i := 226) rfl) rfl
theorem q1_228 : (Jvm.Cond.laysFinal "TuneSchool" "TuneSchool" "draft" "LTuneSchool$Voice;") ∈ gtb := gtb_of (mt1 (i := 228) rfl) rfl
theorem q1_230 : (Jvm.Cond.laysFinal "TuneSchool" "TuneSchool" "follower" "LTuneSchool$Voice;") ∈ gtb := gtb_of (mt1 (i := 230) rfl) rfl
theorem q1_232 : (Jvm.Cond.laysFinal "TuneSchool" "TuneSchool" "places" "[LTuneSchool$Standing;") ∈ gtb := gtb_of (mt1 (i := 232) rfl) rfl
theorem q1_234 : (Jvm.Cond.laysFinal "TuneSchool" "TuneSchool" "moment" "LTuneSchool$Moment;") ∈ gtb := gtb_of (mt1 (i := 234) rfl) rfl
theorem q1_236 : (Jvm.Cond.laysFinal "TuneSchool" "TuneSchool" "desk" "LTuneSchool$Desk;") ∈ gtb := gtb_of (mt1 (i := 236) rfl) rfl
theorem q1_238 : (Jvm.Cond.laysFinal "TuneSchool" "TuneSchool" "line" "LTuneSchool$Line;") ∈ gtb := gtb_of (mt1 (i := 238) rfl) rfl
theorem q2_0 : (Jvm.Cond.laysFinal "TuneSchool" "TuneSchool" "lasts" "[I") ∈ gtb := gtb_of (mt2 (i := 0) rfl) rfl
theorem q2_2 : (Jvm.Cond.laysFinal "TuneSchool" "TuneSchool" "faultRules" "[LTuneSchool$Rule;") ∈ gtb := gtb_of (mt2 (i := 2) rfl) rfl
theorem q2_4 : (Jvm.Cond.laysFinal "TuneSchool" "TuneSchool" "faultNumbers" "[I") ∈ gtb := gtb_of (mt2 (i := 4) rfl) rfl
theorem q2_6 : (Jvm.Cond.lays "TuneSchool" "TuneSchool" "noted" "I") ∈ gtb := gtb_of (mt2 (i := 6) rfl) rfl
theorem q2_8 : (Jvm.Cond.lays "TuneSchool" "TuneSchool" "faultsFound" "I") ∈ gtb := gtb_of (mt2 (i := 8) rfl) rfl
theorem q2_10 : (Jvm.Cond.lays "TuneSchool" "TuneSchool" "keptNumber" "I") ∈ gtb := gtb_of (mt2 (i := 10) rfl) rfl
theorem q2_12 : (Jvm.Cond.lays "TuneSchool" "TuneSchool" "latestFinding" "I") ∈ gtb := gtb_of (mt2 (i := 12) rfl) rfl
theorem q2_14 : (Jvm.Cond.lays "TuneSchool" "TuneSchool" "findings" "I") ∈ gtb := gtb_of (mt2 (i := 14) rfl) rfl
theorem q2_16 : (Jvm.Cond.lays "TuneSchool" "TuneSchool" "rowsCopied" "I") ∈ gtb := gtb_of (mt2 (i := 16) rfl) rfl
theorem q2_18 : (Jvm.Cond.superclass "TuneSchool" "java/lang/Object") ∈ gtb := gtb_of (mt2 (i := 18) rfl) rfl
theorem q2_19 : (Jvm.Cond.methodLink "TuneSchoolLaw" (13 : Nat) ({ cls := "TuneSchool", name := "voice", desc := "(II)I" } : Jvm.MethodName)) ∈ gtb := gtb_of (mt2 (i := 19) rfl) rfl
theorem q2_20 : (Jvm.Cond.instanceMethod ({ cls := "TuneSchool", name := "voice", desc := "(II)I" } : Jvm.MethodName)) ∈ gtb := gtb_of (mt2 (i := 20) rfl) rfl
theorem q2_21 : (Jvm.Cond.selects "TuneSchool" ({ cls := "TuneSchool", name := "voice", desc := "(II)I" } : Jvm.MethodName) ({ cls := "TuneSchool", name := "voice", desc := "(II)I" } : Jvm.MethodName)) ∈ gtb := gtb_of (mt2 (i := 21) rfl) rfl
theorem q2_22 : (Jvm.Cond.code ({ cls := "TuneSchool", name := "voice", desc := "(II)I" } : Jvm.MethodName) prog_1_method_2_code (3 : Nat) (Option.some Jvm.ClassFile.FieldType.int)) ∈ gtb := gtb_of (mt2 (i := 22) rfl) rfl
theorem q2_23 : (Jvm.Cond.methodLink "TuneSchool" (72 : Nat) ({ cls := "TuneSchool", name := "isVoice", desc := "(I)Z" } : Jvm.MethodName)) ∈ gtb := gtb_of (mt2 (i := 23) rfl) rfl
theorem q2_24 : (Jvm.Cond.static ({ cls := "TuneSchool", name := "isVoice", desc := "(I)Z" } : Jvm.MethodName)) ∈ gtb := gtb_of (mt2 (i := 24) rfl) rfl
theorem q2_25 : (Jvm.Cond.code ({ cls := "TuneSchool", name := "isVoice", desc := "(I)Z" } : Jvm.MethodName) prog_1_method_45_code (1 : Nat) (Option.some Jvm.ClassFile.FieldType.boolean)) ∈ gtb := gtb_of (mt2 (i := 25) rfl) rfl
theorem q2_26 : (Jvm.Cond.methodLink "TuneSchool" (76 : Nat) ({ cls := "TuneSchool", name := "finding", desc := "(I)I" } : Jvm.MethodName)) ∈ gtb := gtb_of (mt2 (i := 26) rfl) rfl
theorem q2_28 : (Jvm.Cond.instanceMethod ({ cls := "TuneSchool", name := "finding", desc := "(I)I" } : Jvm.MethodName)) ∈ gtb := gtb_of (mt2 (i := 28) rfl) rfl
theorem q2_29 : (Jvm.Cond.code ({ cls := "TuneSchool", name := "finding", desc := "(I)I" } : Jvm.MethodName) prog_1_method_49_code (2 : Nat) (Option.some Jvm.ClassFile.FieldType.int)) ∈ gtb := gtb_of (mt2 (i := 29) rfl) rfl
theorem q2_30 : (Jvm.Cond.methodLink "TuneSchool" (80 : Nat) ({ cls := "TuneSchool", name := "keep", desc := "(I)V" } : Jvm.MethodName)) ∈ gtb := gtb_of (mt2 (i := 30) rfl) rfl
theorem q2_32 : (Jvm.Cond.instanceMethod ({ cls := "TuneSchool", name := "keep", desc := "(I)V" } : Jvm.MethodName)) ∈ gtb := gtb_of (mt2 (i := 32) rfl) rfl
theorem q2_33 : (Jvm.Cond.code ({ cls := "TuneSchool", name := "keep", desc := "(I)V" } : Jvm.MethodName) prog_1_method_51_code (2 : Nat) (Option.none : Option Jvm.ClassFile.FieldType)) ∈ gtb := gtb_of (mt2 (i := 33) rfl) rfl
theorem q2_34 : (Jvm.Cond.methodLink "TuneSchool" (140 : Nat) ({ cls := "TuneSchool$Voice", name := "becomeAs", desc := "(LTuneSchool$Voice;)V" } : Jvm.MethodName)) ∈ gtb := gtb_of (mt2 (i := 34) rfl) rfl
theorem q2_35 : (Jvm.Cond.instanceMethod ({ cls := "TuneSchool$Voice", name := "becomeAs", desc := "(LTuneSchool$Voice;)V" } : Jvm.MethodName)) ∈ gtb := gtb_of (mt2 (i := 35) rfl) rfl
theorem q2_36 : (Jvm.Cond.selects "TuneSchool$Voice" ({ cls := "TuneSchool$Voice", name := "becomeAs", desc := "(LTuneSchool$Voice;)V" } : Jvm.MethodName) ({ cls := "TuneSchool$Voice", name := "becomeAs", desc := "(LTuneSchool$Voice;)V" } : Jvm.MethodName)) ∈ gtb := gtb_of (mt2 (i := 36) rfl) rfl
theorem q2_37 : (Jvm.Cond.code ({ cls := "TuneSchool$Voice", name := "becomeAs", desc := "(LTuneSchool$Voice;)V" } : Jvm.MethodName) prog_12_method_3_code (3 : Nat) (Option.none : Option Jvm.ClassFile.FieldType)) ∈ gtb := gtb_of (mt2 (i := 37) rfl) rfl
theorem q2_38 : (Jvm.Cond.methodLink "TuneSchool$Voice" (33 : Nat) ({ cls := "java/lang/System", name := "arraycopy", desc := "(Ljava/lang/Object;ILjava/lang/Object;II)V" } : Jvm.MethodName)) ∈ gtb := gtb_of (mt2 (i := 38) rfl) rfl
theorem q2_39 : (Jvm.Cond.static ({ cls := "java/lang/System", name := "arraycopy", desc := "(Ljava/lang/Object;ILjava/lang/Object;II)V" } : Jvm.MethodName)) ∈ gtb := gtb_of (mt2 (i := 39) rfl) rfl
theorem q2_40 : (Jvm.Cond.native ({ cls := "java/lang/System", name := "arraycopy", desc := "(Ljava/lang/Object;ILjava/lang/Object;II)V" } : Jvm.MethodName)) ∈ gtb := gtb_of (mt2 (i := 40) rfl) rfl
theorem q2_41 : (Jvm.Cond.methodLink "TuneSchool" (84 : Nat) ({ cls := "TuneSchool$Voice", name := "renew", desc := "(I)V" } : Jvm.MethodName)) ∈ gtb := gtb_of (mt2 (i := 41) rfl) rfl
theorem q2_42 : (Jvm.Cond.instanceMethod ({ cls := "TuneSchool$Voice", name := "renew", desc := "(I)V" } : Jvm.MethodName)) ∈ gtb := gtb_of (mt2 (i := 42) rfl) rfl
theorem q2_43 : (Jvm.Cond.selects "TuneSchool$Voice" ({ cls := "TuneSchool$Voice", name := "renew", desc := "(I)V" } : Jvm.MethodName) ({ cls := "TuneSchool$Voice", name := "renew", desc := "(I)V" } : Jvm.MethodName)) ∈ gtb := gtb_of (mt2 (i := 43) rfl) rfl
theorem q2_44 : (Jvm.Cond.code ({ cls := "TuneSchool$Voice", name := "renew", desc := "(I)V" } : Jvm.MethodName) prog_12_method_2_code (2 : Nat) (Option.none : Option Jvm.ClassFile.FieldType)) ∈ gtb := gtb_of (mt2 (i := 44) rfl) rfl
theorem q2_45 : (Jvm.Cond.methodLink "TuneSchool$Voice" (27 : Nat) ({ cls := "java/util/Arrays", name := "fill", desc := "([II)V" } : Jvm.MethodName)) ∈ gtb := gtb_of (mt2 (i := 45) rfl) rfl
theorem q2_46 : (Jvm.Cond.static ({ cls := "java/util/Arrays", name := "fill", desc := "([II)V" } : Jvm.MethodName)) ∈ gtb := gtb_of (mt2 (i := 46) rfl) rfl
theorem q2_47 : (Jvm.Cond.code ({ cls := "java/util/Arrays", name := "fill", desc := "([II)V" } : Jvm.MethodName) prog_17_method_103_code (4 : Nat) (Option.none : Option Jvm.ClassFile.FieldType)) ∈ gtb := gtb_of (mt2 (i := 47) rfl) rfl
theorem q2_48 : (Jvm.Cond.methodLink "TuneSchool" (87 : Nat) ({ cls := "TuneSchool", name := "fine", desc := "(I)I" } : Jvm.MethodName)) ∈ gtb := gtb_of (mt2 (i := 48) rfl) rfl
theorem q2_50 : (Jvm.Cond.instanceMethod ({ cls := "TuneSchool", name := "fine", desc := "(I)I" } : Jvm.MethodName)) ∈ gtb := gtb_of (mt2 (i := 50) rfl) rfl
theorem q2_51 : (Jvm.Cond.code ({ cls := "TuneSchool", name := "fine", desc := "(I)I" } : Jvm.MethodName) prog_1_method_50_code (2 : Nat) (Option.some Jvm.ClassFile.FieldType.int)) ∈ gtb := gtb_of (mt2 (i := 51) rfl) rfl
theorem q2_52 : (Jvm.Cond.methodLink "TuneSchoolLaw" (18 : Nat) ({ cls := "TuneSchool", name := "drop", desc := "(I)I" } : Jvm.MethodName)) ∈ gtb := gtb_of (mt2 (i := 52) rfl) rfl
theorem q2_53 : (Jvm.Cond.instanceMethod ({ cls := "TuneSchool", name := "drop", desc := "(I)I" } : Jvm.MethodName)) ∈ gtb := gtb_of (mt2 (i := 53) rfl) rfl
theorem q2_54 : (Jvm.Cond.selects "TuneSchool" ({ cls := "TuneSchool", name := "drop", desc := "(I)I" } : Jvm.MethodName) ({ cls := "TuneSchool", name := "drop", desc := "(I)I" } : Jvm.MethodName)) ∈ gtb := gtb_of (mt2 (i := 54) rfl) rfl
theorem q2_55 : (Jvm.Cond.code ({ cls := "TuneSchool", name := "drop", desc := "(I)I" } : Jvm.MethodName) prog_1_method_3_code (3 : Nat) (Option.some Jvm.ClassFile.FieldType.int)) ∈ gtb := gtb_of (mt2 (i := 55) rfl) rfl
theorem q2_56 : (Jvm.Cond.methodLink "TuneSchoolLaw" (23 : Nat) ({ cls := "TuneSchool", name := "note", desc := "(IIII)I" } : Jvm.MethodName)) ∈ gtb := gtb_of (mt2 (i := 56) rfl) rfl
theorem q2_57 : (Jvm.Cond.instanceMethod ({ cls := "TuneSchool", name := "note", desc := "(IIII)I" } : Jvm.MethodName)) ∈ gtb := gtb_of (mt2 (i := 57) rfl) rfl
theorem q2_58 : (Jvm.Cond.selects "TuneSchool" ({ cls := "TuneSchool", name := "note", desc := "(IIII)I" } : Jvm.MethodName) ({ cls := "TuneSchool", name := "note", desc := "(IIII)I" } : Jvm.MethodName)) ∈ gtb := gtb_of (mt2 (i := 58) rfl) rfl
theorem q2_59 : (Jvm.Cond.code ({ cls := "TuneSchool", name := "note", desc := "(IIII)I" } : Jvm.MethodName) prog_1_method_4_code (6 : Nat) (Option.some Jvm.ClassFile.FieldType.int)) ∈ gtb := gtb_of (mt2 (i := 59) rfl) rfl
theorem q2_60 : (Jvm.Cond.methodLink "TuneSchool" (94 : Nat) ({ cls := "TuneSchool", name := "isWithin", desc := "(III)Z" } : Jvm.MethodName)) ∈ gtb := gtb_of (mt2 (i := 60) rfl) rfl
theorem q2_61 : (Jvm.Cond.static ({ cls := "TuneSchool", name := "isWithin", desc := "(III)Z" } : Jvm.MethodName)) ∈ gtb := gtb_of (mt2 (i := 61) rfl) rfl
theorem q2_62 : (Jvm.Cond.code ({ cls := "TuneSchool", name := "isWithin", desc := "(III)Z" } : Jvm.MethodName) prog_1_method_44_code (3 : Nat) (Option.some Jvm.ClassFile.FieldType.boolean)) ∈ gtb := gtb_of (mt2 (i := 62) rfl) rfl
theorem q2_63 : (Jvm.Cond.methodLink "TuneSchool" (98 : Nat) ({ cls := "TuneSchool$Voice", name := "has", desc := "(II)Z" } : Jvm.MethodName)) ∈ gtb := gtb_of (mt2 (i := 63) rfl) rfl
theorem q2_64 : (Jvm.Cond.instanceMethod ({ cls := "TuneSchool$Voice", name := "has", desc := "(II)Z" } : Jvm.MethodName)) ∈ gtb := gtb_of (mt2 (i := 64) rfl) rfl
theorem q2_65 : (Jvm.Cond.selects "TuneSchool$Voice" ({ cls := "TuneSchool$Voice", name := "has", desc := "(II)Z" } : Jvm.MethodName) ({ cls := "TuneSchool$Voice", name := "has", desc := "(II)Z" } : Jvm.MethodName)) ∈ gtb := gtb_of (mt2 (i := 65) rfl) rfl
theorem q2_66 : (Jvm.Cond.code ({ cls := "TuneSchool$Voice", name := "has", desc := "(II)Z" } : Jvm.MethodName) prog_12_method_4_code (3 : Nat) (Option.some Jvm.ClassFile.FieldType.boolean)) ∈ gtb := gtb_of (mt2 (i := 66) rfl) rfl
theorem q2_67 : (Jvm.Cond.methodLink "TuneSchoolLaw" (28 : Nat) ({ cls := "TuneSchool", name := "cut", desc := "(III)I" } : Jvm.MethodName)) ∈ gtb := gtb_of (mt2 (i := 67) rfl) rfl
theorem q2_68 : (Jvm.Cond.instanceMethod ({ cls := "TuneSchool", name := "cut", desc := "(III)I" } : Jvm.MethodName)) ∈ gtb := gtb_of (mt2 (i := 68) rfl) rfl
theorem q2_69 : (Jvm.Cond.selects "TuneSchool" ({ cls := "TuneSchool", name := "cut", desc := "(III)I" } : Jvm.MethodName) ({ cls := "TuneSchool", name := "cut", desc := "(III)I" } : Jvm.MethodName)) ∈ gtb := gtb_of (mt2 (i := 69) rfl) rfl
theorem q2_70 : (Jvm.Cond.code ({ cls := "TuneSchool", name := "cut", desc := "(III)I" } : Jvm.MethodName) prog_1_method_5_code (6 : Nat) (Option.some Jvm.ClassFile.FieldType.int)) ∈ gtb := gtb_of (mt2 (i := 70) rfl) rfl
theorem q2_71 : (Jvm.Cond.methodLink "TuneSchool" (106 : Nat) ({ cls := "TuneSchool", name := "isRow", desc := "(I)Z" } : Jvm.MethodName)) ∈ gtb := gtb_of (mt2 (i := 71) rfl) rfl
theorem q2_72 : (Jvm.Cond.static ({ cls := "TuneSchool", name := "isRow", desc := "(I)Z" } : Jvm.MethodName)) ∈ gtb := gtb_of (mt2 (i := 72) rfl) rfl
theorem q2_73 : (Jvm.Cond.code ({ cls := "TuneSchool", name := "isRow", desc := "(I)Z" } : Jvm.MethodName) prog_1_method_46_code (1 : Nat) (Option.some Jvm.ClassFile.FieldType.boolean)) ∈ gtb := gtb_of (mt2 (i := 73) rfl) rfl
theorem q2_74 : (Jvm.Cond.methodLink "TuneSchoolLaw" (33 : Nat) ({ cls := "TuneSchool", name := "size", desc := "(II)I" } : Jvm.MethodName)) ∈ gtb := gtb_of (mt2 (i := 74) rfl) rfl
theorem q2_75 : (Jvm.Cond.instanceMethod ({ cls := "TuneSchool", name := "size", desc := "(II)I" } : Jvm.MethodName)) ∈ gtb := gtb_of (mt2 (i := 75) rfl) rfl
theorem q2_76 : (Jvm.Cond.selects "TuneSchool" ({ cls := "TuneSchool", name := "size", desc := "(II)I" } : Jvm.MethodName) ({ cls := "TuneSchool", name := "size", desc := "(II)I" } : Jvm.MethodName)) ∈ gtb := gtb_of (mt2 (i := 76) rfl) rfl
theorem q2_77 : (Jvm.Cond.code ({ cls := "TuneSchool", name := "size", desc := "(II)I" } : Jvm.MethodName) prog_1_method_6_code (3 : Nat) (Option.some Jvm.ClassFile.FieldType.int)) ∈ gtb := gtb_of (mt2 (i := 77) rfl) rfl
theorem q2_78 : (Jvm.Cond.methodLink "TuneSchoolLaw" (37 : Nat) ({ cls := "TuneSchool", name := "number", desc := "(III)I" } : Jvm.MethodName)) ∈ gtb := gtb_of (mt2 (i := 78) rfl) rfl
theorem q2_79 : (Jvm.Cond.instanceMethod ({ cls := "TuneSchool", name := "number", desc := "(III)I" } : Jvm.MethodName)) ∈ gtb := gtb_of (mt2 (i := 79) rfl) rfl
theorem q2_80 : (Jvm.Cond.selects "TuneSchool" ({ cls := "TuneSchool", name := "number", desc := "(III)I" } : Jvm.MethodName) ({ cls := "TuneSchool", name := "number", desc := "(III)I" } : Jvm.MethodName)) ∈ gtb := gtb_of (mt2 (i := 80) rfl) rfl
theorem q2_81 : (Jvm.Cond.code ({ cls := "TuneSchool", name := "number", desc := "(III)I" } : Jvm.MethodName) prog_1_method_7_code (5 : Nat) (Option.some Jvm.ClassFile.FieldType.int)) ∈ gtb := gtb_of (mt2 (i := 81) rfl) rfl
theorem q2_82 : (Jvm.Cond.methodLink "TuneSchoolLaw" (41 : Nat) ({ cls := "TuneSchool", name := "end", desc := "(I)I" } : Jvm.MethodName)) ∈ gtb := gtb_of (mt2 (i := 82) rfl) rfl
theorem q2_83 : (Jvm.Cond.instanceMethod ({ cls := "TuneSchool", name := "end", desc := "(I)I" } : Jvm.MethodName)) ∈ gtb := gtb_of (mt2 (i := 83) rfl) rfl
theorem q2_84 : (Jvm.Cond.selects "TuneSchool" ({ cls := "TuneSchool", name := "end", desc := "(I)I" } : Jvm.MethodName) ({ cls := "TuneSchool", name := "end", desc := "(I)I" } : Jvm.MethodName)) ∈ gtb := gtb_of (mt2 (i := 84) rfl) rfl
theorem q2_85 : (Jvm.Cond.code ({ cls := "TuneSchool", name := "end", desc := "(I)I" } : Jvm.MethodName) prog_1_method_8_code (3 : Nat) (Option.some Jvm.ClassFile.FieldType.int)) ∈ gtb := gtb_of (mt2 (i := 85) rfl) rfl
theorem q2_86 : (Jvm.Cond.methodLink "TuneSchool" (112 : Nat) ({ cls := "TuneSchool", name := "goThrough", desc := "(LTuneSchool$Voice;)I" } : Jvm.MethodName)) ∈ gtb := gtb_of (mt2 (i := 86) rfl) rfl
theorem q2_87 : (Jvm.Cond.static ({ cls := "TuneSchool", name := "goThrough", desc := "(LTuneSchool$Voice;)I" } : Jvm.MethodName)) ∈ gtb := gtb_of (mt2 (i := 87) rfl) rfl
theorem q2_88 : (Jvm.Cond.code ({ cls := "TuneSchool", name := "goThrough", desc := "(LTuneSchool$Voice;)I" } : Jvm.MethodName) prog_1_method_52_code (1 : Nat) (Option.some Jvm.ClassFile.FieldType.int)) ∈ gtb := gtb_of (mt2 (i := 88) rfl) rfl
theorem q2_89 : (Jvm.Cond.methodLink "TuneSchool" (326 : Nat) ({ cls := "TuneSchool$Voice", name := "walk", desc := "()Z" } : Jvm.MethodName)) ∈ gtb := gtb_of (mt2 (i := 89) rfl) rfl
theorem q2_90 : (Jvm.Cond.instanceMethod ({ cls := "TuneSchool$Voice", name := "walk", desc := "()Z" } : Jvm.MethodName)) ∈ gtb := gtb_of (mt2 (i := 90) rfl) rfl
theorem q2_91 : (Jvm.Cond.selects "TuneSchool$Voice" ({ cls := "TuneSchool$Voice", name := "walk", desc := "()Z" } : Jvm.MethodName) ({ cls := "TuneSchool$Voice", name := "walk", desc := "()Z" } : Jvm.MethodName)) ∈ gtb := gtb_of (mt2 (i := 91) rfl) rfl
theorem q2_92 : (Jvm.Cond.code ({ cls := "TuneSchool$Voice", name := "walk", desc := "()Z" } : Jvm.MethodName) prog_12_method_6_code (4 : Nat) (Option.some Jvm.ClassFile.FieldType.boolean)) ∈ gtb := gtb_of (mt2 (i := 92) rfl) rfl
theorem q2_93 : (Jvm.Cond.methodLink "TuneSchoolLaw" (45 : Nat) ({ cls := "TuneSchool", name := "sounds", desc := "(II)I" } : Jvm.MethodName)) ∈ gtb := gtb_of (mt2 (i := 93) rfl) rfl
theorem q2_94 : (Jvm.Cond.instanceMethod ({ cls := "TuneSchool", name := "sounds", desc := "(II)I" } : Jvm.MethodName)) ∈ gtb := gtb_of (mt2 (i := 94) rfl) rfl
theorem q2_95 : (Jvm.Cond.selects "TuneSchool" ({ cls := "TuneSchool", name := "sounds", desc := "(II)I" } : Jvm.MethodName) ({ cls := "TuneSchool", name := "sounds", desc := "(II)I" } : Jvm.MethodName)) ∈ gtb := gtb_of (mt2 (i := 95) rfl) rfl
theorem q2_96 : (Jvm.Cond.code ({ cls := "TuneSchool", name := "sounds", desc := "(II)I" } : Jvm.MethodName) prog_1_method_9_code (4 : Nat) (Option.some Jvm.ClassFile.FieldType.int)) ∈ gtb := gtb_of (mt2 (i := 96) rfl) rfl
theorem q2_97 : (Jvm.Cond.methodLink "TuneSchool" (119 : Nat) ({ cls := "TuneSchool$Voice", name := "at", desc := "(I)I" } : Jvm.MethodName)) ∈ gtb := gtb_of (mt2 (i := 97) rfl) rfl
theorem q2_98 : (Jvm.Cond.instanceMethod ({ cls := "TuneSchool$Voice", name := "at", desc := "(I)I" } : Jvm.MethodName)) ∈ gtb := gtb_of (mt2 (i := 98) rfl) rfl
theorem q2_99 : (Jvm.Cond.selects "TuneSchool$Voice" ({ cls := "TuneSchool$Voice", name := "at", desc := "(I)I" } : Jvm.MethodName) ({ cls := "TuneSchool$Voice", name := "at", desc := "(I)I" } : Jvm.MethodName)) ∈ gtb := gtb_of (mt2 (i := 99) rfl) rfl
theorem q2_100 : (Jvm.Cond.code ({ cls := "TuneSchool$Voice", name := "at", desc := "(I)I" } : Jvm.MethodName) prog_12_method_7_code (2 : Nat) (Option.some Jvm.ClassFile.FieldType.int)) ∈ gtb := gtb_of (mt2 (i := 100) rfl) rfl
theorem q2_101 : (Jvm.Cond.methodLink "TuneSchoolLaw" (49 : Nat) ({ cls := "TuneSchool", name := "transpose", desc := "(II)I" } : Jvm.MethodName)) ∈ gtb := gtb_of (mt2 (i := 101) rfl) rfl
theorem q2_102 : (Jvm.Cond.instanceMethod ({ cls := "TuneSchool", name := "transpose", desc := "(II)I" } : Jvm.MethodName)) ∈ gtb := gtb_of (mt2 (i := 102) rfl) rfl
theorem q2_103 : (Jvm.Cond.selects "TuneSchool" ({ cls := "TuneSchool", name := "transpose", desc := "(II)I" } : Jvm.MethodName) ({ cls := "TuneSchool", name := "transpose", desc := "(II)I" } : Jvm.MethodName)) ∈ gtb := gtb_of (mt2 (i := 103) rfl) rfl
theorem q2_104 : (Jvm.Cond.code ({ cls := "TuneSchool", name := "transpose", desc := "(II)I" } : Jvm.MethodName) prog_1_method_10_code (4 : Nat) (Option.some Jvm.ClassFile.FieldType.int)) ∈ gtb := gtb_of (mt2 (i := 104) rfl) rfl
theorem q2_105 : (Jvm.Cond.methodLink "TuneSchool" (122 : Nat) ({ cls := "TuneSchool$Voice", name := "canShift", desc := "(I)Z" } : Jvm.MethodName)) ∈ gtb := gtb_of (mt2 (i := 105) rfl) rfl
theorem q2_106 : (Jvm.Cond.instanceMethod ({ cls := "TuneSchool$Voice", name := "canShift", desc := "(I)Z" } : Jvm.MethodName)) ∈ gtb := gtb_of (mt2 (i := 106) rfl) rfl
theorem q2_107 : (Jvm.Cond.selects "TuneSchool$Voice" ({ cls := "TuneSchool$Voice", name := "canShift", desc := "(I)Z" } : Jvm.MethodName) ({ cls := "TuneSchool$Voice", name := "canShift", desc := "(I)Z" } : Jvm.MethodName)) ∈ gtb := gtb_of (mt2 (i := 107) rfl) rfl
theorem q2_108 : (Jvm.Cond.code ({ cls := "TuneSchool$Voice", name := "canShift", desc := "(I)Z" } : Jvm.MethodName) prog_12_method_10_code (4 : Nat) (Option.some Jvm.ClassFile.FieldType.boolean)) ∈ gtb := gtb_of (mt2 (i := 108) rfl) rfl
theorem q2_110 : (Jvm.Cond.methodLink "TuneSchool" (125 : Nat) ({ cls := "TuneSchool$Voice", name := "shift", desc := "(I)I" } : Jvm.MethodName)) ∈ gtb := gtb_of (mt2 (i := 110) rfl) rfl
theorem q2_111 : (Jvm.Cond.instanceMethod ({ cls := "TuneSchool$Voice", name := "shift", desc := "(I)I" } : Jvm.MethodName)) ∈ gtb := gtb_of (mt2 (i := 111) rfl) rfl
theorem q2_112 : (Jvm.Cond.selects "TuneSchool$Voice" ({ cls := "TuneSchool$Voice", name := "shift", desc := "(I)I" } : Jvm.MethodName) ({ cls := "TuneSchool$Voice", name := "shift", desc := "(I)I" } : Jvm.MethodName)) ∈ gtb := gtb_of (mt2 (i := 112) rfl) rfl
theorem q2_113 : (Jvm.Cond.code ({ cls := "TuneSchool$Voice", name := "shift", desc := "(I)I" } : Jvm.MethodName) prog_12_method_11_code (4 : Nat) (Option.some Jvm.ClassFile.FieldType.int)) ∈ gtb := gtb_of (mt2 (i := 113) rfl) rfl
theorem q2_114 : (Jvm.Cond.methodLink "TuneSchoolLaw" (53 : Nat) ({ cls := "TuneSchool", name := "copy", desc := "(IIIII)I" } : Jvm.MethodName)) ∈ gtb := gtb_of (mt2 (i := 114) rfl) rfl
theorem q2_115 : (Jvm.Cond.instanceMethod ({ cls := "TuneSchool", name := "copy", desc := "(IIIII)I" } : Jvm.MethodName)) ∈ gtb := gtb_of (mt2 (i := 115) rfl) rfl
theorem q2_116 : (Jvm.Cond.selects "TuneSchool" ({ cls := "TuneSchool", name := "copy", desc := "(IIIII)I" } : Jvm.MethodName) ({ cls := "TuneSchool", name := "copy", desc := "(IIIII)I" } : Jvm.MethodName)) ∈ gtb := gtb_of (mt2 (i := 116) rfl) rfl
theorem q2_117 : (Jvm.Cond.code ({ cls := "TuneSchool", name := "copy", desc := "(IIIII)I" } : Jvm.MethodName) prog_1_method_11_code (8 : Nat) (Option.some Jvm.ClassFile.FieldType.int)) ∈ gtb := gtb_of (mt2 (i := 117) rfl) rfl
theorem q2_118 : (Jvm.Cond.methodLink "TuneSchool" (131 : Nat) ({ cls := "TuneSchool$Voice", name := "hasPart", desc := "(III)Z" } : Jvm.MethodName)) ∈ gtb := gtb_of (mt2 (i := 118) rfl) rfl
theorem q2_119 : (Jvm.Cond.instanceMethod ({ cls := "TuneSchool$Voice", name := "hasPart", desc := "(III)Z" } : Jvm.MethodName)) ∈ gtb := gtb_of (mt2 (i := 119) rfl) rfl
theorem q2_120 : (Jvm.Cond.selects "TuneSchool$Voice" ({ cls := "TuneSchool$Voice", name := "hasPart", desc := "(III)Z" } : Jvm.MethodName) ({ cls := "TuneSchool$Voice", name := "hasPart", desc := "(III)Z" } : Jvm.MethodName)) ∈ gtb := gtb_of (mt2 (i := 120) rfl) rfl
theorem q2_121 : (Jvm.Cond.code ({ cls := "TuneSchool$Voice", name := "hasPart", desc := "(III)Z" } : Jvm.MethodName) prog_12_method_5_code (4 : Nat) (Option.some Jvm.ClassFile.FieldType.boolean)) ∈ gtb := gtb_of (mt2 (i := 121) rfl) rfl
theorem q2_122 : (Jvm.Cond.methodLink "TuneSchool" (134 : Nat) ({ cls := "java/lang/System", name := "arraycopy", desc := "(Ljava/lang/Object;ILjava/lang/Object;II)V" } : Jvm.MethodName)) ∈ gtb := gtb_of (mt2 (i := 122) rfl) rfl
theorem q2_123 : (Jvm.Cond.methodLink "TuneSchoolLaw" (58 : Nat) ({ cls := "TuneSchool", name := "undo", desc := "()I" } : Jvm.MethodName)) ∈ gtb := gtb_of (mt2 (i := 123) rfl) rfl
theorem q2_124 : (Jvm.Cond.instanceMethod ({ cls := "TuneSchool", name := "undo", desc := "()I" } : Jvm.MethodName)) ∈ gtb := gtb_of (mt2 (i := 124) rfl) rfl
theorem q2_125 : (Jvm.Cond.selects "TuneSchool" ({ cls := "TuneSchool", name := "undo", desc := "()I" } : Jvm.MethodName) ({ cls := "TuneSchool", name := "undo", desc := "()I" } : Jvm.MethodName)) ∈ gtb := gtb_of (mt2 (i := 125) rfl) rfl
theorem q2_126 : (Jvm.Cond.code ({ cls := "TuneSchool", name := "undo", desc := "()I" } : Jvm.MethodName) prog_1_method_12_code (1 : Nat) (Option.some Jvm.ClassFile.FieldType.int)) ∈ gtb := gtb_of (mt2 (i := 126) rfl) rfl
theorem q2_127 : (Jvm.Cond.methodLink "TuneSchoolLaw" (63 : Nat) ({ cls := "TuneSchool", name := "rule", desc := "(II)I" } : Jvm.MethodName)) ∈ gtb := gtb_of (mt2 (i := 127) rfl) rfl
theorem q2_128 : (Jvm.Cond.instanceMethod ({ cls := "TuneSchool", name := "rule", desc := "(II)I" } : Jvm.MethodName)) ∈ gtb := gtb_of (mt2 (i := 128) rfl) rfl
theorem q2_129 : (Jvm.Cond.selects "TuneSchool" ({ cls := "TuneSchool", name := "rule", desc := "(II)I" } : Jvm.MethodName) ({ cls := "TuneSchool", name := "rule", desc := "(II)I" } : Jvm.MethodName)) ∈ gtb := gtb_of (mt2 (i := 129) rfl) rfl
theorem q2_130 : (Jvm.Cond.code ({ cls := "TuneSchool", name := "rule", desc := "(II)I" } : Jvm.MethodName) prog_1_method_13_code (3 : Nat) (Option.some Jvm.ClassFile.FieldType.int)) ∈ gtb := gtb_of (mt2 (i := 130) rfl) rfl
theorem q2_131 : (Jvm.Cond.methodLink "TuneSchool" (144 : Nat) ({ cls := "TuneSchool", name := "isPlace", desc := "(I)Z" } : Jvm.MethodName)) ∈ gtb := gtb_of (mt2 (i := 131) rfl) rfl
theorem q2_132 : (Jvm.Cond.static ({ cls := "TuneSchool", name := "isPlace", desc := "(I)Z" } : Jvm.MethodName)) ∈ gtb := gtb_of (mt2 (i := 132) rfl) rfl
theorem q2_133 : (Jvm.Cond.code ({ cls := "TuneSchool", name := "isPlace", desc := "(I)Z" } : Jvm.MethodName) prog_1_method_47_code (1 : Nat) (Option.some Jvm.ClassFile.FieldType.boolean)) ∈ gtb := gtb_of (mt2 (i := 133) rfl) rfl
theorem q2_134 : (Jvm.Cond.methodLink "TuneSchool" (147 : Nat) ({ cls := "TuneSchool", name := "newRule", desc := "(I)LTuneSchool$Rule;" } : Jvm.MethodName)) ∈ gtb := gtb_of (mt2 (i := 134) rfl) rfl
theorem q2_135 : (Jvm.Cond.static ({ cls := "TuneSchool", name := "newRule", desc := "(I)LTuneSchool$Rule;" } : Jvm.MethodName)) ∈ gtb := gtb_of (mt2 (i := 135) rfl) rfl
theorem q2_136 : (Jvm.Cond.code ({ cls := "TuneSchool", name := "newRule", desc := "(I)LTuneSchool$Rule;" } : Jvm.MethodName) prog_1_method_55_code (1 : Nat) (Option.some (Jvm.ClassFile.FieldType.object "TuneSchool$Rule"))) ∈ gtb := gtb_of (mt2 (i := 136) rfl) rfl
theorem q2_137 : (Jvm.Cond.classLink "TuneSchool" (329 : Nat) "TuneSchool$Motion") ∈ gtb := gtb_of (mt2 (i := 137) rfl) rfl
theorem q2_138 : (Jvm.Cond.instantiable "TuneSchool$Motion" (1 : Nat)) ∈ gtb := gtb_of (mt2 (i := 138) rfl) rfl
theorem q2_140 : (Jvm.Cond.instanceMethod ({ cls := "TuneSchool$Motion", name := "<init>", desc := "()V" } : Jvm.MethodName)) ∈ gtb := gtb_of (mt2 (i := 140) rfl) rfl
theorem q2_141 : (Jvm.Cond.code ({ cls := "TuneSchool$Motion", name := "<init>", desc := "()V" } : Jvm.MethodName) prog_8_method_1_code (1 : Nat) (Option.none : Option Jvm.ClassFile.FieldType)) ∈ gtb := gtb_of (mt2 (i := 141) rfl) rfl
theorem q2_143 : (Jvm.Cond.instanceMethod ({ cls := "TuneSchool$Interval", name := "<init>", desc := "()V" } : Jvm.MethodName)) ∈ gtb := gtb_of (mt2 (i := 143) rfl) rfl
theorem q2_144 : (Jvm.Cond.code ({ cls := "TuneSchool$Interval", name := "<init>", desc := "()V" } : Jvm.MethodName) prog_4_method_1_code (1 : Nat) (Option.none : Option Jvm.ClassFile.FieldType)) ∈ gtb := gtb_of (mt2 (i := 144) rfl) rfl
theorem q2_146 : (Jvm.Cond.instanceMethod ({ cls := "TuneSchool$Rule", name := "<init>", desc := "()V" } : Jvm.MethodName)) ∈ gtb := gtb_of (mt2 (i := 146) rfl) rfl
theorem q2_147 : (Jvm.Cond.code ({ cls := "TuneSchool$Rule", name := "<init>", desc := "()V" } : Jvm.MethodName) prog_9_method_1_code (1 : Nat) (Option.none : Option Jvm.ClassFile.FieldType)) ∈ gtb := gtb_of (mt2 (i := 147) rfl) rfl
theorem q2_149 : (Jvm.Cond.instanceMethod ({ cls := "TuneSchool$Standing", name := "<init>", desc := "()V" } : Jvm.MethodName)) ∈ gtb := gtb_of (mt2 (i := 149) rfl) rfl
theorem q2_150 : (Jvm.Cond.code ({ cls := "TuneSchool$Standing", name := "<init>", desc := "()V" } : Jvm.MethodName) prog_11_method_1_code (1 : Nat) (Option.none : Option Jvm.ClassFile.FieldType)) ∈ gtb := gtb_of (mt2 (i := 150) rfl) rfl
theorem q2_151 : (Jvm.Cond.methodLink "TuneSchool$Standing" (1 : Nat) ({ cls := "java/lang/Object", name := "<init>", desc := "()V" } : Jvm.MethodName)) ∈ gtb := gtb_of (mt2 (i := 151) rfl) rfl
theorem q2_152 : (Jvm.Cond.fieldLink "TuneSchool$Rule" (9 : Nat) "TuneSchool$Rule" "truths" "[J") ∈ gtb := gtb_of (mt2 (i := 152) rfl) rfl
theorem q2_153 : (Jvm.Cond.laysFinal "TuneSchool$Motion" "TuneSchool$Rule" "truths" "[J") ∈ gtb := gtb_of (mt2 (i := 153) rfl) rfl
theorem q2_155 : (Jvm.Cond.superclass "TuneSchool$Motion" "TuneSchool$Interval") ∈ gtb := gtb_of (mt2 (i := 155) rfl) rfl
theorem q2_156 : (Jvm.Cond.arrayClass Jvm.ClassFile.FieldType.long) ∈ gtb := gtb_of (mt2 (i := 156) rfl) rfl
theorem q2_157 : (Jvm.Cond.classLink "TuneSchool" (332 : Nat) "TuneSchool$Leap") ∈ gtb := gtb_of (mt2 (i := 157) rfl) rfl
theorem q2_158 : (Jvm.Cond.instantiable "TuneSchool$Leap" (1 : Nat)) ∈ gtb := gtb_of (mt2 (i := 158) rfl) rfl
theorem q2_160 : (Jvm.Cond.instanceMethod ({ cls := "TuneSchool$Leap", name := "<init>", desc := "()V" } : Jvm.MethodName)) ∈ gtb := gtb_of (mt2 (i := 160) rfl) rfl
theorem q2_161 : (Jvm.Cond.code ({ cls := "TuneSchool$Leap", name := "<init>", desc := "()V" } : Jvm.MethodName) prog_5_method_1_code (1 : Nat) (Option.none : Option Jvm.ClassFile.FieldType)) ∈ gtb := gtb_of (mt2 (i := 161) rfl) rfl
theorem q2_163 : (Jvm.Cond.laysFinal "TuneSchool$Leap" "TuneSchool$Rule" "truths" "[J") ∈ gtb := gtb_of (mt2 (i := 163) rfl) rfl
theorem q2_164 : (Jvm.Cond.superclass "TuneSchool$Leap" "TuneSchool$Rule") ∈ gtb := gtb_of (mt2 (i := 164) rfl) rfl
theorem q2_165 : (Jvm.Cond.classLink "TuneSchool" (335 : Nat) "TuneSchool$Cadence") ∈ gtb := gtb_of (mt2 (i := 165) rfl) rfl
theorem q2_166 : (Jvm.Cond.instantiable "TuneSchool$Cadence" (1 : Nat)) ∈ gtb := gtb_of (mt2 (i := 166) rfl) rfl
theorem q2_168 : (Jvm.Cond.instanceMethod ({ cls := "TuneSchool$Cadence", name := "<init>", desc := "()V" } : Jvm.MethodName)) ∈ gtb := gtb_of (mt2 (i := 168) rfl) rfl
theorem q2_169 : (Jvm.Cond.code ({ cls := "TuneSchool$Cadence", name := "<init>", desc := "()V" } : Jvm.MethodName) prog_2_method_1_code (1 : Nat) (Option.none : Option Jvm.ClassFile.FieldType)) ∈ gtb := gtb_of (mt2 (i := 169) rfl) rfl
theorem q2_171 : (Jvm.Cond.laysFinal "TuneSchool$Cadence" "TuneSchool$Rule" "truths" "[J") ∈ gtb := gtb_of (mt2 (i := 171) rfl) rfl
theorem q2_172 : (Jvm.Cond.superclass "TuneSchool$Cadence" "TuneSchool$Motion") ∈ gtb := gtb_of (mt2 (i := 172) rfl) rfl
theorem q2_173 : (Jvm.Cond.classLink "TuneSchool" (338 : Nat) "TuneSchool$Interval") ∈ gtb := gtb_of (mt2 (i := 173) rfl) rfl
theorem q2_174 : (Jvm.Cond.instantiable "TuneSchool$Interval" (1 : Nat)) ∈ gtb := gtb_of (mt2 (i := 174) rfl) rfl
theorem q2_176 : (Jvm.Cond.laysFinal "TuneSchool$Interval" "TuneSchool$Rule" "truths" "[J") ∈ gtb := gtb_of (mt2 (i := 176) rfl) rfl
theorem q2_177 : (Jvm.Cond.superclass "TuneSchool$Interval" "TuneSchool$Rule") ∈ gtb := gtb_of (mt2 (i := 177) rfl) rfl
theorem q2_178 : (Jvm.Cond.methodLink "TuneSchoolLaw" (67 : Nat) ({ cls := "TuneSchool", name := "school", desc := "(III)I" } : Jvm.MethodName)) ∈ gtb := gtb_of (mt2 (i := 178) rfl) rfl
theorem q2_179 : (Jvm.Cond.instanceMethod ({ cls := "TuneSchool", name := "school", desc := "(III)I" } : Jvm.MethodName)) ∈ gtb := gtb_of (mt2 (i := 179) rfl) rfl
theorem q2_180 : (Jvm.Cond.selects "TuneSchool" ({ cls := "TuneSchool", name := "school", desc := "(III)I" } : Jvm.MethodName) ({ cls := "TuneSchool", name := "school", desc := "(III)I" } : Jvm.MethodName)) ∈ gtb := gtb_of (mt2 (i := 180) rfl) rfl
theorem q2_181 : (Jvm.Cond.code ({ cls := "TuneSchool", name := "school", desc := "(III)I" } : Jvm.MethodName) prog_1_method_14_code (4 : Nat) (Option.some Jvm.ClassFile.FieldType.int)) ∈ gtb := gtb_of (mt2 (i := 181) rfl) rfl
theorem q2_182 : (Jvm.Cond.classLink "TuneSchool" (151 : Nat) "TuneSchool$School") ∈ gtb := gtb_of (mt2 (i := 182) rfl) rfl
theorem q2_183 : (Jvm.Cond.instantiable "TuneSchool$School" (2 : Nat)) ∈ gtb := gtb_of (mt2 (i := 183) rfl) rfl
theorem q2_184 : (Jvm.Cond.methodLink "TuneSchool" (153 : Nat) ({ cls := "TuneSchool$School", name := "<init>", desc := "(II)V" } : Jvm.MethodName)) ∈ gtb := gtb_of (mt2 (i := 184) rfl) rfl
theorem q2_185 : (Jvm.Cond.instanceMethod ({ cls := "TuneSchool$School", name := "<init>", desc := "(II)V" } : Jvm.MethodName)) ∈ gtb := gtb_of (mt2 (i := 185) rfl) rfl
theorem q2_186 : (Jvm.Cond.code ({ cls := "TuneSchool$School", name := "<init>", desc := "(II)V" } : Jvm.MethodName) prog_10_method_1_code (3 : Nat) (Option.none : Option Jvm.ClassFile.FieldType)) ∈ gtb := gtb_of (mt2 (i := 186) rfl) rfl
theorem q2_188 : (Jvm.Cond.classLink "TuneSchool$School" (13 : Nat) "TuneSchool$Rule") ∈ gtb := gtb_of (mt2 (i := 188) rfl) rfl
theorem q2_189 : (Jvm.Cond.fieldLink "TuneSchool$School" (7 : Nat) "TuneSchool$School" "type" "I") ∈ gtb := gtb_of (mt2 (i := 189) rfl) rfl
theorem q2_190 : (Jvm.Cond.fieldLink "TuneSchool$School" (15 : Nat) "TuneSchool$School" "seats" "[LTuneSchool$Rule;") ∈ gtb := gtb_of (mt2 (i := 190) rfl) rfl
theorem q2_191 : (Jvm.Cond.fieldLink "TuneSchool" (170 : Nat) "TuneSchool$School" "seats" "[LTuneSchool$Rule;") ∈ gtb := gtb_of (mt2 (i := 191) rfl) rfl
theorem q2_192 : (Jvm.Cond.laysFinal "TuneSchool$School" "TuneSchool$School" "type" "I") ∈ gtb := gtb_of (mt2 (i := 192) rfl) rfl
theorem q2_194 : (Jvm.Cond.laysFinal "TuneSchool$School" "TuneSchool$School" "seats" "[LTuneSchool$Rule;") ∈ gtb := gtb_of (mt2 (i := 194) rfl) rfl
theorem q2_196 : (Jvm.Cond.superclass "TuneSchool$School" "TuneSchool$Standing") ∈ gtb := gtb_of (mt2 (i := 196) rfl) rfl
theorem q2_197 : (Jvm.Cond.methodLink "TuneSchoolLaw" (71 : Nat) ({ cls := "TuneSchool", name := "clear", desc := "(I)I" } : Jvm.MethodName)) ∈ gtb := gtb_of (mt2 (i := 197) rfl) rfl
theorem q2_198 : (Jvm.Cond.instanceMethod ({ cls := "TuneSchool", name := "clear", desc := "(I)I" } : Jvm.MethodName)) ∈ gtb := gtb_of (mt2 (i := 198) rfl) rfl
theorem q2_199 : (Jvm.Cond.selects "TuneSchool" ({ cls := "TuneSchool", name := "clear", desc := "(I)I" } : Jvm.MethodName) ({ cls := "TuneSchool", name := "clear", desc := "(I)I" } : Jvm.MethodName)) ∈ gtb := gtb_of (mt2 (i := 199) rfl) rfl
theorem q2_200 : (Jvm.Cond.code ({ cls := "TuneSchool", name := "clear", desc := "(I)I" } : Jvm.MethodName) prog_1_method_15_code (3 : Nat) (Option.some Jvm.ClassFile.FieldType.int)) ∈ gtb := gtb_of (mt2 (i := 200) rfl) rfl
theorem q2_201 : (Jvm.Cond.methodLink "TuneSchoolLaw" (75 : Nat) ({ cls := "TuneSchool", name := "truth", desc := "(IIIZ)I" } : Jvm.MethodName)) ∈ gtb := gtb_of (mt2 (i := 201) rfl) rfl
theorem q2_202 : (Jvm.Cond.instanceMethod ({ cls := "TuneSchool", name := "truth", desc := "(IIIZ)I" } : Jvm.MethodName)) ∈ gtb := gtb_of (mt2 (i := 202) rfl) rfl
theorem q2_203 : (Jvm.Cond.selects "TuneSchool" ({ cls := "TuneSchool", name := "truth", desc := "(IIIZ)I" } : Jvm.MethodName) ({ cls := "TuneSchool", name := "truth", desc := "(IIIZ)I" } : Jvm.MethodName)) ∈ gtb := gtb_of (mt2 (i := 203) rfl) rfl
theorem q2_204 : (Jvm.Cond.code ({ cls := "TuneSchool", name := "truth", desc := "(IIIZ)I" } : Jvm.MethodName) prog_1_method_16_code (8 : Nat) (Option.some Jvm.ClassFile.FieldType.int)) ∈ gtb := gtb_of (mt2 (i := 204) rfl) rfl
theorem q2_205 : (Jvm.Cond.methodLink "TuneSchool" (156 : Nat) ({ cls := "TuneSchool", name := "standsAs", desc := "(LTuneSchool$Standing;I)Z" } : Jvm.MethodName)) ∈ gtb := gtb_of (mt2 (i := 205) rfl) rfl
theorem q2_206 : (Jvm.Cond.static ({ cls := "TuneSchool", name := "standsAs", desc := "(LTuneSchool$Standing;I)Z" } : Jvm.MethodName)) ∈ gtb := gtb_of (mt2 (i := 206) rfl) rfl
theorem q2_207 : (Jvm.Cond.code ({ cls := "TuneSchool", name := "standsAs", desc := "(LTuneSchool$Standing;I)Z" } : Jvm.MethodName) prog_1_method_56_code (2 : Nat) (Option.some Jvm.ClassFile.FieldType.boolean)) ∈ gtb := gtb_of (mt2 (i := 207) rfl) rfl
theorem q2_208 : (Jvm.Cond.fieldLink "TuneSchool" (160 : Nat) "TuneSchool" "TRUTHS" "[I") ∈ gtb := gtb_of (mt2 (i := 208) rfl) rfl
theorem q2_210 : (Jvm.Cond.methodLink "TuneSchool" (163 : Nat) ({ cls := "TuneSchool$Rule", name := "holds", desc := "(II)Z" } : Jvm.MethodName)) ∈ gtb := gtb_of (mt2 (i := 210) rfl) rfl
theorem q2_211 : (Jvm.Cond.instanceMethod ({ cls := "TuneSchool$Rule", name := "holds", desc := "(II)Z" } : Jvm.MethodName)) ∈ gtb := gtb_of (mt2 (i := 211) rfl) rfl
theorem q2_212 : (Jvm.Cond.sameMethod "TuneSchool$Rule" "TuneSchool$Rule" "holds" "(II)Z") ∈ gtb := gtb_of (mt2 (i := 212) rfl) rfl
theorem q2_213 : (Jvm.Cond.selects "TuneSchool$Cadence" ({ cls := "TuneSchool$Rule", name := "holds", desc := "(II)Z" } : Jvm.MethodName) ({ cls := "TuneSchool$Rule", name := "holds", desc := "(II)Z" } : Jvm.MethodName)) ∈ gtb := gtb_of (mt2 (i := 213) rfl) rfl
theorem q2_214 : (Jvm.Cond.selects "TuneSchool$Interval" ({ cls := "TuneSchool$Rule", name := "holds", desc := "(II)Z" } : Jvm.MethodName) ({ cls := "TuneSchool$Rule", name := "holds", desc := "(II)Z" } : Jvm.MethodName)) ∈ gtb := gtb_of (mt2 (i := 214) rfl) rfl
theorem q2_215 : (Jvm.Cond.selects "TuneSchool$Leap" ({ cls := "TuneSchool$Rule", name := "holds", desc := "(II)Z" } : Jvm.MethodName) ({ cls := "TuneSchool$Rule", name := "holds", desc := "(II)Z" } : Jvm.MethodName)) ∈ gtb := gtb_of (mt2 (i := 215) rfl) rfl
theorem q2_216 : (Jvm.Cond.selects "TuneSchool$Motion" ({ cls := "TuneSchool$Rule", name := "holds", desc := "(II)Z" } : Jvm.MethodName) ({ cls := "TuneSchool$Rule", name := "holds", desc := "(II)Z" } : Jvm.MethodName)) ∈ gtb := gtb_of (mt2 (i := 216) rfl) rfl
theorem q2_217 : (Jvm.Cond.code ({ cls := "TuneSchool$Rule", name := "holds", desc := "(II)Z" } : Jvm.MethodName) prog_9_method_6_code (3 : Nat) (Option.some Jvm.ClassFile.FieldType.boolean)) ∈ gtb := gtb_of (mt2 (i := 217) rfl) rfl
theorem q2_218 : (Jvm.Cond.methodLink "TuneSchool" (166 : Nat) ({ cls := "TuneSchool$Rule", name := "change", desc := "(IIZ)V" } : Jvm.MethodName)) ∈ gtb := gtb_of (mt2 (i := 218) rfl) rfl
theorem q2_219 : (Jvm.Cond.instanceMethod ({ cls := "TuneSchool$Rule", name := "change", desc := "(IIZ)V" } : Jvm.MethodName)) ∈ gtb := gtb_of (mt2 (i := 219) rfl) rfl
theorem q2_220 : (Jvm.Cond.sameMethod "TuneSchool$Rule" "TuneSchool$Rule" "change" "(IIZ)V") ∈ gtb := gtb_of (mt2 (i := 220) rfl) rfl
theorem q2_221 : (Jvm.Cond.selects "TuneSchool$Cadence" ({ cls := "TuneSchool$Rule", name := "change", desc := "(IIZ)V" } : Jvm.MethodName) ({ cls := "TuneSchool$Rule", name := "change", desc := "(IIZ)V" } : Jvm.MethodName)) ∈ gtb := gtb_of (mt2 (i := 221) rfl) rfl
theorem q2_222 : (Jvm.Cond.selects "TuneSchool$Interval" ({ cls := "TuneSchool$Rule", name := "change", desc := "(IIZ)V" } : Jvm.MethodName) ({ cls := "TuneSchool$Rule", name := "change", desc := "(IIZ)V" } : Jvm.MethodName)) ∈ gtb := gtb_of (mt2 (i := 222) rfl) rfl
theorem q2_223 : (Jvm.Cond.selects "TuneSchool$Leap" ({ cls := "TuneSchool$Rule", name := "change", desc := "(IIZ)V" } : Jvm.MethodName) ({ cls := "TuneSchool$Rule", name := "change", desc := "(IIZ)V" } : Jvm.MethodName)) ∈ gtb := gtb_of (mt2 (i := 223) rfl) rfl
theorem q2_224 : (Jvm.Cond.selects "TuneSchool$Motion" ({ cls := "TuneSchool$Rule", name := "change", desc := "(IIZ)V" } : Jvm.MethodName) ({ cls := "TuneSchool$Rule", name := "change", desc := "(IIZ)V" } : Jvm.MethodName)) ∈ gtb := gtb_of (mt2 (i := 224) rfl) rfl
theorem q2_225 : (Jvm.Cond.code ({ cls := "TuneSchool$Rule", name := "change", desc := "(IIZ)V" } : Jvm.MethodName) prog_9_method_7_code (4 : Nat) (Option.none : Option Jvm.ClassFile.FieldType)) ∈ gtb := gtb_of (mt2 (i := 225) rfl) rfl
theorem q2_227 : (Jvm.Cond.methodLink "TuneSchoolLaw" (80 : Nat) ({ cls := "TuneSchool", name := "is", desc := "(II)I" } : Jvm.MethodName)) ∈ gtb := gtb_of (mt2 (i := 227) rfl) rfl
theorem q2_228 : (Jvm.Cond.instanceMethod ({ cls := "TuneSchool", name := "is", desc := "(II)I" } : Jvm.MethodName)) ∈ gtb := gtb_of (mt2 (i := 228) rfl) rfl
theorem q2_229 : (Jvm.Cond.selects "TuneSchool" ({ cls := "TuneSchool", name := "is", desc := "(II)I" } : Jvm.MethodName) ({ cls := "TuneSchool", name := "is", desc := "(II)I" } : Jvm.MethodName)) ∈ gtb := gtb_of (mt2 (i := 229) rfl) rfl
theorem q2_230 : (Jvm.Cond.code ({ cls := "TuneSchool", name := "is", desc := "(II)I" } : Jvm.MethodName) prog_1_method_17_code (3 : Nat) (Option.some Jvm.ClassFile.FieldType.int)) ∈ gtb := gtb_of (mt2 (i := 230) rfl) rfl
theorem q2_231 : (Jvm.Cond.methodLink "TuneSchoolLaw" (84 : Nat) ({ cls := "TuneSchool", name := "seat", desc := "(III)I" } : Jvm.MethodName)) ∈ gtb := gtb_of (mt2 (i := 231) rfl) rfl
theorem q2_232 : (Jvm.Cond.instanceMethod ({ cls := "TuneSchool", name := "seat", desc := "(III)I" } : Jvm.MethodName)) ∈ gtb := gtb_of (mt2 (i := 232) rfl) rfl
theorem q2_233 : (Jvm.Cond.selects "TuneSchool" ({ cls := "TuneSchool", name := "seat", desc := "(III)I" } : Jvm.MethodName) ({ cls := "TuneSchool", name := "seat", desc := "(III)I" } : Jvm.MethodName)) ∈ gtb := gtb_of (mt2 (i := 233) rfl) rfl
theorem q2_234 : (Jvm.Cond.code ({ cls := "TuneSchool", name := "seat", desc := "(III)I" } : Jvm.MethodName) prog_1_method_18_code (7 : Nat) (Option.some Jvm.ClassFile.FieldType.int)) ∈ gtb := gtb_of (mt2 (i := 234) rfl) rfl
theorem q2_235 : (Jvm.Cond.methodLink "TuneSchool" (173 : Nat) ({ cls := "TuneSchool$School", name := "isFor", desc := "(LTuneSchool$Standing;)Z" } : Jvm.MethodName)) ∈ gtb := gtb_of (mt2 (i := 235) rfl) rfl
theorem q2_236 : (Jvm.Cond.instanceMethod ({ cls := "TuneSchool$School", name := "isFor", desc := "(LTuneSchool$Standing;)Z" } : Jvm.MethodName)) ∈ gtb := gtb_of (mt2 (i := 236) rfl) rfl
theorem q2_237 : (Jvm.Cond.selects "TuneSchool$School" ({ cls := "TuneSchool$School", name := "isFor", desc := "(LTuneSchool$Standing;)Z" } : Jvm.MethodName) ({ cls := "TuneSchool$School", name := "isFor", desc := "(LTuneSchool$Standing;)Z" } : Jvm.MethodName)) ∈ gtb := gtb_of (mt2 (i := 237) rfl) rfl
theorem q2_238 : (Jvm.Cond.code ({ cls := "TuneSchool$School", name := "isFor", desc := "(LTuneSchool$Standing;)Z" } : Jvm.MethodName) prog_10_method_4_code (2 : Nat) (Option.some Jvm.ClassFile.FieldType.boolean)) ∈ gtb := gtb_of (mt2 (i := 238) rfl) rfl
theorem q2_239 : (Jvm.Cond.classLink "TuneSchool$School" (19 : Nat) "TuneSchool$Interval") ∈ gtb := gtb_of (mt2 (i := 239) rfl) rfl
theorem q3_0 : (Jvm.Cond.classLink "TuneSchool$School" (21 : Nat) "TuneSchool$Leap") ∈ gtb := gtb_of (mt3 (i := 0) rfl) rfl
theorem q3_1 : (Jvm.Cond.methodLink "TuneSchoolLaw" (88 : Nat) ({ cls := "TuneSchool", name := "seated", desc := "(II)I" } : Jvm.MethodName)) ∈ gtb := gtb_of (mt3 (i := 1) rfl) rfl
theorem q3_2 : (Jvm.Cond.instanceMethod ({ cls := "TuneSchool", name := "seated", desc := "(II)I" } : Jvm.MethodName)) ∈ gtb := gtb_of (mt3 (i := 2) rfl) rfl
theorem q3_3 : (Jvm.Cond.selects "TuneSchool" ({ cls := "TuneSchool", name := "seated", desc := "(II)I" } : Jvm.MethodName) ({ cls := "TuneSchool", name := "seated", desc := "(II)I" } : Jvm.MethodName)) ∈ gtb := gtb_of (mt3 (i := 3) rfl) rfl
theorem q3_4 : (Jvm.Cond.code ({ cls := "TuneSchool", name := "seated", desc := "(II)I" } : Jvm.MethodName) prog_1_method_19_code (5 : Nat) (Option.some Jvm.ClassFile.FieldType.int)) ∈ gtb := gtb_of (mt3 (i := 4) rfl) rfl
theorem q3_5 : (Jvm.Cond.methodLink "TuneSchool" (177 : Nat) ({ cls := "TuneSchool$Rule", name := "kind", desc := "()I" } : Jvm.MethodName)) ∈ gtb := gtb_of (mt3 (i := 5) rfl) rfl
theorem q3_7 : (Jvm.Cond.sameMethod "TuneSchool$Rule" "TuneSchool$Rule" "kind" "()I") ∈ gtb := gtb_of (mt3 (i := 7) rfl) rfl
theorem q3_8 : (Jvm.Cond.selects "TuneSchool$Cadence" ({ cls := "TuneSchool$Rule", name := "kind", desc := "()I" } : Jvm.MethodName) ({ cls := "TuneSchool$Cadence", name := "kind", desc := "()I" } : Jvm.MethodName)) ∈ gtb := gtb_of (mt3 (i := 8) rfl) rfl
theorem q3_9 : (Jvm.Cond.instanceMethod ({ cls := "TuneSchool$Cadence", name := "kind", desc := "()I" } : Jvm.MethodName)) ∈ gtb := gtb_of (mt3 (i := 9) rfl) rfl
theorem q3_10 : (Jvm.Cond.code ({ cls := "TuneSchool$Cadence", name := "kind", desc := "()I" } : Jvm.MethodName) prog_2_method_2_code (1 : Nat) (Option.some Jvm.ClassFile.FieldType.int)) ∈ gtb := gtb_of (mt3 (i := 10) rfl) rfl
theorem q3_11 : (Jvm.Cond.selects "TuneSchool$Interval" ({ cls := "TuneSchool$Rule", name := "kind", desc := "()I" } : Jvm.MethodName) ({ cls := "TuneSchool$Interval", name := "kind", desc := "()I" } : Jvm.MethodName)) ∈ gtb := gtb_of (mt3 (i := 11) rfl) rfl
theorem q3_12 : (Jvm.Cond.instanceMethod ({ cls := "TuneSchool$Interval", name := "kind", desc := "()I" } : Jvm.MethodName)) ∈ gtb := gtb_of (mt3 (i := 12) rfl) rfl
theorem q3_13 : (Jvm.Cond.code ({ cls := "TuneSchool$Interval", name := "kind", desc := "()I" } : Jvm.MethodName) prog_4_method_2_code (1 : Nat) (Option.some Jvm.ClassFile.FieldType.int)) ∈ gtb := gtb_of (mt3 (i := 13) rfl) rfl
theorem q3_14 : (Jvm.Cond.selects "TuneSchool$Leap" ({ cls := "TuneSchool$Rule", name := "kind", desc := "()I" } : Jvm.MethodName) ({ cls := "TuneSchool$Leap", name := "kind", desc := "()I" } : Jvm.MethodName)) ∈ gtb := gtb_of (mt3 (i := 14) rfl) rfl
theorem q3_15 : (Jvm.Cond.instanceMethod ({ cls := "TuneSchool$Leap", name := "kind", desc := "()I" } : Jvm.MethodName)) ∈ gtb := gtb_of (mt3 (i := 15) rfl) rfl
theorem q3_16 : (Jvm.Cond.code ({ cls := "TuneSchool$Leap", name := "kind", desc := "()I" } : Jvm.MethodName) prog_5_method_2_code (1 : Nat) (Option.some Jvm.ClassFile.FieldType.int)) ∈ gtb := gtb_of (mt3 (i := 16) rfl) rfl
theorem q3_17 : (Jvm.Cond.selects "TuneSchool$Motion" ({ cls := "TuneSchool$Rule", name := "kind", desc := "()I" } : Jvm.MethodName) ({ cls := "TuneSchool$Motion", name := "kind", desc := "()I" } : Jvm.MethodName)) ∈ gtb := gtb_of (mt3 (i := 17) rfl) rfl
theorem q3_18 : (Jvm.Cond.instanceMethod ({ cls := "TuneSchool$Motion", name := "kind", desc := "()I" } : Jvm.MethodName)) ∈ gtb := gtb_of (mt3 (i := 18) rfl) rfl
theorem q3_19 : (Jvm.Cond.code ({ cls := "TuneSchool$Motion", name := "kind", desc := "()I" } : Jvm.MethodName) prog_8_method_2_code (1 : Nat) (Option.some Jvm.ClassFile.FieldType.int)) ∈ gtb := gtb_of (mt3 (i := 19) rfl) rfl
theorem q3_20 : (Jvm.Cond.methodLink "TuneSchoolLaw" (92 : Nat) ({ cls := "TuneSchool", name := "strong", desc := "(I)I" } : Jvm.MethodName)) ∈ gtb := gtb_of (mt3 (i := 20) rfl) rfl
theorem q3_21 : (Jvm.Cond.instanceMethod ({ cls := "TuneSchool", name := "strong", desc := "(I)I" } : Jvm.MethodName)) ∈ gtb := gtb_of (mt3 (i := 21) rfl) rfl
theorem q3_22 : (Jvm.Cond.selects "TuneSchool" ({ cls := "TuneSchool", name := "strong", desc := "(I)I" } : Jvm.MethodName) ({ cls := "TuneSchool", name := "strong", desc := "(I)I" } : Jvm.MethodName)) ∈ gtb := gtb_of (mt3 (i := 22) rfl) rfl
theorem q3_23 : (Jvm.Cond.code ({ cls := "TuneSchool", name := "strong", desc := "(I)I" } : Jvm.MethodName) prog_1_method_20_code (3 : Nat) (Option.some Jvm.ClassFile.FieldType.int)) ∈ gtb := gtb_of (mt3 (i := 23) rfl) rfl
theorem q3_24 : (Jvm.Cond.methodLink "TuneSchoolLaw" (96 : Nat) ({ cls := "TuneSchool", name := "key", desc := "(I)I" } : Jvm.MethodName)) ∈ gtb := gtb_of (mt3 (i := 24) rfl) rfl
theorem q3_25 : (Jvm.Cond.instanceMethod ({ cls := "TuneSchool", name := "key", desc := "(I)I" } : Jvm.MethodName)) ∈ gtb := gtb_of (mt3 (i := 25) rfl) rfl
theorem q3_26 : (Jvm.Cond.selects "TuneSchool" ({ cls := "TuneSchool", name := "key", desc := "(I)I" } : Jvm.MethodName) ({ cls := "TuneSchool", name := "key", desc := "(I)I" } : Jvm.MethodName)) ∈ gtb := gtb_of (mt3 (i := 26) rfl) rfl
theorem q3_27 : (Jvm.Cond.code ({ cls := "TuneSchool", name := "key", desc := "(I)I" } : Jvm.MethodName) prog_1_method_21_code (3 : Nat) (Option.some Jvm.ClassFile.FieldType.int)) ∈ gtb := gtb_of (mt3 (i := 27) rfl) rfl
theorem q3_28 : (Jvm.Cond.methodLink "TuneSchoolLaw" (100 : Nat) ({ cls := "TuneSchool", name := "weight", desc := "(II)I" } : Jvm.MethodName)) ∈ gtb := gtb_of (mt3 (i := 28) rfl) rfl
theorem q3_29 : (Jvm.Cond.instanceMethod ({ cls := "TuneSchool", name := "weight", desc := "(II)I" } : Jvm.MethodName)) ∈ gtb := gtb_of (mt3 (i := 29) rfl) rfl
theorem q3_30 : (Jvm.Cond.selects "TuneSchool" ({ cls := "TuneSchool", name := "weight", desc := "(II)I" } : Jvm.MethodName) ({ cls := "TuneSchool", name := "weight", desc := "(II)I" } : Jvm.MethodName)) ∈ gtb := gtb_of (mt3 (i := 30) rfl) rfl
theorem q3_31 : (Jvm.Cond.code ({ cls := "TuneSchool", name := "weight", desc := "(II)I" } : Jvm.MethodName) prog_1_method_22_code (4 : Nat) (Option.some Jvm.ClassFile.FieldType.int)) ∈ gtb := gtb_of (mt3 (i := 31) rfl) rfl
theorem q3_32 : (Jvm.Cond.methodLink "TuneSchoolLaw" (104 : Nat) ({ cls := "TuneSchool", name := "faults", desc := "(I)I" } : Jvm.MethodName)) ∈ gtb := gtb_of (mt3 (i := 32) rfl) rfl
theorem q3_33 : (Jvm.Cond.instanceMethod ({ cls := "TuneSchool", name := "faults", desc := "(I)I" } : Jvm.MethodName)) ∈ gtb := gtb_of (mt3 (i := 33) rfl) rfl
theorem q3_34 : (Jvm.Cond.selects "TuneSchool" ({ cls := "TuneSchool", name := "faults", desc := "(I)I" } : Jvm.MethodName) ({ cls := "TuneSchool", name := "faults", desc := "(I)I" } : Jvm.MethodName)) ∈ gtb := gtb_of (mt3 (i := 34) rfl) rfl
theorem q3_35 : (Jvm.Cond.code ({ cls := "TuneSchool", name := "faults", desc := "(I)I" } : Jvm.MethodName) prog_1_method_23_code (7 : Nat) (Option.some Jvm.ClassFile.FieldType.int)) ∈ gtb := gtb_of (mt3 (i := 35) rfl) rfl
theorem q3_36 : (Jvm.Cond.methodLink "TuneSchool" (190 : Nat) ({ cls := "TuneSchool$Moment", name := "openTrace", desc := "()V" } : Jvm.MethodName)) ∈ gtb := gtb_of (mt3 (i := 36) rfl) rfl
theorem q3_37 : (Jvm.Cond.instanceMethod ({ cls := "TuneSchool$Moment", name := "openTrace", desc := "()V" } : Jvm.MethodName)) ∈ gtb := gtb_of (mt3 (i := 37) rfl) rfl
theorem q3_38 : (Jvm.Cond.selects "TuneSchool$Moment" ({ cls := "TuneSchool$Moment", name := "openTrace", desc := "()V" } : Jvm.MethodName) ({ cls := "TuneSchool$Moment", name := "openTrace", desc := "()V" } : Jvm.MethodName)) ∈ gtb := gtb_of (mt3 (i := 38) rfl) rfl
theorem q3_39 : (Jvm.Cond.code ({ cls := "TuneSchool$Moment", name := "openTrace", desc := "()V" } : Jvm.MethodName) prog_7_method_2_code (1 : Nat) (Option.none : Option Jvm.ClassFile.FieldType)) ∈ gtb := gtb_of (mt3 (i := 39) rfl) rfl
theorem q3_40 : (Jvm.Cond.methodLink "TuneSchool" (193 : Nat) ({ cls := "java/lang/Math", name := "max", desc := "(II)I" } : Jvm.MethodName)) ∈ gtb := gtb_of (mt3 (i := 40) rfl) rfl
theorem q3_41 : (Jvm.Cond.static ({ cls := "java/lang/Math", name := "max", desc := "(II)I" } : Jvm.MethodName)) ∈ gtb := gtb_of (mt3 (i := 41) rfl) rfl
theorem q3_42 : (Jvm.Cond.code ({ cls := "java/lang/Math", name := "max", desc := "(II)I" } : Jvm.MethodName) prog_15_method_65_code (2 : Nat) (Option.some Jvm.ClassFile.FieldType.int)) ∈ gtb := gtb_of (mt3 (i := 42) rfl) rfl
theorem q3_43 : (Jvm.Cond.methodLink "TuneSchool" (205 : Nat) ({ cls := "TuneSchool", name := "findLasts", desc := "()V" } : Jvm.MethodName)) ∈ gtb := gtb_of (mt3 (i := 43) rfl) rfl
theorem q3_45 : (Jvm.Cond.instanceMethod ({ cls := "TuneSchool", name := "findLasts", desc := "()V" } : Jvm.MethodName)) ∈ gtb := gtb_of (mt3 (i := 45) rfl) rfl
theorem q3_46 : (Jvm.Cond.code ({ cls := "TuneSchool", name := "findLasts", desc := "()V" } : Jvm.MethodName) prog_1_method_58_code (3 : Nat) (Option.none : Option Jvm.ClassFile.FieldType)) ∈ gtb := gtb_of (mt3 (i := 46) rfl) rfl
theorem q3_47 : (Jvm.Cond.methodLink "TuneSchool" (215 : Nat) ({ cls := "TuneSchool", name := "lastOfBoth", desc := "(LTuneSchool$Voice;LTuneSchool$Voice;)I" } : Jvm.MethodName)) ∈ gtb := gtb_of (mt3 (i := 47) rfl) rfl
theorem q3_48 : (Jvm.Cond.static ({ cls := "TuneSchool", name := "lastOfBoth", desc := "(LTuneSchool$Voice;LTuneSchool$Voice;)I" } : Jvm.MethodName)) ∈ gtb := gtb_of (mt3 (i := 48) rfl) rfl
theorem q3_49 : (Jvm.Cond.code ({ cls := "TuneSchool", name := "lastOfBoth", desc := "(LTuneSchool$Voice;LTuneSchool$Voice;)I" } : Jvm.MethodName) prog_1_method_57_code (3 : Nat) (Option.some Jvm.ClassFile.FieldType.int)) ∈ gtb := gtb_of (mt3 (i := 49) rfl) rfl
theorem q3_50 : (Jvm.Cond.methodLink "TuneSchool" (208 : Nat) ({ cls := "TuneSchool", name := "askPair", desc := "(LTuneSchool$Standing;III)V" } : Jvm.MethodName)) ∈ gtb := gtb_of (mt3 (i := 50) rfl) rfl
theorem q3_52 : (Jvm.Cond.instanceMethod ({ cls := "TuneSchool", name := "askPair", desc := "(LTuneSchool$Standing;III)V" } : Jvm.MethodName)) ∈ gtb := gtb_of (mt3 (i := 52) rfl) rfl
theorem q3_53 : (Jvm.Cond.code ({ cls := "TuneSchool", name := "askPair", desc := "(LTuneSchool$Standing;III)V" } : Jvm.MethodName) prog_1_method_59_code (7 : Nat) (Option.none : Option Jvm.ClassFile.FieldType)) ∈ gtb := gtb_of (mt3 (i := 53) rfl) rfl
theorem q3_54 : (Jvm.Cond.methodLink "TuneSchool" (219 : Nat) ({ cls := "TuneSchool$Moment", name := "stand", desc := "(LTuneSchool$Voice;LTuneSchool$Voice;II)V" } : Jvm.MethodName)) ∈ gtb := gtb_of (mt3 (i := 54) rfl) rfl
theorem q3_55 : (Jvm.Cond.instanceMethod ({ cls := "TuneSchool$Moment", name := "stand", desc := "(LTuneSchool$Voice;LTuneSchool$Voice;II)V" } : Jvm.MethodName)) ∈ gtb := gtb_of (mt3 (i := 55) rfl) rfl
theorem q3_56 : (Jvm.Cond.selects "TuneSchool$Moment" ({ cls := "TuneSchool$Moment", name := "stand", desc := "(LTuneSchool$Voice;LTuneSchool$Voice;II)V" } : Jvm.MethodName) ({ cls := "TuneSchool$Moment", name := "stand", desc := "(LTuneSchool$Voice;LTuneSchool$Voice;II)V" } : Jvm.MethodName)) ∈ gtb := gtb_of (mt3 (i := 56) rfl) rfl
theorem q3_57 : (Jvm.Cond.code ({ cls := "TuneSchool$Moment", name := "stand", desc := "(LTuneSchool$Voice;LTuneSchool$Voice;II)V" } : Jvm.MethodName) prog_7_method_4_code (5 : Nat) (Option.none : Option Jvm.ClassFile.FieldType)) ∈ gtb := gtb_of (mt3 (i := 57) rfl) rfl
theorem q3_58 : (Jvm.Cond.methodLink "TuneSchool$Moment" (29 : Nat) ({ cls := "TuneSchool$Voice", name := "at", desc := "(I)I" } : Jvm.MethodName)) ∈ gtb := gtb_of (mt3 (i := 58) rfl) rfl
theorem q3_59 : (Jvm.Cond.methodLink "TuneSchool" (223 : Nat) ({ cls := "TuneSchool$Moment", name := "bothSound", desc := "()Z" } : Jvm.MethodName)) ∈ gtb := gtb_of (mt3 (i := 59) rfl) rfl
theorem q3_60 : (Jvm.Cond.instanceMethod ({ cls := "TuneSchool$Moment", name := "bothSound", desc := "()Z" } : Jvm.MethodName)) ∈ gtb := gtb_of (mt3 (i := 60) rfl) rfl
theorem q3_61 : (Jvm.Cond.selects "TuneSchool$Moment" ({ cls := "TuneSchool$Moment", name := "bothSound", desc := "()Z" } : Jvm.MethodName) ({ cls := "TuneSchool$Moment", name := "bothSound", desc := "()Z" } : Jvm.MethodName)) ∈ gtb := gtb_of (mt3 (i := 61) rfl) rfl
theorem q3_62 : (Jvm.Cond.code ({ cls := "TuneSchool$Moment", name := "bothSound", desc := "()Z" } : Jvm.MethodName) prog_7_method_6_code (1 : Nat) (Option.some Jvm.ClassFile.FieldType.boolean)) ∈ gtb := gtb_of (mt3 (i := 62) rfl) rfl
theorem q3_63 : (Jvm.Cond.methodLink "TuneSchool" (344 : Nat) ({ cls := "TuneSchool$Standing", name := "width", desc := "()I" } : Jvm.MethodName)) ∈ gtb := gtb_of (mt3 (i := 63) rfl) rfl
theorem q3_65 : (Jvm.Cond.sameMethod "TuneSchool$Standing" "TuneSchool$Standing" "width" "()I") ∈ gtb := gtb_of (mt3 (i := 65) rfl) rfl
theorem q3_66 : (Jvm.Cond.selects "TuneSchool$Cadence" ({ cls := "TuneSchool$Standing", name := "width", desc := "()I" } : Jvm.MethodName) ({ cls := "TuneSchool$Rule", name := "width", desc := "()I" } : Jvm.MethodName)) ∈ gtb := gtb_of (mt3 (i := 66) rfl) rfl
theorem q3_67 : (Jvm.Cond.instanceMethod ({ cls := "TuneSchool$Rule", name := "width", desc := "()I" } : Jvm.MethodName)) ∈ gtb := gtb_of (mt3 (i := 67) rfl) rfl
theorem q3_68 : (Jvm.Cond.code ({ cls := "TuneSchool$Rule", name := "width", desc := "()I" } : Jvm.MethodName) prog_9_method_4_code (1 : Nat) (Option.some Jvm.ClassFile.FieldType.int)) ∈ gtb := gtb_of (mt3 (i := 68) rfl) rfl
theorem q3_69 : (Jvm.Cond.selects "TuneSchool$Interval" ({ cls := "TuneSchool$Standing", name := "width", desc := "()I" } : Jvm.MethodName) ({ cls := "TuneSchool$Rule", name := "width", desc := "()I" } : Jvm.MethodName)) ∈ gtb := gtb_of (mt3 (i := 69) rfl) rfl
theorem q3_70 : (Jvm.Cond.selects "TuneSchool$Leap" ({ cls := "TuneSchool$Standing", name := "width", desc := "()I" } : Jvm.MethodName) ({ cls := "TuneSchool$Rule", name := "width", desc := "()I" } : Jvm.MethodName)) ∈ gtb := gtb_of (mt3 (i := 70) rfl) rfl
theorem q3_71 : (Jvm.Cond.selects "TuneSchool$Motion" ({ cls := "TuneSchool$Standing", name := "width", desc := "()I" } : Jvm.MethodName) ({ cls := "TuneSchool$Rule", name := "width", desc := "()I" } : Jvm.MethodName)) ∈ gtb := gtb_of (mt3 (i := 71) rfl) rfl
theorem q3_72 : (Jvm.Cond.selects "TuneSchool$School" ({ cls := "TuneSchool$Standing", name := "width", desc := "()I" } : Jvm.MethodName) ({ cls := "TuneSchool$School", name := "width", desc := "()I" } : Jvm.MethodName)) ∈ gtb := gtb_of (mt3 (i := 72) rfl) rfl
theorem q3_73 : (Jvm.Cond.instanceMethod ({ cls := "TuneSchool$School", name := "width", desc := "()I" } : Jvm.MethodName)) ∈ gtb := gtb_of (mt3 (i := 73) rfl) rfl
theorem q3_74 : (Jvm.Cond.code ({ cls := "TuneSchool$School", name := "width", desc := "()I" } : Jvm.MethodName) prog_10_method_2_code (1 : Nat) (Option.some Jvm.ClassFile.FieldType.int)) ∈ gtb := gtb_of (mt3 (i := 74) rfl) rfl
theorem q3_75 : (Jvm.Cond.methodLink "TuneSchool" (347 : Nat) ({ cls := "TuneSchool$Standing", name := "ruleAt", desc := "(I)LTuneSchool$Rule;" } : Jvm.MethodName)) ∈ gtb := gtb_of (mt3 (i := 75) rfl) rfl
theorem q3_77 : (Jvm.Cond.sameMethod "TuneSchool$Standing" "TuneSchool$Standing" "ruleAt" "(I)LTuneSchool$Rule;") ∈ gtb := gtb_of (mt3 (i := 77) rfl) rfl
theorem q3_78 : (Jvm.Cond.selects "TuneSchool$Cadence" ({ cls := "TuneSchool$Standing", name := "ruleAt", desc := "(I)LTuneSchool$Rule;" } : Jvm.MethodName) ({ cls := "TuneSchool$Rule", name := "ruleAt", desc := "(I)LTuneSchool$Rule;" } : Jvm.MethodName)) ∈ gtb := gtb_of (mt3 (i := 78) rfl) rfl
theorem q3_79 : (Jvm.Cond.instanceMethod ({ cls := "TuneSchool$Rule", name := "ruleAt", desc := "(I)LTuneSchool$Rule;" } : Jvm.MethodName)) ∈ gtb := gtb_of (mt3 (i := 79) rfl) rfl
theorem q3_80 : (Jvm.Cond.code ({ cls := "TuneSchool$Rule", name := "ruleAt", desc := "(I)LTuneSchool$Rule;" } : Jvm.MethodName) prog_9_method_5_code (2 : Nat) (Option.some (Jvm.ClassFile.FieldType.object "TuneSchool$Rule"))) ∈ gtb := gtb_of (mt3 (i := 80) rfl) rfl
theorem q3_81 : (Jvm.Cond.selects "TuneSchool$Interval" ({ cls := "TuneSchool$Standing", name := "ruleAt", desc := "(I)LTuneSchool$Rule;" } : Jvm.MethodName) ({ cls := "TuneSchool$Rule", name := "ruleAt", desc := "(I)LTuneSchool$Rule;" } : Jvm.MethodName)) ∈ gtb := gtb_of (mt3 (i := 81) rfl) rfl
theorem q3_82 : (Jvm.Cond.selects "TuneSchool$Leap" ({ cls := "TuneSchool$Standing", name := "ruleAt", desc := "(I)LTuneSchool$Rule;" } : Jvm.MethodName) ({ cls := "TuneSchool$Rule", name := "ruleAt", desc := "(I)LTuneSchool$Rule;" } : Jvm.MethodName)) ∈ gtb := gtb_of (mt3 (i := 82) rfl) rfl
theorem q3_83 : (Jvm.Cond.selects "TuneSchool$Motion" ({ cls := "TuneSchool$Standing", name := "ruleAt", desc := "(I)LTuneSchool$Rule;" } : Jvm.MethodName) ({ cls := "TuneSchool$Rule", name := "ruleAt", desc := "(I)LTuneSchool$Rule;" } : Jvm.MethodName)) ∈ gtb := gtb_of (mt3 (i := 83) rfl) rfl
theorem q3_84 : (Jvm.Cond.selects "TuneSchool$School" ({ cls := "TuneSchool$Standing", name := "ruleAt", desc := "(I)LTuneSchool$Rule;" } : Jvm.MethodName) ({ cls := "TuneSchool$School", name := "ruleAt", desc := "(I)LTuneSchool$Rule;" } : Jvm.MethodName)) ∈ gtb := gtb_of (mt3 (i := 84) rfl) rfl
theorem q3_85 : (Jvm.Cond.instanceMethod ({ cls := "TuneSchool$School", name := "ruleAt", desc := "(I)LTuneSchool$Rule;" } : Jvm.MethodName)) ∈ gtb := gtb_of (mt3 (i := 85) rfl) rfl
theorem q3_86 : (Jvm.Cond.code ({ cls := "TuneSchool$School", name := "ruleAt", desc := "(I)LTuneSchool$Rule;" } : Jvm.MethodName) prog_10_method_3_code (2 : Nat) (Option.some (Jvm.ClassFile.FieldType.object "TuneSchool$Rule"))) ∈ gtb := gtb_of (mt3 (i := 86) rfl) rfl
theorem q3_87 : (Jvm.Cond.methodLink "TuneSchool" (350 : Nat) ({ cls := "TuneSchool$Rule", name := "listens", desc := "(LTuneSchool$Moment;)Z" } : Jvm.MethodName)) ∈ gtb := gtb_of (mt3 (i := 87) rfl) rfl
theorem q3_88 : (Jvm.Cond.instanceMethod ({ cls := "TuneSchool$Rule", name := "listens", desc := "(LTuneSchool$Moment;)Z" } : Jvm.MethodName)) ∈ gtb := gtb_of (mt3 (i := 88) rfl) rfl
theorem q3_89 : (Jvm.Cond.sameMethod "TuneSchool$Rule" "TuneSchool$Rule" "listens" "(LTuneSchool$Moment;)Z") ∈ gtb := gtb_of (mt3 (i := 89) rfl) rfl
theorem q3_90 : (Jvm.Cond.selects "TuneSchool$Cadence" ({ cls := "TuneSchool$Rule", name := "listens", desc := "(LTuneSchool$Moment;)Z" } : Jvm.MethodName) ({ cls := "TuneSchool$Rule", name := "listens", desc := "(LTuneSchool$Moment;)Z" } : Jvm.MethodName)) ∈ gtb := gtb_of (mt3 (i := 90) rfl) rfl
theorem q3_91 : (Jvm.Cond.selects "TuneSchool$Interval" ({ cls := "TuneSchool$Rule", name := "listens", desc := "(LTuneSchool$Moment;)Z" } : Jvm.MethodName) ({ cls := "TuneSchool$Rule", name := "listens", desc := "(LTuneSchool$Moment;)Z" } : Jvm.MethodName)) ∈ gtb := gtb_of (mt3 (i := 91) rfl) rfl
theorem q3_92 : (Jvm.Cond.selects "TuneSchool$Leap" ({ cls := "TuneSchool$Rule", name := "listens", desc := "(LTuneSchool$Moment;)Z" } : Jvm.MethodName) ({ cls := "TuneSchool$Leap", name := "listens", desc := "(LTuneSchool$Moment;)Z" } : Jvm.MethodName)) ∈ gtb := gtb_of (mt3 (i := 92) rfl) rfl
theorem q3_93 : (Jvm.Cond.instanceMethod ({ cls := "TuneSchool$Leap", name := "listens", desc := "(LTuneSchool$Moment;)Z" } : Jvm.MethodName)) ∈ gtb := gtb_of (mt3 (i := 93) rfl) rfl
theorem q3_94 : (Jvm.Cond.code ({ cls := "TuneSchool$Leap", name := "listens", desc := "(LTuneSchool$Moment;)Z" } : Jvm.MethodName) prog_5_method_3_code (2 : Nat) (Option.some Jvm.ClassFile.FieldType.boolean)) ∈ gtb := gtb_of (mt3 (i := 94) rfl) rfl
theorem q3_95 : (Jvm.Cond.methodLink "TuneSchool$Leap" (9 : Nat) ({ cls := "TuneSchool$Moment", name := "mark", desc := "(I)V" } : Jvm.MethodName)) ∈ gtb := gtb_of (mt3 (i := 95) rfl) rfl
theorem q3_96 : (Jvm.Cond.instanceMethod ({ cls := "TuneSchool$Moment", name := "mark", desc := "(I)V" } : Jvm.MethodName)) ∈ gtb := gtb_of (mt3 (i := 96) rfl) rfl
theorem q3_97 : (Jvm.Cond.selects "TuneSchool$Moment" ({ cls := "TuneSchool$Moment", name := "mark", desc := "(I)V" } : Jvm.MethodName) ({ cls := "TuneSchool$Moment", name := "mark", desc := "(I)V" } : Jvm.MethodName)) ∈ gtb := gtb_of (mt3 (i := 97) rfl) rfl
theorem q3_98 : (Jvm.Cond.code ({ cls := "TuneSchool$Moment", name := "mark", desc := "(I)V" } : Jvm.MethodName) prog_7_method_3_code (2 : Nat) (Option.none : Option Jvm.ClassFile.FieldType)) ∈ gtb := gtb_of (mt3 (i := 98) rfl) rfl
theorem q3_99 : (Jvm.Cond.selects "TuneSchool$Motion" ({ cls := "TuneSchool$Rule", name := "listens", desc := "(LTuneSchool$Moment;)Z" } : Jvm.MethodName) ({ cls := "TuneSchool$Rule", name := "listens", desc := "(LTuneSchool$Moment;)Z" } : Jvm.MethodName)) ∈ gtb := gtb_of (mt3 (i := 99) rfl) rfl
theorem q3_100 : (Jvm.Cond.code ({ cls := "TuneSchool$Rule", name := "listens", desc := "(LTuneSchool$Moment;)Z" } : Jvm.MethodName) prog_9_method_8_code (2 : Nat) (Option.some Jvm.ClassFile.FieldType.boolean)) ∈ gtb := gtb_of (mt3 (i := 100) rfl) rfl
theorem q3_101 : (Jvm.Cond.methodLink "TuneSchool$Rule" (17 : Nat) ({ cls := "TuneSchool$Moment", name := "mark", desc := "(I)V" } : Jvm.MethodName)) ∈ gtb := gtb_of (mt3 (i := 101) rfl) rfl
theorem q3_102 : (Jvm.Cond.methodLink "TuneSchool" (354 : Nat) ({ cls := "TuneSchool$Rule", name := "tells", desc := "(LTuneSchool$Moment;)Z" } : Jvm.MethodName)) ∈ gtb := gtb_of (mt3 (i := 102) rfl) rfl
theorem q3_104 : (Jvm.Cond.sameMethod "TuneSchool$Rule" "TuneSchool$Rule" "tells" "(LTuneSchool$Moment;)Z") ∈ gtb := gtb_of (mt3 (i := 104) rfl) rfl
theorem q3_105 : (Jvm.Cond.selects "TuneSchool$Cadence" ({ cls := "TuneSchool$Rule", name := "tells", desc := "(LTuneSchool$Moment;)Z" } : Jvm.MethodName) ({ cls := "TuneSchool$Cadence", name := "tells", desc := "(LTuneSchool$Moment;)Z" } : Jvm.MethodName)) ∈ gtb := gtb_of (mt3 (i := 105) rfl) rfl
theorem q3_106 : (Jvm.Cond.instanceMethod ({ cls := "TuneSchool$Cadence", name := "tells", desc := "(LTuneSchool$Moment;)Z" } : Jvm.MethodName)) ∈ gtb := gtb_of (mt3 (i := 106) rfl) rfl
theorem q3_107 : (Jvm.Cond.code ({ cls := "TuneSchool$Cadence", name := "tells", desc := "(LTuneSchool$Moment;)Z" } : Jvm.MethodName) prog_2_method_3_code (2 : Nat) (Option.some Jvm.ClassFile.FieldType.boolean)) ∈ gtb := gtb_of (mt3 (i := 107) rfl) rfl
theorem q3_108 : (Jvm.Cond.methodLink "TuneSchool$Cadence" (9 : Nat) ({ cls := "TuneSchool$Moment", name := "mark", desc := "(I)V" } : Jvm.MethodName)) ∈ gtb := gtb_of (mt3 (i := 108) rfl) rfl
theorem q3_109 : (Jvm.Cond.methodLink "TuneSchool$Cadence" (15 : Nat) ({ cls := "TuneSchool$Motion", name := "tells", desc := "(LTuneSchool$Moment;)Z" } : Jvm.MethodName)) ∈ gtb := gtb_of (mt3 (i := 109) rfl) rfl
theorem q3_110 : (Jvm.Cond.instanceMethod ({ cls := "TuneSchool$Motion", name := "tells", desc := "(LTuneSchool$Moment;)Z" } : Jvm.MethodName)) ∈ gtb := gtb_of (mt3 (i := 110) rfl) rfl
theorem q3_111 : (Jvm.Cond.code ({ cls := "TuneSchool$Motion", name := "tells", desc := "(LTuneSchool$Moment;)Z" } : Jvm.MethodName) prog_8_method_3_code (2 : Nat) (Option.some Jvm.ClassFile.FieldType.boolean)) ∈ gtb := gtb_of (mt3 (i := 111) rfl) rfl
theorem q3_112 : (Jvm.Cond.methodLink "TuneSchool$Motion" (9 : Nat) ({ cls := "TuneSchool$Moment", name := "mark", desc := "(I)V" } : Jvm.MethodName)) ∈ gtb := gtb_of (mt3 (i := 112) rfl) rfl
theorem q3_113 : (Jvm.Cond.methodLink "TuneSchool$Motion" (15 : Nat) ({ cls := "TuneSchool$Interval", name := "tells", desc := "(LTuneSchool$Moment;)Z" } : Jvm.MethodName)) ∈ gtb := gtb_of (mt3 (i := 113) rfl) rfl
theorem q3_114 : (Jvm.Cond.instanceMethod ({ cls := "TuneSchool$Interval", name := "tells", desc := "(LTuneSchool$Moment;)Z" } : Jvm.MethodName)) ∈ gtb := gtb_of (mt3 (i := 114) rfl) rfl
theorem q3_115 : (Jvm.Cond.code ({ cls := "TuneSchool$Interval", name := "tells", desc := "(LTuneSchool$Moment;)Z" } : Jvm.MethodName) prog_4_method_3_code (2 : Nat) (Option.some Jvm.ClassFile.FieldType.boolean)) ∈ gtb := gtb_of (mt3 (i := 115) rfl) rfl
theorem q3_116 : (Jvm.Cond.methodLink "TuneSchool$Interval" (9 : Nat) ({ cls := "TuneSchool$Moment", name := "mark", desc := "(I)V" } : Jvm.MethodName)) ∈ gtb := gtb_of (mt3 (i := 116) rfl) rfl
theorem q3_117 : (Jvm.Cond.methodLink "TuneSchool$Interval" (15 : Nat) ({ cls := "TuneSchool$Moment", name := "isStrong", desc := "()Z" } : Jvm.MethodName)) ∈ gtb := gtb_of (mt3 (i := 117) rfl) rfl
theorem q3_118 : (Jvm.Cond.instanceMethod ({ cls := "TuneSchool$Moment", name := "isStrong", desc := "()Z" } : Jvm.MethodName)) ∈ gtb := gtb_of (mt3 (i := 118) rfl) rfl
theorem q3_119 : (Jvm.Cond.selects "TuneSchool$Moment" ({ cls := "TuneSchool$Moment", name := "isStrong", desc := "()Z" } : Jvm.MethodName) ({ cls := "TuneSchool$Moment", name := "isStrong", desc := "()Z" } : Jvm.MethodName)) ∈ gtb := gtb_of (mt3 (i := 119) rfl) rfl
theorem q3_120 : (Jvm.Cond.code ({ cls := "TuneSchool$Moment", name := "isStrong", desc := "()Z" } : Jvm.MethodName) prog_7_method_7_code (1 : Nat) (Option.some Jvm.ClassFile.FieldType.boolean)) ∈ gtb := gtb_of (mt3 (i := 120) rfl) rfl
theorem q3_121 : (Jvm.Cond.methodLink "TuneSchool$Interval" (19 : Nat) ({ cls := "TuneSchool$Moment", name := "step", desc := "()I" } : Jvm.MethodName)) ∈ gtb := gtb_of (mt3 (i := 121) rfl) rfl
theorem q3_122 : (Jvm.Cond.instanceMethod ({ cls := "TuneSchool$Moment", name := "step", desc := "()I" } : Jvm.MethodName)) ∈ gtb := gtb_of (mt3 (i := 122) rfl) rfl
theorem q3_123 : (Jvm.Cond.selects "TuneSchool$Moment" ({ cls := "TuneSchool$Moment", name := "step", desc := "()I" } : Jvm.MethodName) ({ cls := "TuneSchool$Moment", name := "step", desc := "()I" } : Jvm.MethodName)) ∈ gtb := gtb_of (mt3 (i := 123) rfl) rfl
theorem q3_124 : (Jvm.Cond.code ({ cls := "TuneSchool$Moment", name := "step", desc := "()I" } : Jvm.MethodName) prog_7_method_8_code (1 : Nat) (Option.some Jvm.ClassFile.FieldType.int)) ∈ gtb := gtb_of (mt3 (i := 124) rfl) rfl
theorem q3_125 : (Jvm.Cond.methodLink "TuneSchool$Interval" (23 : Nat) ({ cls := "TuneSchool$Interval", name := "holds", desc := "(II)Z" } : Jvm.MethodName)) ∈ gtb := gtb_of (mt3 (i := 125) rfl) rfl
theorem q3_126 : (Jvm.Cond.sameMethod "TuneSchool$Interval" "TuneSchool$Rule" "holds" "(II)Z") ∈ gtb := gtb_of (mt3 (i := 126) rfl) rfl
theorem q3_128 : (Jvm.Cond.selects "TuneSchool$Cadence" ({ cls := "TuneSchool$Interval", name := "holds", desc := "(II)Z" } : Jvm.MethodName) ({ cls := "TuneSchool$Rule", name := "holds", desc := "(II)Z" } : Jvm.MethodName)) ∈ gtb := gtb_of (mt3 (i := 128) rfl) rfl
theorem q3_129 : (Jvm.Cond.selects "TuneSchool$Interval" ({ cls := "TuneSchool$Interval", name := "holds", desc := "(II)Z" } : Jvm.MethodName) ({ cls := "TuneSchool$Rule", name := "holds", desc := "(II)Z" } : Jvm.MethodName)) ∈ gtb := gtb_of (mt3 (i := 129) rfl) rfl
theorem q3_130 : (Jvm.Cond.selects "TuneSchool$Motion" ({ cls := "TuneSchool$Interval", name := "holds", desc := "(II)Z" } : Jvm.MethodName) ({ cls := "TuneSchool$Rule", name := "holds", desc := "(II)Z" } : Jvm.MethodName)) ∈ gtb := gtb_of (mt3 (i := 130) rfl) rfl
theorem q3_131 : (Jvm.Cond.methodLink "TuneSchool$Motion" (19 : Nat) ({ cls := "TuneSchool$Moment", name := "moved", desc := "()Z" } : Jvm.MethodName)) ∈ gtb := gtb_of (mt3 (i := 131) rfl) rfl
theorem q3_132 : (Jvm.Cond.instanceMethod ({ cls := "TuneSchool$Moment", name := "moved", desc := "()Z" } : Jvm.MethodName)) ∈ gtb := gtb_of (mt3 (i := 132) rfl) rfl
theorem q3_133 : (Jvm.Cond.selects "TuneSchool$Moment" ({ cls := "TuneSchool$Moment", name := "moved", desc := "()Z" } : Jvm.MethodName) ({ cls := "TuneSchool$Moment", name := "moved", desc := "()Z" } : Jvm.MethodName)) ∈ gtb := gtb_of (mt3 (i := 133) rfl) rfl
theorem q3_134 : (Jvm.Cond.code ({ cls := "TuneSchool$Moment", name := "moved", desc := "()Z" } : Jvm.MethodName) prog_7_method_9_code (1 : Nat) (Option.some Jvm.ClassFile.FieldType.boolean)) ∈ gtb := gtb_of (mt3 (i := 134) rfl) rfl
theorem q3_135 : (Jvm.Cond.methodLink "TuneSchool$Motion" (23 : Nat) ({ cls := "TuneSchool$Moment", name := "way", desc := "()I" } : Jvm.MethodName)) ∈ gtb := gtb_of (mt3 (i := 135) rfl) rfl
theorem q3_136 : (Jvm.Cond.instanceMethod ({ cls := "TuneSchool$Moment", name := "way", desc := "()I" } : Jvm.MethodName)) ∈ gtb := gtb_of (mt3 (i := 136) rfl) rfl
theorem q3_137 : (Jvm.Cond.selects "TuneSchool$Moment" ({ cls := "TuneSchool$Moment", name := "way", desc := "()I" } : Jvm.MethodName) ({ cls := "TuneSchool$Moment", name := "way", desc := "()I" } : Jvm.MethodName)) ∈ gtb := gtb_of (mt3 (i := 137) rfl) rfl
theorem q3_138 : (Jvm.Cond.code ({ cls := "TuneSchool$Moment", name := "way", desc := "()I" } : Jvm.MethodName) prog_7_method_10_code (3 : Nat) (Option.some Jvm.ClassFile.FieldType.int)) ∈ gtb := gtb_of (mt3 (i := 138) rfl) rfl
theorem q3_139 : (Jvm.Cond.methodLink "TuneSchool$Motion" (27 : Nat) ({ cls := "TuneSchool$Moment", name := "step", desc := "()I" } : Jvm.MethodName)) ∈ gtb := gtb_of (mt3 (i := 139) rfl) rfl
theorem q3_140 : (Jvm.Cond.methodLink "TuneSchool$Motion" (30 : Nat) ({ cls := "TuneSchool$Motion", name := "holds", desc := "(II)Z" } : Jvm.MethodName)) ∈ gtb := gtb_of (mt3 (i := 140) rfl) rfl
theorem q3_141 : (Jvm.Cond.sameMethod "TuneSchool$Motion" "TuneSchool$Rule" "holds" "(II)Z") ∈ gtb := gtb_of (mt3 (i := 141) rfl) rfl
theorem q3_142 : (Jvm.Cond.selects "TuneSchool$Cadence" ({ cls := "TuneSchool$Motion", name := "holds", desc := "(II)Z" } : Jvm.MethodName) ({ cls := "TuneSchool$Rule", name := "holds", desc := "(II)Z" } : Jvm.MethodName)) ∈ gtb := gtb_of (mt3 (i := 142) rfl) rfl
theorem q3_143 : (Jvm.Cond.selects "TuneSchool$Motion" ({ cls := "TuneSchool$Motion", name := "holds", desc := "(II)Z" } : Jvm.MethodName) ({ cls := "TuneSchool$Rule", name := "holds", desc := "(II)Z" } : Jvm.MethodName)) ∈ gtb := gtb_of (mt3 (i := 143) rfl) rfl
theorem q3_144 : (Jvm.Cond.methodLink "TuneSchool$Cadence" (23 : Nat) ({ cls := "TuneSchool$Moment", name := "step", desc := "()I" } : Jvm.MethodName)) ∈ gtb := gtb_of (mt3 (i := 144) rfl) rfl
theorem q3_145 : (Jvm.Cond.selects "TuneSchool$Interval" ({ cls := "TuneSchool$Rule", name := "tells", desc := "(LTuneSchool$Moment;)Z" } : Jvm.MethodName) ({ cls := "TuneSchool$Interval", name := "tells", desc := "(LTuneSchool$Moment;)Z" } : Jvm.MethodName)) ∈ gtb := gtb_of (mt3 (i := 145) rfl) rfl
theorem q3_146 : (Jvm.Cond.selects "TuneSchool$Leap" ({ cls := "TuneSchool$Rule", name := "tells", desc := "(LTuneSchool$Moment;)Z" } : Jvm.MethodName) ({ cls := "TuneSchool$Leap", name := "tells", desc := "(LTuneSchool$Moment;)Z" } : Jvm.MethodName)) ∈ gtb := gtb_of (mt3 (i := 146) rfl) rfl
theorem q3_147 : (Jvm.Cond.instanceMethod ({ cls := "TuneSchool$Leap", name := "tells", desc := "(LTuneSchool$Moment;)Z" } : Jvm.MethodName)) ∈ gtb := gtb_of (mt3 (i := 147) rfl) rfl
theorem q3_148 : (Jvm.Cond.code ({ cls := "TuneSchool$Leap", name := "tells", desc := "(LTuneSchool$Moment;)Z" } : Jvm.MethodName) prog_5_method_4_code (4 : Nat) (Option.some Jvm.ClassFile.FieldType.boolean)) ∈ gtb := gtb_of (mt3 (i := 148) rfl) rfl
theorem q3_149 : (Jvm.Cond.methodLink "TuneSchool$Leap" (26 : Nat) ({ cls := "TuneSchool$Leap", name := "wantsAnswer", desc := "(II)Z" } : Jvm.MethodName)) ∈ gtb := gtb_of (mt3 (i := 149) rfl) rfl
theorem q3_150 : (Jvm.Cond.instanceMethod ({ cls := "TuneSchool$Leap", name := "wantsAnswer", desc := "(II)Z" } : Jvm.MethodName)) ∈ gtb := gtb_of (mt3 (i := 150) rfl) rfl
theorem q3_151 : (Jvm.Cond.selects "TuneSchool$Leap" ({ cls := "TuneSchool$Leap", name := "wantsAnswer", desc := "(II)Z" } : Jvm.MethodName) ({ cls := "TuneSchool$Leap", name := "wantsAnswer", desc := "(II)Z" } : Jvm.MethodName)) ∈ gtb := gtb_of (mt3 (i := 151) rfl) rfl
theorem q3_152 : (Jvm.Cond.code ({ cls := "TuneSchool$Leap", name := "wantsAnswer", desc := "(II)Z" } : Jvm.MethodName) prog_5_method_5_code (3 : Nat) (Option.some Jvm.ClassFile.FieldType.boolean)) ∈ gtb := gtb_of (mt3 (i := 152) rfl) rfl
theorem q3_153 : (Jvm.Cond.methodLink "TuneSchool$Leap" (41 : Nat) ({ cls := "java/lang/Math", name := "abs", desc := "(I)I" } : Jvm.MethodName)) ∈ gtb := gtb_of (mt3 (i := 153) rfl) rfl
theorem q3_154 : (Jvm.Cond.static ({ cls := "java/lang/Math", name := "abs", desc := "(I)I" } : Jvm.MethodName)) ∈ gtb := gtb_of (mt3 (i := 154) rfl) rfl
theorem q3_155 : (Jvm.Cond.code ({ cls := "java/lang/Math", name := "abs", desc := "(I)I" } : Jvm.MethodName) prog_15_method_59_code (1 : Nat) (Option.some Jvm.ClassFile.FieldType.int)) ∈ gtb := gtb_of (mt3 (i := 155) rfl) rfl
theorem q3_156 : (Jvm.Cond.methodLink "TuneSchool$Leap" (46 : Nat) ({ cls := "java/lang/Math", name := "min", desc := "(II)I" } : Jvm.MethodName)) ∈ gtb := gtb_of (mt3 (i := 156) rfl) rfl
theorem q3_157 : (Jvm.Cond.static ({ cls := "java/lang/Math", name := "min", desc := "(II)I" } : Jvm.MethodName)) ∈ gtb := gtb_of (mt3 (i := 157) rfl) rfl
theorem q3_158 : (Jvm.Cond.code ({ cls := "java/lang/Math", name := "min", desc := "(II)I" } : Jvm.MethodName) prog_15_method_69_code (2 : Nat) (Option.some Jvm.ClassFile.FieldType.int)) ∈ gtb := gtb_of (mt3 (i := 158) rfl) rfl
theorem q3_159 : (Jvm.Cond.methodLink "TuneSchool$Leap" (50 : Nat) ({ cls := "TuneSchool$Leap", name := "holds", desc := "(II)Z" } : Jvm.MethodName)) ∈ gtb := gtb_of (mt3 (i := 159) rfl) rfl
theorem q3_160 : (Jvm.Cond.sameMethod "TuneSchool$Leap" "TuneSchool$Rule" "holds" "(II)Z") ∈ gtb := gtb_of (mt3 (i := 160) rfl) rfl
theorem q3_161 : (Jvm.Cond.selects "TuneSchool$Leap" ({ cls := "TuneSchool$Leap", name := "holds", desc := "(II)Z" } : Jvm.MethodName) ({ cls := "TuneSchool$Rule", name := "holds", desc := "(II)Z" } : Jvm.MethodName)) ∈ gtb := gtb_of (mt3 (i := 161) rfl) rfl
theorem q3_162 : (Jvm.Cond.methodLink "TuneSchool$Leap" (35 : Nat) ({ cls := "TuneSchool$Voice", name := "otherBehind", desc := "(I)I" } : Jvm.MethodName)) ∈ gtb := gtb_of (mt3 (i := 162) rfl) rfl
theorem q3_163 : (Jvm.Cond.instanceMethod ({ cls := "TuneSchool$Voice", name := "otherBehind", desc := "(I)I" } : Jvm.MethodName)) ∈ gtb := gtb_of (mt3 (i := 163) rfl) rfl
theorem q3_164 : (Jvm.Cond.selects "TuneSchool$Voice" ({ cls := "TuneSchool$Voice", name := "otherBehind", desc := "(I)I" } : Jvm.MethodName) ({ cls := "TuneSchool$Voice", name := "otherBehind", desc := "(I)I" } : Jvm.MethodName)) ∈ gtb := gtb_of (mt3 (i := 164) rfl) rfl
theorem q3_165 : (Jvm.Cond.code ({ cls := "TuneSchool$Voice", name := "otherBehind", desc := "(I)I" } : Jvm.MethodName) prog_12_method_8_code (3 : Nat) (Option.some Jvm.ClassFile.FieldType.int)) ∈ gtb := gtb_of (mt3 (i := 165) rfl) rfl
theorem q3_166 : (Jvm.Cond.methodLink "TuneSchool$Voice" (43 : Nat) ({ cls := "TuneSchool$Voice", name := "at", desc := "(I)I" } : Jvm.MethodName)) ∈ gtb := gtb_of (mt3 (i := 166) rfl) rfl
theorem q3_167 : (Jvm.Cond.selects "TuneSchool$Motion" ({ cls := "TuneSchool$Rule", name := "tells", desc := "(LTuneSchool$Moment;)Z" } : Jvm.MethodName) ({ cls := "TuneSchool$Motion", name := "tells", desc := "(LTuneSchool$Moment;)Z" } : Jvm.MethodName)) ∈ gtb := gtb_of (mt3 (i := 167) rfl) rfl
theorem q3_168 : (Jvm.Cond.methodLink "TuneSchool" (357 : Nat) ({ cls := "TuneSchool", name := "noteFault", desc := "(LTuneSchool$Rule;III)V" } : Jvm.MethodName)) ∈ gtb := gtb_of (mt3 (i := 168) rfl) rfl
theorem q3_170 : (Jvm.Cond.instanceMethod ({ cls := "TuneSchool", name := "noteFault", desc := "(LTuneSchool$Rule;III)V" } : Jvm.MethodName)) ∈ gtb := gtb_of (mt3 (i := 170) rfl) rfl
theorem q3_171 : (Jvm.Cond.code ({ cls := "TuneSchool", name := "noteFault", desc := "(LTuneSchool$Rule;III)V" } : Jvm.MethodName) prog_1_method_60_code (6 : Nat) (Option.none : Option Jvm.ClassFile.FieldType)) ∈ gtb := gtb_of (mt3 (i := 171) rfl) rfl
theorem q3_172 : (Jvm.Cond.methodLink "TuneSchoolLaw" (108 : Nat) ({ cls := "TuneSchool", name := "fault", desc := "(II)I" } : Jvm.MethodName)) ∈ gtb := gtb_of (mt3 (i := 172) rfl) rfl
theorem q3_173 : (Jvm.Cond.instanceMethod ({ cls := "TuneSchool", name := "fault", desc := "(II)I" } : Jvm.MethodName)) ∈ gtb := gtb_of (mt3 (i := 173) rfl) rfl
theorem q3_174 : (Jvm.Cond.selects "TuneSchool" ({ cls := "TuneSchool", name := "fault", desc := "(II)I" } : Jvm.MethodName) ({ cls := "TuneSchool", name := "fault", desc := "(II)I" } : Jvm.MethodName)) ∈ gtb := gtb_of (mt3 (i := 174) rfl) rfl
theorem q3_175 : (Jvm.Cond.code ({ cls := "TuneSchool", name := "fault", desc := "(II)I" } : Jvm.MethodName) prog_1_method_24_code (3 : Nat) (Option.some Jvm.ClassFile.FieldType.int)) ∈ gtb := gtb_of (mt3 (i := 175) rfl) rfl
theorem q3_176 : (Jvm.Cond.methodLink "TuneSchool" (212 : Nat) ({ cls := "TuneSchool", name := "faultNumber", desc := "(II)I" } : Jvm.MethodName)) ∈ gtb := gtb_of (mt3 (i := 176) rfl) rfl
theorem q3_178 : (Jvm.Cond.instanceMethod ({ cls := "TuneSchool", name := "faultNumber", desc := "(II)I" } : Jvm.MethodName)) ∈ gtb := gtb_of (mt3 (i := 178) rfl) rfl
theorem q3_179 : (Jvm.Cond.code ({ cls := "TuneSchool", name := "faultNumber", desc := "(II)I" } : Jvm.MethodName) prog_1_method_61_code (3 : Nat) (Option.some Jvm.ClassFile.FieldType.int)) ∈ gtb := gtb_of (mt3 (i := 179) rfl) rfl
theorem q3_180 : (Jvm.Cond.methodLink "TuneSchoolLaw" (112 : Nat) ({ cls := "TuneSchool", name := "mend", desc := "(I)I" } : Jvm.MethodName)) ∈ gtb := gtb_of (mt3 (i := 180) rfl) rfl
theorem q3_181 : (Jvm.Cond.instanceMethod ({ cls := "TuneSchool", name := "mend", desc := "(I)I" } : Jvm.MethodName)) ∈ gtb := gtb_of (mt3 (i := 181) rfl) rfl
theorem q3_182 : (Jvm.Cond.selects "TuneSchool" ({ cls := "TuneSchool", name := "mend", desc := "(I)I" } : Jvm.MethodName) ({ cls := "TuneSchool", name := "mend", desc := "(I)I" } : Jvm.MethodName)) ∈ gtb := gtb_of (mt3 (i := 182) rfl) rfl
theorem q3_183 : (Jvm.Cond.code ({ cls := "TuneSchool", name := "mend", desc := "(I)I" } : Jvm.MethodName) prog_1_method_25_code (5 : Nat) (Option.some Jvm.ClassFile.FieldType.int)) ∈ gtb := gtb_of (mt3 (i := 183) rfl) rfl
theorem q3_184 : (Jvm.Cond.methodLink "TuneSchool" (227 : Nat) ({ cls := "TuneSchool$Rule", name := "mends", desc := "(LTuneSchool$Moment;)I" } : Jvm.MethodName)) ∈ gtb := gtb_of (mt3 (i := 184) rfl) rfl
theorem q3_185 : (Jvm.Cond.instanceMethod ({ cls := "TuneSchool$Rule", name := "mends", desc := "(LTuneSchool$Moment;)I" } : Jvm.MethodName)) ∈ gtb := gtb_of (mt3 (i := 185) rfl) rfl
theorem q3_186 : (Jvm.Cond.sameMethod "TuneSchool$Rule" "TuneSchool$Rule" "mends" "(LTuneSchool$Moment;)I") ∈ gtb := gtb_of (mt3 (i := 186) rfl) rfl
theorem q3_187 : (Jvm.Cond.selects "TuneSchool$Cadence" ({ cls := "TuneSchool$Rule", name := "mends", desc := "(LTuneSchool$Moment;)I" } : Jvm.MethodName) ({ cls := "TuneSchool$Cadence", name := "mends", desc := "(LTuneSchool$Moment;)I" } : Jvm.MethodName)) ∈ gtb := gtb_of (mt3 (i := 187) rfl) rfl
theorem q3_188 : (Jvm.Cond.instanceMethod ({ cls := "TuneSchool$Cadence", name := "mends", desc := "(LTuneSchool$Moment;)I" } : Jvm.MethodName)) ∈ gtb := gtb_of (mt3 (i := 188) rfl) rfl
theorem q3_189 : (Jvm.Cond.code ({ cls := "TuneSchool$Cadence", name := "mends", desc := "(LTuneSchool$Moment;)I" } : Jvm.MethodName) prog_2_method_4_code (3 : Nat) (Option.some Jvm.ClassFile.FieldType.int)) ∈ gtb := gtb_of (mt3 (i := 189) rfl) rfl
theorem q3_190 : (Jvm.Cond.methodLink "TuneSchool$Cadence" (34 : Nat) ({ cls := "TuneSchool$Cadence", name := "tells", desc := "(LTuneSchool$Moment;)Z" } : Jvm.MethodName)) ∈ gtb := gtb_of (mt3 (i := 190) rfl) rfl
theorem q3_191 : (Jvm.Cond.methodLink "TuneSchool$Cadence" (37 : Nat) ({ cls := "TuneSchool$Motion", name := "mends", desc := "(LTuneSchool$Moment;)I" } : Jvm.MethodName)) ∈ gtb := gtb_of (mt3 (i := 191) rfl) rfl
theorem q3_192 : (Jvm.Cond.sameMethod "TuneSchool$Motion" "TuneSchool$Interval" "mends" "(LTuneSchool$Moment;)I") ∈ gtb := gtb_of (mt3 (i := 192) rfl) rfl
theorem q3_194 : (Jvm.Cond.instanceMethod ({ cls := "TuneSchool$Interval", name := "mends", desc := "(LTuneSchool$Moment;)I" } : Jvm.MethodName)) ∈ gtb := gtb_of (mt3 (i := 194) rfl) rfl
theorem q3_195 : (Jvm.Cond.code ({ cls := "TuneSchool$Interval", name := "mends", desc := "(LTuneSchool$Moment;)I" } : Jvm.MethodName) prog_4_method_4_code (4 : Nat) (Option.some Jvm.ClassFile.FieldType.int)) ∈ gtb := gtb_of (mt3 (i := 195) rfl) rfl
theorem q3_196 : (Jvm.Cond.methodLink "TuneSchool$Interval" (33 : Nat) ({ cls := "TuneSchool$Interval", name := "tells", desc := "(LTuneSchool$Moment;)Z" } : Jvm.MethodName)) ∈ gtb := gtb_of (mt3 (i := 196) rfl) rfl
theorem q3_197 : (Jvm.Cond.selects "TuneSchool$Interval" ({ cls := "TuneSchool$Rule", name := "mends", desc := "(LTuneSchool$Moment;)I" } : Jvm.MethodName) ({ cls := "TuneSchool$Interval", name := "mends", desc := "(LTuneSchool$Moment;)I" } : Jvm.MethodName)) ∈ gtb := gtb_of (mt3 (i := 197) rfl) rfl
theorem q3_198 : (Jvm.Cond.selects "TuneSchool$Leap" ({ cls := "TuneSchool$Rule", name := "mends", desc := "(LTuneSchool$Moment;)I" } : Jvm.MethodName) ({ cls := "TuneSchool$Rule", name := "mends", desc := "(LTuneSchool$Moment;)I" } : Jvm.MethodName)) ∈ gtb := gtb_of (mt3 (i := 198) rfl) rfl
theorem q3_199 : (Jvm.Cond.selects "TuneSchool$Motion" ({ cls := "TuneSchool$Rule", name := "mends", desc := "(LTuneSchool$Moment;)I" } : Jvm.MethodName) ({ cls := "TuneSchool$Interval", name := "mends", desc := "(LTuneSchool$Moment;)I" } : Jvm.MethodName)) ∈ gtb := gtb_of (mt3 (i := 199) rfl) rfl
theorem q3_200 : (Jvm.Cond.code ({ cls := "TuneSchool$Rule", name := "mends", desc := "(LTuneSchool$Moment;)I" } : Jvm.MethodName) prog_9_method_9_code (2 : Nat) (Option.some Jvm.ClassFile.FieldType.int)) ∈ gtb := gtb_of (mt3 (i := 200) rfl) rfl
theorem q3_201 : (Jvm.Cond.methodLink "TuneSchoolLaw" (116 : Nat) ({ cls := "TuneSchool", name := "canon", desc := "(IIIII)I" } : Jvm.MethodName)) ∈ gtb := gtb_of (mt3 (i := 201) rfl) rfl
theorem q3_202 : (Jvm.Cond.instanceMethod ({ cls := "TuneSchool", name := "canon", desc := "(IIIII)I" } : Jvm.MethodName)) ∈ gtb := gtb_of (mt3 (i := 202) rfl) rfl
theorem q3_203 : (Jvm.Cond.selects "TuneSchool" ({ cls := "TuneSchool", name := "canon", desc := "(IIIII)I" } : Jvm.MethodName) ({ cls := "TuneSchool", name := "canon", desc := "(IIIII)I" } : Jvm.MethodName)) ∈ gtb := gtb_of (mt3 (i := 203) rfl) rfl
theorem q3_204 : (Jvm.Cond.code ({ cls := "TuneSchool", name := "canon", desc := "(IIIII)I" } : Jvm.MethodName) prog_1_method_26_code (7 : Nat) (Option.some Jvm.ClassFile.FieldType.int)) ∈ gtb := gtb_of (mt3 (i := 204) rfl) rfl
theorem q3_205 : (Jvm.Cond.methodLink "TuneSchool" (231 : Nat) ({ cls := "TuneSchool", name := "isFollower", desc := "(III)Z" } : Jvm.MethodName)) ∈ gtb := gtb_of (mt3 (i := 205) rfl) rfl
theorem q3_206 : (Jvm.Cond.static ({ cls := "TuneSchool", name := "isFollower", desc := "(III)Z" } : Jvm.MethodName)) ∈ gtb := gtb_of (mt3 (i := 206) rfl) rfl
theorem q3_207 : (Jvm.Cond.code ({ cls := "TuneSchool", name := "isFollower", desc := "(III)Z" } : Jvm.MethodName) prog_1_method_48_code (3 : Nat) (Option.some Jvm.ClassFile.FieldType.boolean)) ∈ gtb := gtb_of (mt3 (i := 207) rfl) rfl
theorem q3_208 : (Jvm.Cond.methodLink "TuneSchool" (234 : Nat) ({ cls := "TuneSchool", name := "firstFault", desc := "(LTuneSchool$Voice;LTuneSchool$Standing;III)I" } : Jvm.MethodName)) ∈ gtb := gtb_of (mt3 (i := 208) rfl) rfl
theorem q3_210 : (Jvm.Cond.instanceMethod ({ cls := "TuneSchool", name := "firstFault", desc := "(LTuneSchool$Voice;LTuneSchool$Standing;III)I" } : Jvm.MethodName)) ∈ gtb := gtb_of (mt3 (i := 210) rfl) rfl
theorem q3_211 : (Jvm.Cond.code ({ cls := "TuneSchool", name := "firstFault", desc := "(LTuneSchool$Voice;LTuneSchool$Standing;III)I" } : Jvm.MethodName) prog_1_method_62_code (8 : Nat) (Option.some Jvm.ClassFile.FieldType.int)) ∈ gtb := gtb_of (mt3 (i := 211) rfl) rfl
theorem q3_212 : (Jvm.Cond.methodLink "TuneSchool" (364 : Nat) ({ cls := "TuneSchool$Voice", name := "follow", desc := "(LTuneSchool$Voice;III)V" } : Jvm.MethodName)) ∈ gtb := gtb_of (mt3 (i := 212) rfl) rfl
theorem q3_213 : (Jvm.Cond.instanceMethod ({ cls := "TuneSchool$Voice", name := "follow", desc := "(LTuneSchool$Voice;III)V" } : Jvm.MethodName)) ∈ gtb := gtb_of (mt3 (i := 213) rfl) rfl
theorem q3_214 : (Jvm.Cond.selects "TuneSchool$Voice" ({ cls := "TuneSchool$Voice", name := "follow", desc := "(LTuneSchool$Voice;III)V" } : Jvm.MethodName) ({ cls := "TuneSchool$Voice", name := "follow", desc := "(LTuneSchool$Voice;III)V" } : Jvm.MethodName)) ∈ gtb := gtb_of (mt3 (i := 214) rfl) rfl
theorem q3_215 : (Jvm.Cond.code ({ cls := "TuneSchool$Voice", name := "follow", desc := "(LTuneSchool$Voice;III)V" } : Jvm.MethodName) prog_12_method_13_code (6 : Nat) (Option.none : Option Jvm.ClassFile.FieldType)) ∈ gtb := gtb_of (mt3 (i := 215) rfl) rfl
theorem q3_216 : (Jvm.Cond.methodLink "TuneSchool$Voice" (55 : Nat) ({ cls := "TuneSchool$Voice", name := "followed", desc := "(IIII)I" } : Jvm.MethodName)) ∈ gtb := gtb_of (mt3 (i := 216) rfl) rfl
theorem q3_217 : (Jvm.Cond.instanceMethod ({ cls := "TuneSchool$Voice", name := "followed", desc := "(IIII)I" } : Jvm.MethodName)) ∈ gtb := gtb_of (mt3 (i := 217) rfl) rfl
theorem q3_218 : (Jvm.Cond.selects "TuneSchool$Voice" ({ cls := "TuneSchool$Voice", name := "followed", desc := "(IIII)I" } : Jvm.MethodName) ({ cls := "TuneSchool$Voice", name := "followed", desc := "(IIII)I" } : Jvm.MethodName)) ∈ gtb := gtb_of (mt3 (i := 218) rfl) rfl
theorem q3_219 : (Jvm.Cond.code ({ cls := "TuneSchool$Voice", name := "followed", desc := "(IIII)I" } : Jvm.MethodName) prog_12_method_12_code (7 : Nat) (Option.some Jvm.ClassFile.FieldType.int)) ∈ gtb := gtb_of (mt3 (i := 219) rfl) rfl
theorem q3_220 : (Jvm.Cond.methodLink "TuneSchool$Voice" (51 : Nat) ({ cls := "TuneSchool$Voice", name := "firstPitch", desc := "()I" } : Jvm.MethodName)) ∈ gtb := gtb_of (mt3 (i := 220) rfl) rfl
theorem q3_221 : (Jvm.Cond.instanceMethod ({ cls := "TuneSchool$Voice", name := "firstPitch", desc := "()I" } : Jvm.MethodName)) ∈ gtb := gtb_of (mt3 (i := 221) rfl) rfl
theorem q3_222 : (Jvm.Cond.selects "TuneSchool$Voice" ({ cls := "TuneSchool$Voice", name := "firstPitch", desc := "()I" } : Jvm.MethodName) ({ cls := "TuneSchool$Voice", name := "firstPitch", desc := "()I" } : Jvm.MethodName)) ∈ gtb := gtb_of (mt3 (i := 222) rfl) rfl
theorem q3_223 : (Jvm.Cond.code ({ cls := "TuneSchool$Voice", name := "firstPitch", desc := "()I" } : Jvm.MethodName) prog_12_method_9_code (2 : Nat) (Option.some Jvm.ClassFile.FieldType.int)) ∈ gtb := gtb_of (mt3 (i := 223) rfl) rfl
theorem q3_224 : (Jvm.Cond.methodLink "TuneSchool" (368 : Nat) ({ cls := "TuneSchool", name := "tellsAny", desc := "(LTuneSchool$Standing;)Z" } : Jvm.MethodName)) ∈ gtb := gtb_of (mt3 (i := 224) rfl) rfl
theorem q3_226 : (Jvm.Cond.instanceMethod ({ cls := "TuneSchool", name := "tellsAny", desc := "(LTuneSchool$Standing;)Z" } : Jvm.MethodName)) ∈ gtb := gtb_of (mt3 (i := 226) rfl) rfl
theorem q3_227 : (Jvm.Cond.code ({ cls := "TuneSchool", name := "tellsAny", desc := "(LTuneSchool$Standing;)Z" } : Jvm.MethodName) prog_1_method_63_code (4 : Nat) (Option.some Jvm.ClassFile.FieldType.boolean)) ∈ gtb := gtb_of (mt3 (i := 227) rfl) rfl
theorem q3_228 : (Jvm.Cond.methodLink "TuneSchoolLaw" (120 : Nat) ({ cls := "TuneSchool", name := "canons", desc := "(IIII)I" } : Jvm.MethodName)) ∈ gtb := gtb_of (mt3 (i := 228) rfl) rfl
theorem q3_229 : (Jvm.Cond.instanceMethod ({ cls := "TuneSchool", name := "canons", desc := "(IIII)I" } : Jvm.MethodName)) ∈ gtb := gtb_of (mt3 (i := 229) rfl) rfl
theorem q3_230 : (Jvm.Cond.selects "TuneSchool" ({ cls := "TuneSchool", name := "canons", desc := "(IIII)I" } : Jvm.MethodName) ({ cls := "TuneSchool", name := "canons", desc := "(IIII)I" } : Jvm.MethodName)) ∈ gtb := gtb_of (mt3 (i := 230) rfl) rfl
theorem q3_231 : (Jvm.Cond.code ({ cls := "TuneSchool", name := "canons", desc := "(IIII)I" } : Jvm.MethodName) prog_1_method_27_code (8 : Nat) (Option.some Jvm.ClassFile.FieldType.int)) ∈ gtb := gtb_of (mt3 (i := 231) rfl) rfl
theorem q3_232 : (Jvm.Cond.methodLink "TuneSchoolLaw" (124 : Nat) ({ cls := "TuneSchool", name := "follows", desc := "(IIIII)I" } : Jvm.MethodName)) ∈ gtb := gtb_of (mt3 (i := 232) rfl) rfl
theorem q3_233 : (Jvm.Cond.instanceMethod ({ cls := "TuneSchool", name := "follows", desc := "(IIIII)I" } : Jvm.MethodName)) ∈ gtb := gtb_of (mt3 (i := 233) rfl) rfl
theorem q3_234 : (Jvm.Cond.selects "TuneSchool" ({ cls := "TuneSchool", name := "follows", desc := "(IIIII)I" } : Jvm.MethodName) ({ cls := "TuneSchool", name := "follows", desc := "(IIIII)I" } : Jvm.MethodName)) ∈ gtb := gtb_of (mt3 (i := 234) rfl) rfl
theorem q3_235 : (Jvm.Cond.code ({ cls := "TuneSchool", name := "follows", desc := "(IIIII)I" } : Jvm.MethodName) prog_1_method_28_code (7 : Nat) (Option.some Jvm.ClassFile.FieldType.int)) ∈ gtb := gtb_of (mt3 (i := 235) rfl) rfl
theorem q3_236 : (Jvm.Cond.methodLink "TuneSchool" (238 : Nat) ({ cls := "TuneSchool$Voice", name := "followed", desc := "(IIII)I" } : Jvm.MethodName)) ∈ gtb := gtb_of (mt3 (i := 236) rfl) rfl
theorem q3_237 : (Jvm.Cond.methodLink "TuneSchoolLaw" (128 : Nat) ({ cls := "TuneSchool", name := "set", desc := "(IIIZIII)I" } : Jvm.MethodName)) ∈ gtb := gtb_of (mt3 (i := 237) rfl) rfl
theorem q3_238 : (Jvm.Cond.instanceMethod ({ cls := "TuneSchool", name := "set", desc := "(IIIZIII)I" } : Jvm.MethodName)) ∈ gtb := gtb_of (mt3 (i := 238) rfl) rfl
theorem q3_239 : (Jvm.Cond.selects "TuneSchool" ({ cls := "TuneSchool", name := "set", desc := "(IIIZIII)I" } : Jvm.MethodName) ({ cls := "TuneSchool", name := "set", desc := "(IIIZIII)I" } : Jvm.MethodName)) ∈ gtb := gtb_of (mt3 (i := 239) rfl) rfl
theorem q4_0 : (Jvm.Cond.code ({ cls := "TuneSchool", name := "set", desc := "(IIIZIII)I" } : Jvm.MethodName) prog_1_method_29_code (9 : Nat) (Option.some Jvm.ClassFile.FieldType.int)) ∈ gtb := gtb_of (mt4 (i := 0) rfl) rfl
theorem q4_1 : (Jvm.Cond.methodLink "TuneSchool" (242 : Nat) ({ cls := "TuneSchool$Desk", name := "begin", desc := "(LTuneSchool$Voice;ZII)V" } : Jvm.MethodName)) ∈ gtb := gtb_of (mt4 (i := 1) rfl) rfl
theorem q4_2 : (Jvm.Cond.instanceMethod ({ cls := "TuneSchool$Desk", name := "begin", desc := "(LTuneSchool$Voice;ZII)V" } : Jvm.MethodName)) ∈ gtb := gtb_of (mt4 (i := 2) rfl) rfl
theorem q4_3 : (Jvm.Cond.selects "TuneSchool$Desk" ({ cls := "TuneSchool$Desk", name := "begin", desc := "(LTuneSchool$Voice;ZII)V" } : Jvm.MethodName) ({ cls := "TuneSchool$Desk", name := "begin", desc := "(LTuneSchool$Voice;ZII)V" } : Jvm.MethodName)) ∈ gtb := gtb_of (mt4 (i := 3) rfl) rfl
theorem q4_4 : (Jvm.Cond.code ({ cls := "TuneSchool$Desk", name := "begin", desc := "(LTuneSchool$Voice;ZII)V" } : Jvm.MethodName) prog_3_method_2_code (7 : Nat) (Option.none : Option Jvm.ClassFile.FieldType)) ∈ gtb := gtb_of (mt4 (i := 4) rfl) rfl
theorem q4_5 : (Jvm.Cond.methodLink "TuneSchool$Desk" (48 : Nat) ({ cls := "TuneSchool$Voice", name := "becomeAs", desc := "(LTuneSchool$Voice;)V" } : Jvm.MethodName)) ∈ gtb := gtb_of (mt4 (i := 5) rfl) rfl
theorem q4_6 : (Jvm.Cond.methodLink "TuneSchool$Desk" (65 : Nat) ({ cls := "TuneSchool$Desk", name := "notes", desc := "()I" } : Jvm.MethodName)) ∈ gtb := gtb_of (mt4 (i := 6) rfl) rfl
theorem q4_7 : (Jvm.Cond.instanceMethod ({ cls := "TuneSchool$Desk", name := "notes", desc := "()I" } : Jvm.MethodName)) ∈ gtb := gtb_of (mt4 (i := 7) rfl) rfl
theorem q4_8 : (Jvm.Cond.selects "TuneSchool$Desk" ({ cls := "TuneSchool$Desk", name := "notes", desc := "()I" } : Jvm.MethodName) ({ cls := "TuneSchool$Desk", name := "notes", desc := "()I" } : Jvm.MethodName)) ∈ gtb := gtb_of (mt4 (i := 8) rfl) rfl
theorem q4_9 : (Jvm.Cond.code ({ cls := "TuneSchool$Desk", name := "notes", desc := "()I" } : Jvm.MethodName) prog_3_method_3_code (1 : Nat) (Option.some Jvm.ClassFile.FieldType.int)) ∈ gtb := gtb_of (mt4 (i := 9) rfl) rfl
theorem q4_10 : (Jvm.Cond.methodLink "TuneSchool$Desk" (73 : Nat) ({ cls := "TuneSchool$Desk", name := "isHeard", desc := "(I)Z" } : Jvm.MethodName)) ∈ gtb := gtb_of (mt4 (i := 10) rfl) rfl
theorem q4_11 : (Jvm.Cond.instanceMethod ({ cls := "TuneSchool$Desk", name := "isHeard", desc := "(I)Z" } : Jvm.MethodName)) ∈ gtb := gtb_of (mt4 (i := 11) rfl) rfl
theorem q4_12 : (Jvm.Cond.selects "TuneSchool$Desk" ({ cls := "TuneSchool$Desk", name := "isHeard", desc := "(I)Z" } : Jvm.MethodName) ({ cls := "TuneSchool$Desk", name := "isHeard", desc := "(I)Z" } : Jvm.MethodName)) ∈ gtb := gtb_of (mt4 (i := 12) rfl) rfl
theorem q4_13 : (Jvm.Cond.code ({ cls := "TuneSchool$Desk", name := "isHeard", desc := "(I)Z" } : Jvm.MethodName) prog_3_method_6_code (2 : Nat) (Option.some Jvm.ClassFile.FieldType.boolean)) ∈ gtb := gtb_of (mt4 (i := 13) rfl) rfl
theorem q4_14 : (Jvm.Cond.methodLink "TuneSchool$Desk" (91 : Nat) ({ cls := "TuneSchool$Voice", name := "has", desc := "(II)Z" } : Jvm.MethodName)) ∈ gtb := gtb_of (mt4 (i := 14) rfl) rfl
theorem q4_15 : (Jvm.Cond.methodLink "TuneSchool$Desk" (80 : Nat) ({ cls := "TuneSchool$Desk", name := "work", desc := "(ILTuneSchool$Standing;)V" } : Jvm.MethodName)) ∈ gtb := gtb_of (mt4 (i := 15) rfl) rfl
theorem q4_16 : (Jvm.Cond.instanceMethod ({ cls := "TuneSchool$Desk", name := "work", desc := "(ILTuneSchool$Standing;)V" } : Jvm.MethodName)) ∈ gtb := gtb_of (mt4 (i := 16) rfl) rfl
theorem q4_17 : (Jvm.Cond.selects "TuneSchool$Desk" ({ cls := "TuneSchool$Desk", name := "work", desc := "(ILTuneSchool$Standing;)V" } : Jvm.MethodName) ({ cls := "TuneSchool$Desk", name := "work", desc := "(ILTuneSchool$Standing;)V" } : Jvm.MethodName)) ∈ gtb := gtb_of (mt4 (i := 17) rfl) rfl
theorem q4_18 : (Jvm.Cond.code ({ cls := "TuneSchool$Desk", name := "work", desc := "(ILTuneSchool$Standing;)V" } : Jvm.MethodName) prog_3_method_16_code (10 : Nat) (Option.none : Option Jvm.ClassFile.FieldType)) ∈ gtb := gtb_of (mt4 (i := 18) rfl) rfl
theorem q4_19 : (Jvm.Cond.methodLink "TuneSchool$Desk" (116 : Nat) ({ cls := "TuneSchool$Desk", name := "nextHeard", desc := "(I)I" } : Jvm.MethodName)) ∈ gtb := gtb_of (mt4 (i := 19) rfl) rfl
theorem q4_20 : (Jvm.Cond.instanceMethod ({ cls := "TuneSchool$Desk", name := "nextHeard", desc := "(I)I" } : Jvm.MethodName)) ∈ gtb := gtb_of (mt4 (i := 20) rfl) rfl
theorem q4_21 : (Jvm.Cond.selects "TuneSchool$Desk" ({ cls := "TuneSchool$Desk", name := "nextHeard", desc := "(I)I" } : Jvm.MethodName) ({ cls := "TuneSchool$Desk", name := "nextHeard", desc := "(I)I" } : Jvm.MethodName)) ∈ gtb := gtb_of (mt4 (i := 21) rfl) rfl
theorem q4_22 : (Jvm.Cond.code ({ cls := "TuneSchool$Desk", name := "nextHeard", desc := "(I)I" } : Jvm.MethodName) prog_3_method_13_code (3 : Nat) (Option.some Jvm.ClassFile.FieldType.int)) ∈ gtb := gtb_of (mt4 (i := 22) rfl) rfl
theorem q4_23 : (Jvm.Cond.methodLink "TuneSchool$Desk" (120 : Nat) ({ cls := "TuneSchool$Moment", name := "comeFrom", desc := "(II)V" } : Jvm.MethodName)) ∈ gtb := gtb_of (mt4 (i := 23) rfl) rfl
theorem q4_24 : (Jvm.Cond.instanceMethod ({ cls := "TuneSchool$Moment", name := "comeFrom", desc := "(II)V" } : Jvm.MethodName)) ∈ gtb := gtb_of (mt4 (i := 24) rfl) rfl
theorem q4_25 : (Jvm.Cond.selects "TuneSchool$Moment" ({ cls := "TuneSchool$Moment", name := "comeFrom", desc := "(II)V" } : Jvm.MethodName) ({ cls := "TuneSchool$Moment", name := "comeFrom", desc := "(II)V" } : Jvm.MethodName)) ∈ gtb := gtb_of (mt4 (i := 25) rfl) rfl
theorem q4_26 : (Jvm.Cond.code ({ cls := "TuneSchool$Moment", name := "comeFrom", desc := "(II)V" } : Jvm.MethodName) prog_7_method_5_code (3 : Nat) (Option.none : Option Jvm.ClassFile.FieldType)) ∈ gtb := gtb_of (mt4 (i := 26) rfl) rfl
theorem q4_27 : (Jvm.Cond.methodLink "TuneSchool$Desk" (126 : Nat) ({ cls := "TuneSchool$Desk", name := "isAllowed", desc := "(II)Z" } : Jvm.MethodName)) ∈ gtb := gtb_of (mt4 (i := 27) rfl) rfl
theorem q4_28 : (Jvm.Cond.instanceMethod ({ cls := "TuneSchool$Desk", name := "isAllowed", desc := "(II)Z" } : Jvm.MethodName)) ∈ gtb := gtb_of (mt4 (i := 28) rfl) rfl
theorem q4_29 : (Jvm.Cond.selects "TuneSchool$Desk" ({ cls := "TuneSchool$Desk", name := "isAllowed", desc := "(II)Z" } : Jvm.MethodName) ({ cls := "TuneSchool$Desk", name := "isAllowed", desc := "(II)Z" } : Jvm.MethodName)) ∈ gtb := gtb_of (mt4 (i := 29) rfl) rfl
theorem q4_30 : (Jvm.Cond.code ({ cls := "TuneSchool$Desk", name := "isAllowed", desc := "(II)Z" } : Jvm.MethodName) prog_3_method_17_code (4 : Nat) (Option.some Jvm.ClassFile.FieldType.boolean)) ∈ gtb := gtb_of (mt4 (i := 30) rfl) rfl
theorem q4_31 : (Jvm.Cond.methodLink "TuneSchool$Desk" (129 : Nat) ({ cls := "TuneSchool$Desk", name := "refuses", desc := "(LTuneSchool$Standing;IIII)Z" } : Jvm.MethodName)) ∈ gtb := gtb_of (mt4 (i := 31) rfl) rfl
theorem q4_32 : (Jvm.Cond.instanceMethod ({ cls := "TuneSchool$Desk", name := "refuses", desc := "(LTuneSchool$Standing;IIII)Z" } : Jvm.MethodName)) ∈ gtb := gtb_of (mt4 (i := 32) rfl) rfl
theorem q4_33 : (Jvm.Cond.selects "TuneSchool$Desk" ({ cls := "TuneSchool$Desk", name := "refuses", desc := "(LTuneSchool$Standing;IIII)Z" } : Jvm.MethodName) ({ cls := "TuneSchool$Desk", name := "refuses", desc := "(LTuneSchool$Standing;IIII)Z" } : Jvm.MethodName)) ∈ gtb := gtb_of (mt4 (i := 33) rfl) rfl
theorem q4_34 : (Jvm.Cond.code ({ cls := "TuneSchool$Desk", name := "refuses", desc := "(LTuneSchool$Standing;IIII)Z" } : Jvm.MethodName) prog_3_method_18_code (9 : Nat) (Option.some Jvm.ClassFile.FieldType.boolean)) ∈ gtb := gtb_of (mt4 (i := 34) rfl) rfl
theorem q4_35 : (Jvm.Cond.methodLink "TuneSchool$Desk" (162 : Nat) ({ cls := "TuneSchool$Standing", name := "width", desc := "()I" } : Jvm.MethodName)) ∈ gtb := gtb_of (mt4 (i := 35) rfl) rfl
theorem q4_36 : (Jvm.Cond.methodLink "TuneSchool$Desk" (167 : Nat) ({ cls := "TuneSchool$Standing", name := "ruleAt", desc := "(I)LTuneSchool$Rule;" } : Jvm.MethodName)) ∈ gtb := gtb_of (mt4 (i := 36) rfl) rfl
theorem q4_37 : (Jvm.Cond.methodLink "TuneSchool$Desk" (171 : Nat) ({ cls := "TuneSchool$Rule", name := "listens", desc := "(LTuneSchool$Moment;)Z" } : Jvm.MethodName)) ∈ gtb := gtb_of (mt4 (i := 37) rfl) rfl
theorem q4_38 : (Jvm.Cond.methodLink "TuneSchool$Desk" (177 : Nat) ({ cls := "TuneSchool$Rule", name := "tells", desc := "(LTuneSchool$Moment;)Z" } : Jvm.MethodName)) ∈ gtb := gtb_of (mt4 (i := 38) rfl) rfl
theorem q4_39 : (Jvm.Cond.methodLink "TuneSchool$Desk" (133 : Nat) ({ cls := "TuneSchool$Desk", name := "openFresh", desc := "(IZ)V" } : Jvm.MethodName)) ∈ gtb := gtb_of (mt4 (i := 39) rfl) rfl
theorem q4_40 : (Jvm.Cond.instanceMethod ({ cls := "TuneSchool$Desk", name := "openFresh", desc := "(IZ)V" } : Jvm.MethodName)) ∈ gtb := gtb_of (mt4 (i := 40) rfl) rfl
theorem q4_41 : (Jvm.Cond.selects "TuneSchool$Desk" ({ cls := "TuneSchool$Desk", name := "openFresh", desc := "(IZ)V" } : Jvm.MethodName) ({ cls := "TuneSchool$Desk", name := "openFresh", desc := "(IZ)V" } : Jvm.MethodName)) ∈ gtb := gtb_of (mt4 (i := 41) rfl) rfl
theorem q4_42 : (Jvm.Cond.code ({ cls := "TuneSchool$Desk", name := "openFresh", desc := "(IZ)V" } : Jvm.MethodName) prog_3_method_19_code (5 : Nat) (Option.none : Option Jvm.ClassFile.FieldType)) ∈ gtb := gtb_of (mt4 (i := 42) rfl) rfl
theorem q4_43 : (Jvm.Cond.methodLink "TuneSchool$Desk" (102 : Nat) ({ cls := "TuneSchool$Desk", name := "cell", desc := "(III)I" } : Jvm.MethodName)) ∈ gtb := gtb_of (mt4 (i := 43) rfl) rfl
theorem q4_44 : (Jvm.Cond.instanceMethod ({ cls := "TuneSchool$Desk", name := "cell", desc := "(III)I" } : Jvm.MethodName)) ∈ gtb := gtb_of (mt4 (i := 44) rfl) rfl
theorem q4_45 : (Jvm.Cond.selects "TuneSchool$Desk" ({ cls := "TuneSchool$Desk", name := "cell", desc := "(III)I" } : Jvm.MethodName) ({ cls := "TuneSchool$Desk", name := "cell", desc := "(III)I" } : Jvm.MethodName)) ∈ gtb := gtb_of (mt4 (i := 45) rfl) rfl
theorem q4_46 : (Jvm.Cond.code ({ cls := "TuneSchool$Desk", name := "cell", desc := "(III)I" } : Jvm.MethodName) prog_3_method_9_code (4 : Nat) (Option.some Jvm.ClassFile.FieldType.int)) ∈ gtb := gtb_of (mt4 (i := 46) rfl) rfl
theorem q4_47 : (Jvm.Cond.constant "TuneSchool$Desk" (109 : Nat) (1000000000 : Int32)) ∈ gtb := gtb_of (mt4 (i := 47) rfl) rfl
theorem q4_48 : (Jvm.Cond.methodLink "TuneSchool$Desk" (137 : Nat) ({ cls := "TuneSchool$Desk", name := "offer", desc := "(LTuneSchool$Standing;IZII)V" } : Jvm.MethodName)) ∈ gtb := gtb_of (mt4 (i := 48) rfl) rfl
theorem q4_49 : (Jvm.Cond.instanceMethod ({ cls := "TuneSchool$Desk", name := "offer", desc := "(LTuneSchool$Standing;IZII)V" } : Jvm.MethodName)) ∈ gtb := gtb_of (mt4 (i := 49) rfl) rfl
theorem q4_50 : (Jvm.Cond.selects "TuneSchool$Desk" ({ cls := "TuneSchool$Desk", name := "offer", desc := "(LTuneSchool$Standing;IZII)V" } : Jvm.MethodName) ({ cls := "TuneSchool$Desk", name := "offer", desc := "(LTuneSchool$Standing;IZII)V" } : Jvm.MethodName)) ∈ gtb := gtb_of (mt4 (i := 50) rfl) rfl
theorem q4_51 : (Jvm.Cond.code ({ cls := "TuneSchool$Desk", name := "offer", desc := "(LTuneSchool$Standing;IZII)V" } : Jvm.MethodName) prog_3_method_20_code (13 : Nat) (Option.none : Option Jvm.ClassFile.FieldType)) ∈ gtb := gtb_of (mt4 (i := 51) rfl) rfl
theorem q4_52 : (Jvm.Cond.methodLink "TuneSchool$Desk" (180 : Nat) ({ cls := "TuneSchool$Desk", name := "weightBetween", desc := "(II)I" } : Jvm.MethodName)) ∈ gtb := gtb_of (mt4 (i := 52) rfl) rfl
theorem q4_53 : (Jvm.Cond.instanceMethod ({ cls := "TuneSchool$Desk", name := "weightBetween", desc := "(II)I" } : Jvm.MethodName)) ∈ gtb := gtb_of (mt4 (i := 53) rfl) rfl
theorem q4_54 : (Jvm.Cond.selects "TuneSchool$Desk" ({ cls := "TuneSchool$Desk", name := "weightBetween", desc := "(II)I" } : Jvm.MethodName) ({ cls := "TuneSchool$Desk", name := "weightBetween", desc := "(II)I" } : Jvm.MethodName)) ∈ gtb := gtb_of (mt4 (i := 54) rfl) rfl
theorem q4_55 : (Jvm.Cond.code ({ cls := "TuneSchool$Desk", name := "weightBetween", desc := "(II)I" } : Jvm.MethodName) prog_3_method_22_code (3 : Nat) (Option.some Jvm.ClassFile.FieldType.int)) ∈ gtb := gtb_of (mt4 (i := 55) rfl) rfl
theorem q4_56 : (Jvm.Cond.methodLink "TuneSchool$Desk" (196 : Nat) ({ cls := "java/lang/Math", name := "abs", desc := "(I)I" } : Jvm.MethodName)) ∈ gtb := gtb_of (mt4 (i := 56) rfl) rfl
theorem q4_57 : (Jvm.Cond.methodLink "TuneSchool$Desk" (199 : Nat) ({ cls := "java/lang/Math", name := "max", desc := "(II)I" } : Jvm.MethodName)) ∈ gtb := gtb_of (mt4 (i := 57) rfl) rfl
theorem q4_58 : (Jvm.Cond.methodLink "TuneSchool$Desk" (184 : Nat) ({ cls := "TuneSchool$Desk", name := "dueBehind", desc := "(LTuneSchool$Standing;II)I" } : Jvm.MethodName)) ∈ gtb := gtb_of (mt4 (i := 58) rfl) rfl
theorem q4_59 : (Jvm.Cond.instanceMethod ({ cls := "TuneSchool$Desk", name := "dueBehind", desc := "(LTuneSchool$Standing;II)I" } : Jvm.MethodName)) ∈ gtb := gtb_of (mt4 (i := 59) rfl) rfl
theorem q4_60 : (Jvm.Cond.selects "TuneSchool$Desk" ({ cls := "TuneSchool$Desk", name := "dueBehind", desc := "(LTuneSchool$Standing;II)I" } : Jvm.MethodName) ({ cls := "TuneSchool$Desk", name := "dueBehind", desc := "(LTuneSchool$Standing;II)I" } : Jvm.MethodName)) ∈ gtb := gtb_of (mt4 (i := 60) rfl) rfl
theorem q4_61 : (Jvm.Cond.code ({ cls := "TuneSchool$Desk", name := "dueBehind", desc := "(LTuneSchool$Standing;II)I" } : Jvm.MethodName) prog_3_method_24_code (7 : Nat) (Option.some Jvm.ClassFile.FieldType.int)) ∈ gtb := gtb_of (mt4 (i := 61) rfl) rfl
theorem q4_62 : (Jvm.Cond.classLink "TuneSchool$Desk" (202 : Nat) "TuneSchool$Leap") ∈ gtb := gtb_of (mt4 (i := 62) rfl) rfl
theorem q4_63 : (Jvm.Cond.methodLink "TuneSchool$Desk" (204 : Nat) ({ cls := "TuneSchool$Leap", name := "wantsAnswer", desc := "(II)Z" } : Jvm.MethodName)) ∈ gtb := gtb_of (mt4 (i := 63) rfl) rfl
theorem q4_64 : (Jvm.Cond.methodLink "TuneSchool$Desk" (188 : Nat) ({ cls := "TuneSchool$Desk", name := "mayCome", desc := "(III)Z" } : Jvm.MethodName)) ∈ gtb := gtb_of (mt4 (i := 64) rfl) rfl
theorem q4_65 : (Jvm.Cond.instanceMethod ({ cls := "TuneSchool$Desk", name := "mayCome", desc := "(III)Z" } : Jvm.MethodName)) ∈ gtb := gtb_of (mt4 (i := 65) rfl) rfl
theorem q4_66 : (Jvm.Cond.selects "TuneSchool$Desk" ({ cls := "TuneSchool$Desk", name := "mayCome", desc := "(III)Z" } : Jvm.MethodName) ({ cls := "TuneSchool$Desk", name := "mayCome", desc := "(III)Z" } : Jvm.MethodName)) ∈ gtb := gtb_of (mt4 (i := 66) rfl) rfl
theorem q4_67 : (Jvm.Cond.code ({ cls := "TuneSchool$Desk", name := "mayCome", desc := "(III)Z" } : Jvm.MethodName) prog_3_method_23_code (5 : Nat) (Option.some Jvm.ClassFile.FieldType.boolean)) ∈ gtb := gtb_of (mt4 (i := 67) rfl) rfl
theorem q4_68 : (Jvm.Cond.methodLink "TuneSchool$Desk" (191 : Nat) ({ cls := "java/lang/Math", name := "min", desc := "(II)I" } : Jvm.MethodName)) ∈ gtb := gtb_of (mt4 (i := 68) rfl) rfl
theorem q4_69 : (Jvm.Cond.methodLink "TuneSchool$Desk" (141 : Nat) ({ cls := "TuneSchool$Desk", name := "closeFresh", desc := "(II)V" } : Jvm.MethodName)) ∈ gtb := gtb_of (mt4 (i := 69) rfl) rfl
theorem q4_70 : (Jvm.Cond.instanceMethod ({ cls := "TuneSchool$Desk", name := "closeFresh", desc := "(II)V" } : Jvm.MethodName)) ∈ gtb := gtb_of (mt4 (i := 70) rfl) rfl
theorem q4_71 : (Jvm.Cond.selects "TuneSchool$Desk" ({ cls := "TuneSchool$Desk", name := "closeFresh", desc := "(II)V" } : Jvm.MethodName) ({ cls := "TuneSchool$Desk", name := "closeFresh", desc := "(II)V" } : Jvm.MethodName)) ∈ gtb := gtb_of (mt4 (i := 71) rfl) rfl
theorem q4_72 : (Jvm.Cond.code ({ cls := "TuneSchool$Desk", name := "closeFresh", desc := "(II)V" } : Jvm.MethodName) prog_3_method_21_code (5 : Nat) (Option.none : Option Jvm.ClassFile.FieldType)) ∈ gtb := gtb_of (mt4 (i := 72) rfl) rfl
theorem q4_73 : (Jvm.Cond.methodLink "TuneSchool$Desk" (84 : Nat) ({ cls := "TuneSchool$Desk", name := "takeFresh", desc := "(I)V" } : Jvm.MethodName)) ∈ gtb := gtb_of (mt4 (i := 73) rfl) rfl
theorem q4_74 : (Jvm.Cond.instanceMethod ({ cls := "TuneSchool$Desk", name := "takeFresh", desc := "(I)V" } : Jvm.MethodName)) ∈ gtb := gtb_of (mt4 (i := 74) rfl) rfl
theorem q4_75 : (Jvm.Cond.selects "TuneSchool$Desk" ({ cls := "TuneSchool$Desk", name := "takeFresh", desc := "(I)V" } : Jvm.MethodName) ({ cls := "TuneSchool$Desk", name := "takeFresh", desc := "(I)V" } : Jvm.MethodName)) ∈ gtb := gtb_of (mt4 (i := 75) rfl) rfl
theorem q4_76 : (Jvm.Cond.code ({ cls := "TuneSchool$Desk", name := "takeFresh", desc := "(I)V" } : Jvm.MethodName) prog_3_method_15_code (4 : Nat) (Option.none : Option Jvm.ClassFile.FieldType)) ∈ gtb := gtb_of (mt4 (i := 76) rfl) rfl
theorem q4_77 : (Jvm.Cond.methodLink "TuneSchool$Desk" (110 : Nat) ({ cls := "java/lang/System", name := "arraycopy", desc := "(Ljava/lang/Object;ILjava/lang/Object;II)V" } : Jvm.MethodName)) ∈ gtb := gtb_of (mt4 (i := 77) rfl) rfl
theorem q4_78 : (Jvm.Cond.methodLink "TuneSchool" (252 : Nat) ({ cls := "TuneSchool", name := "advance", desc := "(I)I" } : Jvm.MethodName)) ∈ gtb := gtb_of (mt4 (i := 78) rfl) rfl
theorem q4_80 : (Jvm.Cond.instanceMethod ({ cls := "TuneSchool", name := "advance", desc := "(I)I" } : Jvm.MethodName)) ∈ gtb := gtb_of (mt4 (i := 80) rfl) rfl
theorem q4_81 : (Jvm.Cond.code ({ cls := "TuneSchool", name := "advance", desc := "(I)I" } : Jvm.MethodName) prog_1_method_64_code (4 : Nat) (Option.some Jvm.ClassFile.FieldType.int)) ∈ gtb := gtb_of (mt4 (i := 81) rfl) rfl
theorem q4_82 : (Jvm.Cond.methodLink "TuneSchool" (261 : Nat) ({ cls := "TuneSchool$Desk", name := "isWorked", desc := "()Z" } : Jvm.MethodName)) ∈ gtb := gtb_of (mt4 (i := 82) rfl) rfl
theorem q4_83 : (Jvm.Cond.instanceMethod ({ cls := "TuneSchool$Desk", name := "isWorked", desc := "()Z" } : Jvm.MethodName)) ∈ gtb := gtb_of (mt4 (i := 83) rfl) rfl
theorem q4_84 : (Jvm.Cond.selects "TuneSchool$Desk" ({ cls := "TuneSchool$Desk", name := "isWorked", desc := "()Z" } : Jvm.MethodName) ({ cls := "TuneSchool$Desk", name := "isWorked", desc := "()Z" } : Jvm.MethodName)) ∈ gtb := gtb_of (mt4 (i := 84) rfl) rfl
theorem q4_85 : (Jvm.Cond.code ({ cls := "TuneSchool$Desk", name := "isWorked", desc := "()Z" } : Jvm.MethodName) prog_3_method_5_code (1 : Nat) (Option.some Jvm.ClassFile.FieldType.boolean)) ∈ gtb := gtb_of (mt4 (i := 85) rfl) rfl
theorem q4_86 : (Jvm.Cond.methodLink "TuneSchool" (371 : Nat) ({ cls := "TuneSchool$Desk", name := "left", desc := "()I" } : Jvm.MethodName)) ∈ gtb := gtb_of (mt4 (i := 86) rfl) rfl
theorem q4_87 : (Jvm.Cond.instanceMethod ({ cls := "TuneSchool$Desk", name := "left", desc := "()I" } : Jvm.MethodName)) ∈ gtb := gtb_of (mt4 (i := 87) rfl) rfl
theorem q4_88 : (Jvm.Cond.selects "TuneSchool$Desk" ({ cls := "TuneSchool$Desk", name := "left", desc := "()I" } : Jvm.MethodName) ({ cls := "TuneSchool$Desk", name := "left", desc := "()I" } : Jvm.MethodName)) ∈ gtb := gtb_of (mt4 (i := 88) rfl) rfl
theorem q4_89 : (Jvm.Cond.code ({ cls := "TuneSchool$Desk", name := "left", desc := "()I" } : Jvm.MethodName) prog_3_method_4_code (1 : Nat) (Option.some Jvm.ClassFile.FieldType.int)) ∈ gtb := gtb_of (mt4 (i := 89) rfl) rfl
theorem q4_90 : (Jvm.Cond.methodLink "TuneSchool" (374 : Nat) ({ cls := "TuneSchool$Desk", name := "work", desc := "(ILTuneSchool$Standing;)V" } : Jvm.MethodName)) ∈ gtb := gtb_of (mt4 (i := 90) rfl) rfl
theorem q4_91 : (Jvm.Cond.methodLink "TuneSchool" (378 : Nat) ({ cls := "TuneSchool$Desk", name := "takeStep", desc := "()V" } : Jvm.MethodName)) ∈ gtb := gtb_of (mt4 (i := 91) rfl) rfl
theorem q4_92 : (Jvm.Cond.instanceMethod ({ cls := "TuneSchool$Desk", name := "takeStep", desc := "()V" } : Jvm.MethodName)) ∈ gtb := gtb_of (mt4 (i := 92) rfl) rfl
theorem q4_93 : (Jvm.Cond.selects "TuneSchool$Desk" ({ cls := "TuneSchool$Desk", name := "takeStep", desc := "()V" } : Jvm.MethodName) ({ cls := "TuneSchool$Desk", name := "takeStep", desc := "()V" } : Jvm.MethodName)) ∈ gtb := gtb_of (mt4 (i := 93) rfl) rfl
theorem q4_94 : (Jvm.Cond.code ({ cls := "TuneSchool$Desk", name := "takeStep", desc := "()V" } : Jvm.MethodName) prog_3_method_14_code (1 : Nat) (Option.none : Option Jvm.ClassFile.FieldType)) ∈ gtb := gtb_of (mt4 (i := 94) rfl) rfl
theorem q4_95 : (Jvm.Cond.methodLink "TuneSchool$Desk" (99 : Nat) ({ cls := "TuneSchool$Desk", name := "left", desc := "()I" } : Jvm.MethodName)) ∈ gtb := gtb_of (mt4 (i := 95) rfl) rfl
theorem q4_96 : (Jvm.Cond.methodLink "TuneSchool" (381 : Nat) ({ cls := "TuneSchool$Desk", name := "takeFresh", desc := "(I)V" } : Jvm.MethodName)) ∈ gtb := gtb_of (mt4 (i := 96) rfl) rfl
theorem q4_97 : (Jvm.Cond.methodLink "TuneSchool" (384 : Nat) ({ cls := "TuneSchool", name := "writeTune", desc := "()I" } : Jvm.MethodName)) ∈ gtb := gtb_of (mt4 (i := 97) rfl) rfl
theorem q4_99 : (Jvm.Cond.instanceMethod ({ cls := "TuneSchool", name := "writeTune", desc := "()I" } : Jvm.MethodName)) ∈ gtb := gtb_of (mt4 (i := 99) rfl) rfl
theorem q4_100 : (Jvm.Cond.code ({ cls := "TuneSchool", name := "writeTune", desc := "()I" } : Jvm.MethodName) prog_1_method_65_code (2 : Nat) (Option.some Jvm.ClassFile.FieldType.int)) ∈ gtb := gtb_of (mt4 (i := 100) rfl) rfl
theorem q4_101 : (Jvm.Cond.methodLink "TuneSchool" (264 : Nat) ({ cls := "TuneSchool$Desk", name := "hasTune", desc := "()Z" } : Jvm.MethodName)) ∈ gtb := gtb_of (mt4 (i := 101) rfl) rfl
theorem q4_102 : (Jvm.Cond.instanceMethod ({ cls := "TuneSchool$Desk", name := "hasTune", desc := "()Z" } : Jvm.MethodName)) ∈ gtb := gtb_of (mt4 (i := 102) rfl) rfl
theorem q4_103 : (Jvm.Cond.selects "TuneSchool$Desk" ({ cls := "TuneSchool$Desk", name := "hasTune", desc := "()Z" } : Jvm.MethodName) ({ cls := "TuneSchool$Desk", name := "hasTune", desc := "()Z" } : Jvm.MethodName)) ∈ gtb := gtb_of (mt4 (i := 103) rfl) rfl
theorem q4_104 : (Jvm.Cond.code ({ cls := "TuneSchool$Desk", name := "hasTune", desc := "()Z" } : Jvm.MethodName) prog_3_method_11_code (1 : Nat) (Option.some Jvm.ClassFile.FieldType.boolean)) ∈ gtb := gtb_of (mt4 (i := 104) rfl) rfl
theorem q4_105 : (Jvm.Cond.methodLink "TuneSchool$Desk" (106 : Nat) ({ cls := "TuneSchool$Desk", name := "tuneWeight", desc := "()I" } : Jvm.MethodName)) ∈ gtb := gtb_of (mt4 (i := 105) rfl) rfl
theorem q4_106 : (Jvm.Cond.instanceMethod ({ cls := "TuneSchool$Desk", name := "tuneWeight", desc := "()I" } : Jvm.MethodName)) ∈ gtb := gtb_of (mt4 (i := 106) rfl) rfl
theorem q4_107 : (Jvm.Cond.selects "TuneSchool$Desk" ({ cls := "TuneSchool$Desk", name := "tuneWeight", desc := "()I" } : Jvm.MethodName) ({ cls := "TuneSchool$Desk", name := "tuneWeight", desc := "()I" } : Jvm.MethodName)) ∈ gtb := gtb_of (mt4 (i := 107) rfl) rfl
theorem q4_108 : (Jvm.Cond.code ({ cls := "TuneSchool$Desk", name := "tuneWeight", desc := "()I" } : Jvm.MethodName) prog_3_method_10_code (1 : Nat) (Option.some Jvm.ClassFile.FieldType.int)) ∈ gtb := gtb_of (mt4 (i := 108) rfl) rfl
theorem q4_109 : (Jvm.Cond.methodLink "TuneSchool" (387 : Nat) ({ cls := "TuneSchool$Desk", name := "notes", desc := "()I" } : Jvm.MethodName)) ∈ gtb := gtb_of (mt4 (i := 109) rfl) rfl
theorem q4_110 : (Jvm.Cond.methodLink "TuneSchool" (390 : Nat) ({ cls := "TuneSchool$Desk", name := "write", desc := "(LTuneSchool$Voice;)V" } : Jvm.MethodName)) ∈ gtb := gtb_of (mt4 (i := 110) rfl) rfl
theorem q4_111 : (Jvm.Cond.instanceMethod ({ cls := "TuneSchool$Desk", name := "write", desc := "(LTuneSchool$Voice;)V" } : Jvm.MethodName)) ∈ gtb := gtb_of (mt4 (i := 111) rfl) rfl
theorem q4_112 : (Jvm.Cond.selects "TuneSchool$Desk" ({ cls := "TuneSchool$Desk", name := "write", desc := "(LTuneSchool$Voice;)V" } : Jvm.MethodName) ({ cls := "TuneSchool$Desk", name := "write", desc := "(LTuneSchool$Voice;)V" } : Jvm.MethodName)) ∈ gtb := gtb_of (mt4 (i := 112) rfl) rfl
theorem q4_113 : (Jvm.Cond.code ({ cls := "TuneSchool$Desk", name := "write", desc := "(LTuneSchool$Voice;)V" } : Jvm.MethodName) prog_3_method_26_code (5 : Nat) (Option.none : Option Jvm.ClassFile.FieldType)) ∈ gtb := gtb_of (mt4 (i := 113) rfl) rfl
theorem q4_115 : (Jvm.Cond.methodLink "TuneSchoolLaw" (133 : Nat) ({ cls := "TuneSchool", name := "goOn", desc := "(I)I" } : Jvm.MethodName)) ∈ gtb := gtb_of (mt4 (i := 115) rfl) rfl
theorem q4_116 : (Jvm.Cond.instanceMethod ({ cls := "TuneSchool", name := "goOn", desc := "(I)I" } : Jvm.MethodName)) ∈ gtb := gtb_of (mt4 (i := 116) rfl) rfl
theorem q4_117 : (Jvm.Cond.selects "TuneSchool" ({ cls := "TuneSchool", name := "goOn", desc := "(I)I" } : Jvm.MethodName) ({ cls := "TuneSchool", name := "goOn", desc := "(I)I" } : Jvm.MethodName)) ∈ gtb := gtb_of (mt4 (i := 117) rfl) rfl
theorem q4_118 : (Jvm.Cond.code ({ cls := "TuneSchool", name := "goOn", desc := "(I)I" } : Jvm.MethodName) prog_1_method_30_code (2 : Nat) (Option.some Jvm.ClassFile.FieldType.int)) ∈ gtb := gtb_of (mt4 (i := 118) rfl) rfl
theorem q4_119 : (Jvm.Cond.methodLink "TuneSchoolLaw" (137 : Nat) ({ cls := "TuneSchool", name := "least", desc := "()I" } : Jvm.MethodName)) ∈ gtb := gtb_of (mt4 (i := 119) rfl) rfl
theorem q4_120 : (Jvm.Cond.instanceMethod ({ cls := "TuneSchool", name := "least", desc := "()I" } : Jvm.MethodName)) ∈ gtb := gtb_of (mt4 (i := 120) rfl) rfl
theorem q4_121 : (Jvm.Cond.selects "TuneSchool" ({ cls := "TuneSchool", name := "least", desc := "()I" } : Jvm.MethodName) ({ cls := "TuneSchool", name := "least", desc := "()I" } : Jvm.MethodName)) ∈ gtb := gtb_of (mt4 (i := 121) rfl) rfl
theorem q4_122 : (Jvm.Cond.code ({ cls := "TuneSchool", name := "least", desc := "()I" } : Jvm.MethodName) prog_1_method_31_code (1 : Nat) (Option.some Jvm.ClassFile.FieldType.int)) ∈ gtb := gtb_of (mt4 (i := 122) rfl) rfl
theorem q4_123 : (Jvm.Cond.methodLink "TuneSchool" (267 : Nat) ({ cls := "TuneSchool$Desk", name := "tuneWeight", desc := "()I" } : Jvm.MethodName)) ∈ gtb := gtb_of (mt4 (i := 123) rfl) rfl
theorem q4_124 : (Jvm.Cond.methodLink "TuneSchoolLaw" (141 : Nat) ({ cls := "TuneSchool", name := "many", desc := "()I" } : Jvm.MethodName)) ∈ gtb := gtb_of (mt4 (i := 124) rfl) rfl
theorem q4_125 : (Jvm.Cond.instanceMethod ({ cls := "TuneSchool", name := "many", desc := "()I" } : Jvm.MethodName)) ∈ gtb := gtb_of (mt4 (i := 125) rfl) rfl
theorem q4_126 : (Jvm.Cond.selects "TuneSchool" ({ cls := "TuneSchool", name := "many", desc := "()I" } : Jvm.MethodName) ({ cls := "TuneSchool", name := "many", desc := "()I" } : Jvm.MethodName)) ∈ gtb := gtb_of (mt4 (i := 126) rfl) rfl
theorem q4_127 : (Jvm.Cond.code ({ cls := "TuneSchool", name := "many", desc := "()I" } : Jvm.MethodName) prog_1_method_32_code (1 : Nat) (Option.some Jvm.ClassFile.FieldType.int)) ∈ gtb := gtb_of (mt4 (i := 127) rfl) rfl
theorem q4_128 : (Jvm.Cond.methodLink "TuneSchool" (270 : Nat) ({ cls := "TuneSchool$Desk", name := "tunes", desc := "()I" } : Jvm.MethodName)) ∈ gtb := gtb_of (mt4 (i := 128) rfl) rfl
theorem q4_129 : (Jvm.Cond.instanceMethod ({ cls := "TuneSchool$Desk", name := "tunes", desc := "()I" } : Jvm.MethodName)) ∈ gtb := gtb_of (mt4 (i := 129) rfl) rfl
theorem q4_130 : (Jvm.Cond.selects "TuneSchool$Desk" ({ cls := "TuneSchool$Desk", name := "tunes", desc := "()I" } : Jvm.MethodName) ({ cls := "TuneSchool$Desk", name := "tunes", desc := "()I" } : Jvm.MethodName)) ∈ gtb := gtb_of (mt4 (i := 130) rfl) rfl
theorem q4_131 : (Jvm.Cond.code ({ cls := "TuneSchool$Desk", name := "tunes", desc := "()I" } : Jvm.MethodName) prog_3_method_12_code (1 : Nat) (Option.some Jvm.ClassFile.FieldType.int)) ∈ gtb := gtb_of (mt4 (i := 131) rfl) rfl
theorem q4_132 : (Jvm.Cond.methodLink "TuneSchoolLaw" (145 : Nat) ({ cls := "TuneSchool", name := "row", desc := "(III)I" } : Jvm.MethodName)) ∈ gtb := gtb_of (mt4 (i := 132) rfl) rfl
theorem q4_133 : (Jvm.Cond.instanceMethod ({ cls := "TuneSchool", name := "row", desc := "(III)I" } : Jvm.MethodName)) ∈ gtb := gtb_of (mt4 (i := 133) rfl) rfl
theorem q4_134 : (Jvm.Cond.selects "TuneSchool" ({ cls := "TuneSchool", name := "row", desc := "(III)I" } : Jvm.MethodName) ({ cls := "TuneSchool", name := "row", desc := "(III)I" } : Jvm.MethodName)) ∈ gtb := gtb_of (mt4 (i := 134) rfl) rfl
theorem q4_135 : (Jvm.Cond.code ({ cls := "TuneSchool", name := "row", desc := "(III)I" } : Jvm.MethodName) prog_1_method_33_code (4 : Nat) (Option.some Jvm.ClassFile.FieldType.int)) ∈ gtb := gtb_of (mt4 (i := 135) rfl) rfl
theorem q4_136 : (Jvm.Cond.methodLink "TuneSchool" (273 : Nat) ({ cls := "TuneSchool$Desk", name := "takes", desc := "(II)Z" } : Jvm.MethodName)) ∈ gtb := gtb_of (mt4 (i := 136) rfl) rfl
theorem q4_137 : (Jvm.Cond.instanceMethod ({ cls := "TuneSchool$Desk", name := "takes", desc := "(II)Z" } : Jvm.MethodName)) ∈ gtb := gtb_of (mt4 (i := 137) rfl) rfl
theorem q4_138 : (Jvm.Cond.selects "TuneSchool$Desk" ({ cls := "TuneSchool$Desk", name := "takes", desc := "(II)Z" } : Jvm.MethodName) ({ cls := "TuneSchool$Desk", name := "takes", desc := "(II)Z" } : Jvm.MethodName)) ∈ gtb := gtb_of (mt4 (i := 138) rfl) rfl
theorem q4_139 : (Jvm.Cond.code ({ cls := "TuneSchool$Desk", name := "takes", desc := "(II)Z" } : Jvm.MethodName) prog_3_method_7_code (3 : Nat) (Option.some Jvm.ClassFile.FieldType.boolean)) ∈ gtb := gtb_of (mt4 (i := 139) rfl) rfl
theorem q4_140 : (Jvm.Cond.methodLink "TuneSchool" (276 : Nat) ({ cls := "TuneSchool$Desk", name := "hasWorked", desc := "(I)Z" } : Jvm.MethodName)) ∈ gtb := gtb_of (mt4 (i := 140) rfl) rfl
theorem q4_141 : (Jvm.Cond.instanceMethod ({ cls := "TuneSchool$Desk", name := "hasWorked", desc := "(I)Z" } : Jvm.MethodName)) ∈ gtb := gtb_of (mt4 (i := 141) rfl) rfl
theorem q4_142 : (Jvm.Cond.selects "TuneSchool$Desk" ({ cls := "TuneSchool$Desk", name := "hasWorked", desc := "(I)Z" } : Jvm.MethodName) ({ cls := "TuneSchool$Desk", name := "hasWorked", desc := "(I)Z" } : Jvm.MethodName)) ∈ gtb := gtb_of (mt4 (i := 142) rfl) rfl
theorem q4_143 : (Jvm.Cond.code ({ cls := "TuneSchool$Desk", name := "hasWorked", desc := "(I)Z" } : Jvm.MethodName) prog_3_method_8_code (2 : Nat) (Option.some Jvm.ClassFile.FieldType.boolean)) ∈ gtb := gtb_of (mt4 (i := 143) rfl) rfl
theorem q4_144 : (Jvm.Cond.methodLink "TuneSchool" (282 : Nat) ({ cls := "TuneSchool$Desk", name := "cell", desc := "(III)I" } : Jvm.MethodName)) ∈ gtb := gtb_of (mt4 (i := 144) rfl) rfl
theorem q4_145 : (Jvm.Cond.methodLink "TuneSchoolLaw" (149 : Nat) ({ cls := "TuneSchool", name := "spoil", desc := "(IIII)I" } : Jvm.MethodName)) ∈ gtb := gtb_of (mt4 (i := 145) rfl) rfl
theorem q4_146 : (Jvm.Cond.instanceMethod ({ cls := "TuneSchool", name := "spoil", desc := "(IIII)I" } : Jvm.MethodName)) ∈ gtb := gtb_of (mt4 (i := 146) rfl) rfl
theorem q4_147 : (Jvm.Cond.selects "TuneSchool" ({ cls := "TuneSchool", name := "spoil", desc := "(IIII)I" } : Jvm.MethodName) ({ cls := "TuneSchool", name := "spoil", desc := "(IIII)I" } : Jvm.MethodName)) ∈ gtb := gtb_of (mt4 (i := 147) rfl) rfl
theorem q4_148 : (Jvm.Cond.code ({ cls := "TuneSchool", name := "spoil", desc := "(IIII)I" } : Jvm.MethodName) prog_1_method_34_code (7 : Nat) (Option.some Jvm.ClassFile.FieldType.int)) ∈ gtb := gtb_of (mt4 (i := 148) rfl) rfl
theorem q4_149 : (Jvm.Cond.constant "TuneSchool" (286 : Nat) (1000000000 : Int32)) ∈ gtb := gtb_of (mt4 (i := 149) rfl) rfl
theorem q4_150 : (Jvm.Cond.methodLink "TuneSchoolLaw" (153 : Nat) ({ cls := "TuneSchool", name := "check", desc := "()I" } : Jvm.MethodName)) ∈ gtb := gtb_of (mt4 (i := 150) rfl) rfl
theorem q4_151 : (Jvm.Cond.instanceMethod ({ cls := "TuneSchool", name := "check", desc := "()I" } : Jvm.MethodName)) ∈ gtb := gtb_of (mt4 (i := 151) rfl) rfl
theorem q4_152 : (Jvm.Cond.selects "TuneSchool" ({ cls := "TuneSchool", name := "check", desc := "()I" } : Jvm.MethodName) ({ cls := "TuneSchool", name := "check", desc := "()I" } : Jvm.MethodName)) ∈ gtb := gtb_of (mt4 (i := 152) rfl) rfl
theorem q4_153 : (Jvm.Cond.code ({ cls := "TuneSchool", name := "check", desc := "()I" } : Jvm.MethodName) prog_1_method_35_code (2 : Nat) (Option.some Jvm.ClassFile.FieldType.int)) ∈ gtb := gtb_of (mt4 (i := 153) rfl) rfl
theorem q4_154 : (Jvm.Cond.methodLink "TuneSchool" (287 : Nat) ({ cls := "TuneSchool$Desk", name := "isAsTold", desc := "(LTuneSchool$Standing;)Z" } : Jvm.MethodName)) ∈ gtb := gtb_of (mt4 (i := 154) rfl) rfl
theorem q4_155 : (Jvm.Cond.instanceMethod ({ cls := "TuneSchool$Desk", name := "isAsTold", desc := "(LTuneSchool$Standing;)Z" } : Jvm.MethodName)) ∈ gtb := gtb_of (mt4 (i := 155) rfl) rfl
theorem q4_156 : (Jvm.Cond.selects "TuneSchool$Desk" ({ cls := "TuneSchool$Desk", name := "isAsTold", desc := "(LTuneSchool$Standing;)Z" } : Jvm.MethodName) ({ cls := "TuneSchool$Desk", name := "isAsTold", desc := "(LTuneSchool$Standing;)Z" } : Jvm.MethodName)) ∈ gtb := gtb_of (mt4 (i := 156) rfl) rfl
theorem q4_157 : (Jvm.Cond.code ({ cls := "TuneSchool$Desk", name := "isAsTold", desc := "(LTuneSchool$Standing;)Z" } : Jvm.MethodName) prog_3_method_25_code (5 : Nat) (Option.some Jvm.ClassFile.FieldType.boolean)) ∈ gtb := gtb_of (mt4 (i := 157) rfl) rfl
theorem q4_158 : (Jvm.Cond.methodLink "TuneSchoolLaw" (157 : Nat) ({ cls := "TuneSchool", name := "print", desc := "(I)I" } : Jvm.MethodName)) ∈ gtb := gtb_of (mt4 (i := 158) rfl) rfl
theorem q4_159 : (Jvm.Cond.instanceMethod ({ cls := "TuneSchool", name := "print", desc := "(I)I" } : Jvm.MethodName)) ∈ gtb := gtb_of (mt4 (i := 159) rfl) rfl
theorem q4_160 : (Jvm.Cond.selects "TuneSchool" ({ cls := "TuneSchool", name := "print", desc := "(I)I" } : Jvm.MethodName) ({ cls := "TuneSchool", name := "print", desc := "(I)I" } : Jvm.MethodName)) ∈ gtb := gtb_of (mt4 (i := 160) rfl) rfl
theorem q4_161 : (Jvm.Cond.code ({ cls := "TuneSchool", name := "print", desc := "(I)I" } : Jvm.MethodName) prog_1_method_36_code (3 : Nat) (Option.some Jvm.ClassFile.FieldType.int)) ∈ gtb := gtb_of (mt4 (i := 161) rfl) rfl
theorem q4_162 : (Jvm.Cond.methodLink "TuneSchool" (290 : Nat) ({ cls := "TuneSchool$Line", name := "tell", desc := "(LTuneSchool$Voice;)V" } : Jvm.MethodName)) ∈ gtb := gtb_of (mt4 (i := 162) rfl) rfl
theorem q4_163 : (Jvm.Cond.instanceMethod ({ cls := "TuneSchool$Line", name := "tell", desc := "(LTuneSchool$Voice;)V" } : Jvm.MethodName)) ∈ gtb := gtb_of (mt4 (i := 163) rfl) rfl
theorem q4_164 : (Jvm.Cond.selects "TuneSchool$Line" ({ cls := "TuneSchool$Line", name := "tell", desc := "(LTuneSchool$Voice;)V" } : Jvm.MethodName) ({ cls := "TuneSchool$Line", name := "tell", desc := "(LTuneSchool$Voice;)V" } : Jvm.MethodName)) ∈ gtb := gtb_of (mt4 (i := 164) rfl) rfl
theorem q4_165 : (Jvm.Cond.code ({ cls := "TuneSchool$Line", name := "tell", desc := "(LTuneSchool$Voice;)V" } : Jvm.MethodName) prog_6_method_2_code (3 : Nat) (Option.none : Option Jvm.ClassFile.FieldType)) ∈ gtb := gtb_of (mt4 (i := 165) rfl) rfl
theorem q4_166 : (Jvm.Cond.methodLink "TuneSchool$Line" (24 : Nat) ({ cls := "TuneSchool$Line", name := "add", desc := "(I)V" } : Jvm.MethodName)) ∈ gtb := gtb_of (mt4 (i := 166) rfl) rfl
theorem q4_168 : (Jvm.Cond.instanceMethod ({ cls := "TuneSchool$Line", name := "add", desc := "(I)V" } : Jvm.MethodName)) ∈ gtb := gtb_of (mt4 (i := 168) rfl) rfl
theorem q4_169 : (Jvm.Cond.code ({ cls := "TuneSchool$Line", name := "add", desc := "(I)V" } : Jvm.MethodName) prog_6_method_4_code (2 : Nat) (Option.none : Option Jvm.ClassFile.FieldType)) ∈ gtb := gtb_of (mt4 (i := 169) rfl) rfl
theorem q4_170 : (Jvm.Cond.methodLink "TuneSchool$Line" (32 : Nat) ({ cls := "TuneSchool$Line", name := "addPitch", desc := "(I)V" } : Jvm.MethodName)) ∈ gtb := gtb_of (mt4 (i := 170) rfl) rfl
theorem q4_172 : (Jvm.Cond.instanceMethod ({ cls := "TuneSchool$Line", name := "addPitch", desc := "(I)V" } : Jvm.MethodName)) ∈ gtb := gtb_of (mt4 (i := 172) rfl) rfl
theorem q4_173 : (Jvm.Cond.code ({ cls := "TuneSchool$Line", name := "addPitch", desc := "(I)V" } : Jvm.MethodName) prog_6_method_3_code (2 : Nat) (Option.none : Option Jvm.ClassFile.FieldType)) ∈ gtb := gtb_of (mt4 (i := 173) rfl) rfl
theorem q4_174 : (Jvm.Cond.methodLink "TuneSchoolLaw" (161 : Nat) ({ cls := "TuneSchool", name := "read", desc := "(I)I" } : Jvm.MethodName)) ∈ gtb := gtb_of (mt4 (i := 174) rfl) rfl
theorem q4_175 : (Jvm.Cond.instanceMethod ({ cls := "TuneSchool", name := "read", desc := "(I)I" } : Jvm.MethodName)) ∈ gtb := gtb_of (mt4 (i := 175) rfl) rfl
theorem q4_176 : (Jvm.Cond.selects "TuneSchool" ({ cls := "TuneSchool", name := "read", desc := "(I)I" } : Jvm.MethodName) ({ cls := "TuneSchool", name := "read", desc := "(I)I" } : Jvm.MethodName)) ∈ gtb := gtb_of (mt4 (i := 176) rfl) rfl
theorem q4_177 : (Jvm.Cond.code ({ cls := "TuneSchool", name := "read", desc := "(I)I" } : Jvm.MethodName) prog_1_method_37_code (3 : Nat) (Option.some Jvm.ClassFile.FieldType.int)) ∈ gtb := gtb_of (mt4 (i := 177) rfl) rfl
theorem q4_178 : (Jvm.Cond.methodLink "TuneSchool" (296 : Nat) ({ cls := "TuneSchool$Line", name := "wrongPlace", desc := "(LTuneSchool$Voice;)I" } : Jvm.MethodName)) ∈ gtb := gtb_of (mt4 (i := 178) rfl) rfl
theorem q4_179 : (Jvm.Cond.instanceMethod ({ cls := "TuneSchool$Line", name := "wrongPlace", desc := "(LTuneSchool$Voice;)I" } : Jvm.MethodName)) ∈ gtb := gtb_of (mt4 (i := 179) rfl) rfl
theorem q4_180 : (Jvm.Cond.selects "TuneSchool$Line" ({ cls := "TuneSchool$Line", name := "wrongPlace", desc := "(LTuneSchool$Voice;)I" } : Jvm.MethodName) ({ cls := "TuneSchool$Line", name := "wrongPlace", desc := "(LTuneSchool$Voice;)I" } : Jvm.MethodName)) ∈ gtb := gtb_of (mt4 (i := 180) rfl) rfl
theorem q4_181 : (Jvm.Cond.code ({ cls := "TuneSchool$Line", name := "wrongPlace", desc := "(LTuneSchool$Voice;)I" } : Jvm.MethodName) prog_6_method_5_code (6 : Nat) (Option.some Jvm.ClassFile.FieldType.int)) ∈ gtb := gtb_of (mt4 (i := 181) rfl) rfl
theorem q4_182 : (Jvm.Cond.methodLink "TuneSchool$Line" (35 : Nat) ({ cls := "TuneSchool$Voice", name := "renew", desc := "(I)V" } : Jvm.MethodName)) ∈ gtb := gtb_of (mt4 (i := 182) rfl) rfl
theorem q4_183 : (Jvm.Cond.methodLink "TuneSchool$Line" (41 : Nat) ({ cls := "TuneSchool$Line", name := "takePitch", desc := "()I" } : Jvm.MethodName)) ∈ gtb := gtb_of (mt4 (i := 183) rfl) rfl
theorem q4_185 : (Jvm.Cond.instanceMethod ({ cls := "TuneSchool$Line", name := "takePitch", desc := "()I" } : Jvm.MethodName)) ∈ gtb := gtb_of (mt4 (i := 185) rfl) rfl
theorem q4_186 : (Jvm.Cond.code ({ cls := "TuneSchool$Line", name := "takePitch", desc := "()I" } : Jvm.MethodName) prog_6_method_7_code (3 : Nat) (Option.some Jvm.ClassFile.FieldType.int)) ∈ gtb := gtb_of (mt4 (i := 186) rfl) rfl
theorem q4_187 : (Jvm.Cond.methodLink "TuneSchool$Line" (45 : Nat) ({ cls := "TuneSchool$Line", name := "here", desc := "()I" } : Jvm.MethodName)) ∈ gtb := gtb_of (mt4 (i := 187) rfl) rfl
theorem q4_189 : (Jvm.Cond.instanceMethod ({ cls := "TuneSchool$Line", name := "here", desc := "()I" } : Jvm.MethodName)) ∈ gtb := gtb_of (mt4 (i := 189) rfl) rfl
theorem q4_190 : (Jvm.Cond.code ({ cls := "TuneSchool$Line", name := "here", desc := "()I" } : Jvm.MethodName) prog_6_method_6_code (1 : Nat) (Option.some Jvm.ClassFile.FieldType.int)) ∈ gtb := gtb_of (mt4 (i := 190) rfl) rfl
theorem q4_192 : (Jvm.Cond.methodLink "TuneSchool$Line" (52 : Nat) ({ cls := "java/lang/Math", name := "min", desc := "(II)I" } : Jvm.MethodName)) ∈ gtb := gtb_of (mt4 (i := 192) rfl) rfl
theorem q4_193 : (Jvm.Cond.methodLink "TuneSchoolLaw" (165 : Nat) ({ cls := "TuneSchool", name := "put", desc := "(II)I" } : Jvm.MethodName)) ∈ gtb := gtb_of (mt4 (i := 193) rfl) rfl
theorem q4_194 : (Jvm.Cond.instanceMethod ({ cls := "TuneSchool", name := "put", desc := "(II)I" } : Jvm.MethodName)) ∈ gtb := gtb_of (mt4 (i := 194) rfl) rfl
theorem q4_195 : (Jvm.Cond.selects "TuneSchool" ({ cls := "TuneSchool", name := "put", desc := "(II)I" } : Jvm.MethodName) ({ cls := "TuneSchool", name := "put", desc := "(II)I" } : Jvm.MethodName)) ∈ gtb := gtb_of (mt4 (i := 195) rfl) rfl
theorem q4_196 : (Jvm.Cond.code ({ cls := "TuneSchool", name := "put", desc := "(II)I" } : Jvm.MethodName) prog_1_method_38_code (3 : Nat) (Option.some Jvm.ClassFile.FieldType.int)) ∈ gtb := gtb_of (mt4 (i := 196) rfl) rfl
theorem q4_197 : (Jvm.Cond.methodLink "TuneSchoolLaw" (169 : Nat) ({ cls := "TuneSchool", name := "cutLine", desc := "(I)I" } : Jvm.MethodName)) ∈ gtb := gtb_of (mt4 (i := 197) rfl) rfl
theorem q4_198 : (Jvm.Cond.instanceMethod ({ cls := "TuneSchool", name := "cutLine", desc := "(I)I" } : Jvm.MethodName)) ∈ gtb := gtb_of (mt4 (i := 198) rfl) rfl
theorem q4_199 : (Jvm.Cond.selects "TuneSchool" ({ cls := "TuneSchool", name := "cutLine", desc := "(I)I" } : Jvm.MethodName) ({ cls := "TuneSchool", name := "cutLine", desc := "(I)I" } : Jvm.MethodName)) ∈ gtb := gtb_of (mt4 (i := 199) rfl) rfl
theorem q4_200 : (Jvm.Cond.code ({ cls := "TuneSchool", name := "cutLine", desc := "(I)I" } : Jvm.MethodName) prog_1_method_39_code (3 : Nat) (Option.some Jvm.ClassFile.FieldType.int)) ∈ gtb := gtb_of (mt4 (i := 200) rfl) rfl
theorem q4_201 : (Jvm.Cond.methodLink "TuneSchoolLaw" (173 : Nat) ({ cls := "TuneSchool", name := "character", desc := "(I)I" } : Jvm.MethodName)) ∈ gtb := gtb_of (mt4 (i := 201) rfl) rfl
theorem q4_202 : (Jvm.Cond.instanceMethod ({ cls := "TuneSchool", name := "character", desc := "(I)I" } : Jvm.MethodName)) ∈ gtb := gtb_of (mt4 (i := 202) rfl) rfl
theorem q4_203 : (Jvm.Cond.selects "TuneSchool" ({ cls := "TuneSchool", name := "character", desc := "(I)I" } : Jvm.MethodName) ({ cls := "TuneSchool", name := "character", desc := "(I)I" } : Jvm.MethodName)) ∈ gtb := gtb_of (mt4 (i := 203) rfl) rfl
theorem q4_204 : (Jvm.Cond.code ({ cls := "TuneSchool", name := "character", desc := "(I)I" } : Jvm.MethodName) prog_1_method_40_code (2 : Nat) (Option.some Jvm.ClassFile.FieldType.int)) ∈ gtb := gtb_of (mt4 (i := 204) rfl) rfl
theorem q4_205 : (Jvm.Cond.methodLink "TuneSchoolLaw" (177 : Nat) ({ cls := "TuneSchool", name := "status", desc := "()I" } : Jvm.MethodName)) ∈ gtb := gtb_of (mt4 (i := 205) rfl) rfl
theorem q4_206 : (Jvm.Cond.instanceMethod ({ cls := "TuneSchool", name := "status", desc := "()I" } : Jvm.MethodName)) ∈ gtb := gtb_of (mt4 (i := 206) rfl) rfl
theorem q4_207 : (Jvm.Cond.selects "TuneSchool" ({ cls := "TuneSchool", name := "status", desc := "()I" } : Jvm.MethodName) ({ cls := "TuneSchool", name := "status", desc := "()I" } : Jvm.MethodName)) ∈ gtb := gtb_of (mt4 (i := 207) rfl) rfl
theorem q4_208 : (Jvm.Cond.code ({ cls := "TuneSchool", name := "status", desc := "()I" } : Jvm.MethodName) prog_1_method_41_code (1 : Nat) (Option.some Jvm.ClassFile.FieldType.int)) ∈ gtb := gtb_of (mt4 (i := 208) rfl) rfl
theorem q4_209 : (Jvm.Cond.methodLink "TuneSchoolLaw" (181 : Nat) ({ cls := "TuneSchool", name := "trace", desc := "(I)I" } : Jvm.MethodName)) ∈ gtb := gtb_of (mt4 (i := 209) rfl) rfl
theorem q4_210 : (Jvm.Cond.instanceMethod ({ cls := "TuneSchool", name := "trace", desc := "(I)I" } : Jvm.MethodName)) ∈ gtb := gtb_of (mt4 (i := 210) rfl) rfl
theorem q4_211 : (Jvm.Cond.selects "TuneSchool" ({ cls := "TuneSchool", name := "trace", desc := "(I)I" } : Jvm.MethodName) ({ cls := "TuneSchool", name := "trace", desc := "(I)I" } : Jvm.MethodName)) ∈ gtb := gtb_of (mt4 (i := 211) rfl) rfl
theorem q4_212 : (Jvm.Cond.code ({ cls := "TuneSchool", name := "trace", desc := "(I)I" } : Jvm.MethodName) prog_1_method_42_code (2 : Nat) (Option.some Jvm.ClassFile.FieldType.int)) ∈ gtb := gtb_of (mt4 (i := 212) rfl) rfl
theorem q4_213 : (Jvm.Cond.methodLink "TuneSchool" (308 : Nat) ({ cls := "java/lang/Math", name := "min", desc := "(II)I" } : Jvm.MethodName)) ∈ gtb := gtb_of (mt4 (i := 213) rfl) rfl
theorem q4_214 : (Jvm.Cond.methodLink "TuneSchoolLaw" (185 : Nat) ({ cls := "TuneSchool", name := "count", desc := "(I)I" } : Jvm.MethodName)) ∈ gtb := gtb_of (mt4 (i := 214) rfl) rfl
theorem q4_215 : (Jvm.Cond.instanceMethod ({ cls := "TuneSchool", name := "count", desc := "(I)I" } : Jvm.MethodName)) ∈ gtb := gtb_of (mt4 (i := 215) rfl) rfl
theorem q4_216 : (Jvm.Cond.selects "TuneSchool" ({ cls := "TuneSchool", name := "count", desc := "(I)I" } : Jvm.MethodName) ({ cls := "TuneSchool", name := "count", desc := "(I)I" } : Jvm.MethodName)) ∈ gtb := gtb_of (mt4 (i := 216) rfl) rfl
theorem q4_217 : (Jvm.Cond.code ({ cls := "TuneSchool", name := "count", desc := "(I)I" } : Jvm.MethodName) prog_1_method_43_code (2 : Nat) (Option.some Jvm.ClassFile.FieldType.int)) ∈ gtb := gtb_of (mt4 (i := 217) rfl) rfl
theorem q4_218 : (Jvm.Cond.methodLink "TuneSchool" (317 : Nat) ({ cls := "TuneSchool", name := "voicesThere", desc := "()I" } : Jvm.MethodName)) ∈ gtb := gtb_of (mt4 (i := 218) rfl) rfl
theorem q4_220 : (Jvm.Cond.instanceMethod ({ cls := "TuneSchool", name := "voicesThere", desc := "()I" } : Jvm.MethodName)) ∈ gtb := gtb_of (mt4 (i := 220) rfl) rfl
theorem q4_221 : (Jvm.Cond.code ({ cls := "TuneSchool", name := "voicesThere", desc := "()I" } : Jvm.MethodName) prog_1_method_53_code (3 : Nat) (Option.some Jvm.ClassFile.FieldType.int)) ∈ gtb := gtb_of (mt4 (i := 221) rfl) rfl
theorem q4_222 : (Jvm.Cond.methodLink "TuneSchool" (320 : Nat) ({ cls := "TuneSchool", name := "placesTaken", desc := "()I" } : Jvm.MethodName)) ∈ gtb := gtb_of (mt4 (i := 222) rfl) rfl
theorem q4_224 : (Jvm.Cond.instanceMethod ({ cls := "TuneSchool", name := "placesTaken", desc := "()I" } : Jvm.MethodName)) ∈ gtb := gtb_of (mt4 (i := 224) rfl) rfl
theorem q4_225 : (Jvm.Cond.code ({ cls := "TuneSchool", name := "placesTaken", desc := "()I" } : Jvm.MethodName) prog_1_method_54_code (3 : Nat) (Option.some Jvm.ClassFile.FieldType.int)) ∈ gtb := gtb_of (mt4 (i := 225) rfl) rfl
theorem q4_226 : (Jvm.Cond.classLink "TuneSchoolLaw" (10 : Nat) "TuneSchoolModel") ∈ gtb := gtb_of (mt4 (i := 226) rfl) rfl
theorem q4_227 : (Jvm.Cond.instantiable "TuneSchoolModel" (71 : Nat)) ∈ gtb := gtb_of (mt4 (i := 227) rfl) rfl
theorem q4_228 : (Jvm.Cond.methodLink "TuneSchoolLaw" (12 : Nat) ({ cls := "TuneSchoolModel", name := "<init>", desc := "()V" } : Jvm.MethodName)) ∈ gtb := gtb_of (mt4 (i := 228) rfl) rfl
theorem q4_229 : (Jvm.Cond.instanceMethod ({ cls := "TuneSchoolModel", name := "<init>", desc := "()V" } : Jvm.MethodName)) ∈ gtb := gtb_of (mt4 (i := 229) rfl) rfl
theorem q4_230 : (Jvm.Cond.code ({ cls := "TuneSchoolModel", name := "<init>", desc := "()V" } : Jvm.MethodName) prog_14_method_1_code (1 : Nat) (Option.none : Option Jvm.ClassFile.FieldType)) ∈ gtb := gtb_of (mt4 (i := 230) rfl) rfl
theorem q4_231 : (Jvm.Cond.methodLink "TuneSchoolModel" (1 : Nat) ({ cls := "java/lang/Object", name := "<init>", desc := "()V" } : Jvm.MethodName)) ∈ gtb := gtb_of (mt4 (i := 231) rfl) rfl
theorem q4_232 : (Jvm.Cond.fieldLink "TuneSchoolModel" (126 : Nat) "TuneSchoolModel" "status" "I") ∈ gtb := gtb_of (mt4 (i := 232) rfl) rfl
theorem q4_233 : (Jvm.Cond.fieldLink "TuneSchoolModel" (133 : Nat) "TuneSchoolModel" "findings" "I") ∈ gtb := gtb_of (mt4 (i := 233) rfl) rfl
theorem q4_234 : (Jvm.Cond.fieldLink "TuneSchoolModel" (9 : Nat) "TuneSchoolModel" "isThere" "[Z") ∈ gtb := gtb_of (mt4 (i := 234) rfl) rfl
theorem q4_235 : (Jvm.Cond.fieldLink "TuneSchoolModel" (13 : Nat) "TuneSchoolModel" "sizes" "[I") ∈ gtb := gtb_of (mt4 (i := 235) rfl) rfl
theorem q4_236 : (Jvm.Cond.fieldLink "TuneSchoolModel" (17 : Nat) "TuneSchoolModel" "numbers" "[I") ∈ gtb := gtb_of (mt4 (i := 236) rfl) rfl
theorem q4_237 : (Jvm.Cond.fieldLink "TuneSchoolModel" (136 : Nat) "TuneSchoolModel" "isKept" "Z") ∈ gtb := gtb_of (mt4 (i := 237) rfl) rfl
theorem q4_238 : (Jvm.Cond.fieldLink "TuneSchoolModel" (140 : Nat) "TuneSchoolModel" "keptVoice" "I") ∈ gtb := gtb_of (mt4 (i := 238) rfl) rfl
theorem q4_239 : (Jvm.Cond.fieldLink "TuneSchoolModel" (143 : Nat) "TuneSchoolModel" "keptThere" "Z") ∈ gtb := gtb_of (mt4 (i := 239) rfl) rfl
theorem q5_0 : (Jvm.Cond.fieldLink "TuneSchoolModel" (20 : Nat) "TuneSchoolModel" "keptSizes" "[I") ∈ gtb := gtb_of (mt5 (i := 0) rfl) rfl
theorem q5_1 : (Jvm.Cond.fieldLink "TuneSchoolModel" (23 : Nat) "TuneSchoolModel" "keptNumbers" "[I") ∈ gtb := gtb_of (mt5 (i := 1) rfl) rfl
theorem q5_2 : (Jvm.Cond.fieldLink "TuneSchoolModel" (174 : Nat) "TuneSchoolModel" "copied" "I") ∈ gtb := gtb_of (mt5 (i := 2) rfl) rfl
theorem q5_3 : (Jvm.Cond.fieldLink "TuneSchoolModel" (26 : Nat) "TuneSchoolModel" "sound" "[I") ∈ gtb := gtb_of (mt5 (i := 3) rfl) rfl
theorem q5_4 : (Jvm.Cond.fieldLink "TuneSchoolModel" (29 : Nat) "TuneSchoolModel" "ends" "[I") ∈ gtb := gtb_of (mt5 (i := 4) rfl) rfl
theorem q5_5 : (Jvm.Cond.fieldLink "TuneSchoolModel" (184 : Nat) "TuneSchoolModel" "rules" "I") ∈ gtb := gtb_of (mt5 (i := 5) rfl) rfl
theorem q5_6 : (Jvm.Cond.fieldLink "TuneSchoolModel" (32 : Nat) "TuneSchoolModel" "kindOf" "[I") ∈ gtb := gtb_of (mt5 (i := 6) rfl) rfl
theorem q5_7 : (Jvm.Cond.fieldLink "TuneSchoolModel" (35 : Nat) "TuneSchoolModel" "rests" "[Z") ∈ gtb := gtb_of (mt5 (i := 7) rfl) rfl
theorem q5_8 : (Jvm.Cond.fieldLink "TuneSchoolModel" (38 : Nat) "TuneSchoolModel" "comes" "[Z") ∈ gtb := gtb_of (mt5 (i := 8) rfl) rfl
theorem q5_9 : (Jvm.Cond.fieldLink "TuneSchoolModel" (41 : Nat) "TuneSchoolModel" "answered" "[Z") ∈ gtb := gtb_of (mt5 (i := 9) rfl) rfl
theorem q5_10 : (Jvm.Cond.fieldLink "TuneSchoolModel" (187 : Nat) "TuneSchoolModel" "schools" "I") ∈ gtb := gtb_of (mt5 (i := 10) rfl) rfl
theorem q5_11 : (Jvm.Cond.fieldLink "TuneSchoolModel" (44 : Nat) "TuneSchoolModel" "typeOf" "[I") ∈ gtb := gtb_of (mt5 (i := 11) rfl) rfl
theorem q5_12 : (Jvm.Cond.fieldLink "TuneSchoolModel" (47 : Nat) "TuneSchoolModel" "seatsOf" "[I") ∈ gtb := gtb_of (mt5 (i := 12) rfl) rfl
theorem q5_13 : (Jvm.Cond.fieldLink "TuneSchoolModel" (50 : Nat) "TuneSchoolModel" "seats" "[I") ∈ gtb := gtb_of (mt5 (i := 13) rfl) rfl
theorem q5_14 : (Jvm.Cond.fieldLink "TuneSchoolModel" (53 : Nat) "TuneSchoolModel" "sort" "[I") ∈ gtb := gtb_of (mt5 (i := 14) rfl) rfl
theorem q5_15 : (Jvm.Cond.fieldLink "TuneSchoolModel" (56 : Nat) "TuneSchoolModel" "what" "[I") ∈ gtb := gtb_of (mt5 (i := 15) rfl) rfl
theorem q5_16 : (Jvm.Cond.fieldLink "TuneSchoolModel" (59 : Nat) "TuneSchoolModel" "strong" "I") ∈ gtb := gtb_of (mt5 (i := 16) rfl) rfl
theorem q5_17 : (Jvm.Cond.fieldLink "TuneSchoolModel" (63 : Nat) "TuneSchoolModel" "key" "I") ∈ gtb := gtb_of (mt5 (i := 17) rfl) rfl
theorem q5_18 : (Jvm.Cond.fieldLink "TuneSchoolModel" (66 : Nat) "TuneSchoolModel" "weights" "[I") ∈ gtb := gtb_of (mt5 (i := 18) rfl) rfl
theorem q5_19 : (Jvm.Cond.fieldLink "TuneSchoolModel" (201 : Nat) "TuneSchoolModel" "isTracing" "Z") ∈ gtb := gtb_of (mt5 (i := 19) rfl) rfl
theorem q5_20 : (Jvm.Cond.fieldLink "TuneSchoolModel" (198 : Nat) "TuneSchoolModel" "traced" "I") ∈ gtb := gtb_of (mt5 (i := 20) rfl) rfl
theorem q5_21 : (Jvm.Cond.fieldLink "TuneSchoolModel" (69 : Nat) "TuneSchoolModel" "traces" "[I") ∈ gtb := gtb_of (mt5 (i := 21) rfl) rfl
theorem q5_22 : (Jvm.Cond.fieldLink "TuneSchoolModel" (245 : Nat) "TuneSchoolModel" "faultCount" "I") ∈ gtb := gtb_of (mt5 (i := 22) rfl) rfl
theorem q5_23 : (Jvm.Cond.fieldLink "TuneSchoolModel" (248 : Nat) "TuneSchoolModel" "noted" "I") ∈ gtb := gtb_of (mt5 (i := 23) rfl) rfl
theorem q5_24 : (Jvm.Cond.fieldLink "TuneSchoolModel" (72 : Nat) "TuneSchoolModel" "faultSeat" "[I") ∈ gtb := gtb_of (mt5 (i := 24) rfl) rfl
theorem q5_25 : (Jvm.Cond.fieldLink "TuneSchoolModel" (75 : Nat) "TuneSchoolModel" "faultTick" "[I") ∈ gtb := gtb_of (mt5 (i := 25) rfl) rfl
theorem q5_26 : (Jvm.Cond.fieldLink "TuneSchoolModel" (78 : Nat) "TuneSchoolModel" "faultA" "[I") ∈ gtb := gtb_of (mt5 (i := 26) rfl) rfl
theorem q5_27 : (Jvm.Cond.fieldLink "TuneSchoolModel" (81 : Nat) "TuneSchoolModel" "faultB" "[I") ∈ gtb := gtb_of (mt5 (i := 27) rfl) rfl
theorem q5_28 : (Jvm.Cond.fieldLink "TuneSchoolModel" (84 : Nat) "TuneSchoolModel" "faultRule" "[I") ∈ gtb := gtb_of (mt5 (i := 28) rfl) rfl
theorem q5_29 : (Jvm.Cond.fieldLink "TuneSchoolModel" (87 : Nat) "TuneSchoolModel" "line" "[I") ∈ gtb := gtb_of (mt5 (i := 29) rfl) rfl
theorem q5_30 : (Jvm.Cond.fieldLink "TuneSchoolModel" (382 : Nat) "TuneSchoolModel" "lineSize" "I") ∈ gtb := gtb_of (mt5 (i := 30) rfl) rfl
theorem q5_31 : (Jvm.Cond.fieldLink "TuneSchoolModel" (90 : Nat) "TuneSchoolModel" "middle" "[I") ∈ gtb := gtb_of (mt5 (i := 31) rfl) rfl
theorem q5_32 : (Jvm.Cond.fieldLink "TuneSchoolModel" (204 : Nat) "TuneSchoolModel" "rowA" "I") ∈ gtb := gtb_of (mt5 (i := 32) rfl) rfl
theorem q5_33 : (Jvm.Cond.fieldLink "TuneSchoolModel" (207 : Nat) "TuneSchoolModel" "rowB" "I") ∈ gtb := gtb_of (mt5 (i := 33) rfl) rfl
theorem q5_34 : (Jvm.Cond.fieldLink "TuneSchoolModel" (210 : Nat) "TuneSchoolModel" "lastBoth" "I") ∈ gtb := gtb_of (mt5 (i := 34) rfl) rfl
theorem q5_35 : (Jvm.Cond.fieldLink "TuneSchoolModel" (93 : Nat) "TuneSchoolModel" "lasts" "[I") ∈ gtb := gtb_of (mt5 (i := 35) rfl) rfl
theorem q5_36 : (Jvm.Cond.fieldLink "TuneSchoolModel" (355 : Nat) "TuneSchoolModel" "isSet" "Z") ∈ gtb := gtb_of (mt5 (i := 36) rfl) rfl
theorem q5_37 : (Jvm.Cond.fieldLink "TuneSchoolModel" (358 : Nat) "TuneSchoolModel" "setVoice" "I") ∈ gtb := gtb_of (mt5 (i := 37) rfl) rfl
theorem q5_38 : (Jvm.Cond.fieldLink "TuneSchoolModel" (290 : Nat) "TuneSchoolModel" "setPlace" "I") ∈ gtb := gtb_of (mt5 (i := 38) rfl) rfl
theorem q5_39 : (Jvm.Cond.fieldLink "TuneSchoolModel" (287 : Nat) "TuneSchoolModel" "setAbove" "Z") ∈ gtb := gtb_of (mt5 (i := 39) rfl) rfl
theorem q5_40 : (Jvm.Cond.fieldLink "TuneSchoolModel" (278 : Nat) "TuneSchoolModel" "setLow" "I") ∈ gtb := gtb_of (mt5 (i := 40) rfl) rfl
theorem q5_41 : (Jvm.Cond.fieldLink "TuneSchoolModel" (299 : Nat) "TuneSchoolModel" "setHigh" "I") ∈ gtb := gtb_of (mt5 (i := 41) rfl) rfl
theorem q5_42 : (Jvm.Cond.fieldLink "TuneSchoolModel" (281 : Nat) "TuneSchoolModel" "notes" "I") ∈ gtb := gtb_of (mt5 (i := 42) rfl) rfl
theorem q5_43 : (Jvm.Cond.fieldLink "TuneSchoolModel" (96 : Nat) "TuneSchoolModel" "gPitch" "[I") ∈ gtb := gtb_of (mt5 (i := 43) rfl) rfl
theorem q5_44 : (Jvm.Cond.fieldLink "TuneSchoolModel" (99 : Nat) "TuneSchoolModel" "gLength" "[I") ∈ gtb := gtb_of (mt5 (i := 44) rfl) rfl
theorem q5_45 : (Jvm.Cond.fieldLink "TuneSchoolModel" (102 : Nat) "TuneSchoolModel" "gBegin" "[I") ∈ gtb := gtb_of (mt5 (i := 45) rfl) rfl
theorem q5_46 : (Jvm.Cond.fieldLink "TuneSchoolModel" (361 : Nat) "TuneSchoolModel" "stepsDone" "I") ∈ gtb := gtb_of (mt5 (i := 46) rfl) rfl
theorem q5_47 : (Jvm.Cond.fieldLink "TuneSchoolModel" (340 : Nat) "TuneSchoolModel" "isWorked" "Z") ∈ gtb := gtb_of (mt5 (i := 47) rfl) rfl
theorem q5_48 : (Jvm.Cond.fieldLink "TuneSchoolModel" (364 : Nat) "TuneSchoolModel" "isOver" "Z") ∈ gtb := gtb_of (mt5 (i := 48) rfl) rfl
theorem q5_49 : (Jvm.Cond.fieldLink "TuneSchoolModel" (352 : Nat) "TuneSchoolModel" "hasTune" "Z") ∈ gtb := gtb_of (mt5 (i := 49) rfl) rfl
theorem q5_50 : (Jvm.Cond.fieldLink "TuneSchoolModel" (346 : Nat) "TuneSchoolModel" "tuneWeight" "I") ∈ gtb := gtb_of (mt5 (i := 50) rfl) rfl
theorem q5_51 : (Jvm.Cond.fieldLink "TuneSchoolModel" (349 : Nat) "TuneSchoolModel" "tuneMany" "I") ∈ gtb := gtb_of (mt5 (i := 51) rfl) rfl
theorem q5_52 : (Jvm.Cond.fieldLink "TuneSchoolModel" (105 : Nat) "TuneSchoolModel" "leasts" "[I") ∈ gtb := gtb_of (mt5 (i := 52) rfl) rfl
theorem q5_53 : (Jvm.Cond.fieldLink "TuneSchoolModel" (108 : Nat) "TuneSchoolModel" "chosen" "[I") ∈ gtb := gtb_of (mt5 (i := 53) rfl) rfl
theorem q5_54 : (Jvm.Cond.fieldLink "TuneSchoolModel" (111 : Nat) "TuneSchoolModel" "manies" "[I") ∈ gtb := gtb_of (mt5 (i := 54) rfl) rfl
theorem q5_55 : (Jvm.Cond.fieldLink "TuneSchoolModel" (114 : Nat) "TuneSchoolModel" "fitting" "[Z") ∈ gtb := gtb_of (mt5 (i := 55) rfl) rfl
theorem q5_56 : (Jvm.Cond.fieldLink "TuneSchoolModel" (302 : Nat) "TuneSchoolModel" "best" "I") ∈ gtb := gtb_of (mt5 (i := 56) rfl) rfl
theorem q5_57 : (Jvm.Cond.fieldLink "TuneSchoolModel" (305 : Nat) "TuneSchoolModel" "choice" "I") ∈ gtb := gtb_of (mt5 (i := 57) rfl) rfl
theorem q5_58 : (Jvm.Cond.fieldLink "TuneSchoolModel" (308 : Nat) "TuneSchoolModel" "many" "I") ∈ gtb := gtb_of (mt5 (i := 58) rfl) rfl
theorem q5_59 : (Jvm.Cond.fieldLink "TuneSchoolModel" (117 : Nat) "TuneSchoolModel" "tune" "[I") ∈ gtb := gtb_of (mt5 (i := 59) rfl) rfl
theorem q5_60 : (Jvm.Cond.fieldLink "TuneSchoolModel" (120 : Nat) "TuneSchoolModel" "readPitch" "[I") ∈ gtb := gtb_of (mt5 (i := 60) rfl) rfl
theorem q5_61 : (Jvm.Cond.fieldLink "TuneSchoolModel" (123 : Nat) "TuneSchoolModel" "readLength" "[I") ∈ gtb := gtb_of (mt5 (i := 61) rfl) rfl
theorem q5_62 : (Jvm.Cond.fieldLink "TuneSchoolModel" (388 : Nat) "TuneSchoolModel" "readNotes" "I") ∈ gtb := gtb_of (mt5 (i := 62) rfl) rfl
theorem q5_63 : (Jvm.Cond.lays "TuneSchoolModel" "TuneSchoolModel" "status" "I") ∈ gtb := gtb_of (mt5 (i := 63) rfl) rfl
theorem q5_65 : (Jvm.Cond.lays "TuneSchoolModel" "TuneSchoolModel" "findings" "I") ∈ gtb := gtb_of (mt5 (i := 65) rfl) rfl
theorem q5_67 : (Jvm.Cond.laysFinal "TuneSchoolModel" "TuneSchoolModel" "isThere" "[Z") ∈ gtb := gtb_of (mt5 (i := 67) rfl) rfl
theorem q5_69 : (Jvm.Cond.laysFinal "TuneSchoolModel" "TuneSchoolModel" "sizes" "[I") ∈ gtb := gtb_of (mt5 (i := 69) rfl) rfl
theorem q5_71 : (Jvm.Cond.laysFinal "TuneSchoolModel" "TuneSchoolModel" "numbers" "[I") ∈ gtb := gtb_of (mt5 (i := 71) rfl) rfl
theorem q5_73 : (Jvm.Cond.lays "TuneSchoolModel" "TuneSchoolModel" "isKept" "Z") ∈ gtb := gtb_of (mt5 (i := 73) rfl) rfl
theorem q5_75 : (Jvm.Cond.lays "TuneSchoolModel" "TuneSchoolModel" "keptVoice" "I") ∈ gtb := gtb_of (mt5 (i := 75) rfl) rfl
theorem q5_77 : (Jvm.Cond.lays "TuneSchoolModel" "TuneSchoolModel" "keptThere" "Z") ∈ gtb := gtb_of (mt5 (i := 77) rfl) rfl
theorem q5_79 : (Jvm.Cond.laysFinal "TuneSchoolModel" "TuneSchoolModel" "keptSizes" "[I") ∈ gtb := gtb_of (mt5 (i := 79) rfl) rfl
theorem q5_81 : (Jvm.Cond.laysFinal "TuneSchoolModel" "TuneSchoolModel" "keptNumbers" "[I") ∈ gtb := gtb_of (mt5 (i := 81) rfl) rfl
theorem q5_83 : (Jvm.Cond.lays "TuneSchoolModel" "TuneSchoolModel" "copied" "I") ∈ gtb := gtb_of (mt5 (i := 83) rfl) rfl
theorem q5_85 : (Jvm.Cond.laysFinal "TuneSchoolModel" "TuneSchoolModel" "sound" "[I") ∈ gtb := gtb_of (mt5 (i := 85) rfl) rfl
theorem q5_87 : (Jvm.Cond.laysFinal "TuneSchoolModel" "TuneSchoolModel" "ends" "[I") ∈ gtb := gtb_of (mt5 (i := 87) rfl) rfl
theorem q5_89 : (Jvm.Cond.lays "TuneSchoolModel" "TuneSchoolModel" "rules" "I") ∈ gtb := gtb_of (mt5 (i := 89) rfl) rfl
theorem q5_91 : (Jvm.Cond.laysFinal "TuneSchoolModel" "TuneSchoolModel" "kindOf" "[I") ∈ gtb := gtb_of (mt5 (i := 91) rfl) rfl
theorem q5_93 : (Jvm.Cond.laysFinal "TuneSchoolModel" "TuneSchoolModel" "rests" "[Z") ∈ gtb := gtb_of (mt5 (i := 93) rfl) rfl
theorem q5_95 : (Jvm.Cond.laysFinal "TuneSchoolModel" "TuneSchoolModel" "comes" "[Z") ∈ gtb := gtb_of (mt5 (i := 95) rfl) rfl
theorem q5_97 : (Jvm.Cond.laysFinal "TuneSchoolModel" "TuneSchoolModel" "answered" "[Z") ∈ gtb := gtb_of (mt5 (i := 97) rfl) rfl
theorem q5_99 : (Jvm.Cond.lays "TuneSchoolModel" "TuneSchoolModel" "schools" "I") ∈ gtb := gtb_of (mt5 (i := 99) rfl) rfl
theorem q5_101 : (Jvm.Cond.laysFinal "TuneSchoolModel" "TuneSchoolModel" "typeOf" "[I") ∈ gtb := gtb_of (mt5 (i := 101) rfl) rfl
theorem q5_103 : (Jvm.Cond.laysFinal "TuneSchoolModel" "TuneSchoolModel" "seatsOf" "[I") ∈ gtb := gtb_of (mt5 (i := 103) rfl) rfl
theorem q5_105 : (Jvm.Cond.laysFinal "TuneSchoolModel" "TuneSchoolModel" "seats" "[I") ∈ gtb := gtb_of (mt5 (i := 105) rfl) rfl
theorem q5_107 : (Jvm.Cond.laysFinal "TuneSchoolModel" "TuneSchoolModel" "sort" "[I") ∈ gtb := gtb_of (mt5 (i := 107) rfl) rfl
theorem q5_109 : (Jvm.Cond.laysFinal "TuneSchoolModel" "TuneSchoolModel" "what" "[I") ∈ gtb := gtb_of (mt5 (i := 109) rfl) rfl
theorem q5_111 : (Jvm.Cond.lays "TuneSchoolModel" "TuneSchoolModel" "strong" "I") ∈ gtb := gtb_of (mt5 (i := 111) rfl) rfl
theorem q5_113 : (Jvm.Cond.lays "TuneSchoolModel" "TuneSchoolModel" "key" "I") ∈ gtb := gtb_of (mt5 (i := 113) rfl) rfl
theorem q5_115 : (Jvm.Cond.laysFinal "TuneSchoolModel" "TuneSchoolModel" "weights" "[I") ∈ gtb := gtb_of (mt5 (i := 115) rfl) rfl
theorem q5_117 : (Jvm.Cond.lays "TuneSchoolModel" "TuneSchoolModel" "isTracing" "Z") ∈ gtb := gtb_of (mt5 (i := 117) rfl) rfl
theorem q5_119 : (Jvm.Cond.lays "TuneSchoolModel" "TuneSchoolModel" "traced" "I") ∈ gtb := gtb_of (mt5 (i := 119) rfl) rfl
theorem q5_121 : (Jvm.Cond.laysFinal "TuneSchoolModel" "TuneSchoolModel" "traces" "[I") ∈ gtb := gtb_of (mt5 (i := 121) rfl) rfl
theorem q5_123 : (Jvm.Cond.lays "TuneSchoolModel" "TuneSchoolModel" "faultCount" "I") ∈ gtb := gtb_of (mt5 (i := 123) rfl) rfl
theorem q5_125 : (Jvm.Cond.lays "TuneSchoolModel" "TuneSchoolModel" "noted" "I") ∈ gtb := gtb_of (mt5 (i := 125) rfl) rfl
theorem q5_127 : (Jvm.Cond.laysFinal "TuneSchoolModel" "TuneSchoolModel" "faultSeat" "[I") ∈ gtb := gtb_of (mt5 (i := 127) rfl) rfl
theorem q5_129 : (Jvm.Cond.laysFinal "TuneSchoolModel" "TuneSchoolModel" "faultTick" "[I") ∈ gtb := gtb_of (mt5 (i := 129) rfl) rfl
theorem q5_131 : (Jvm.Cond.laysFinal "TuneSchoolModel" "TuneSchoolModel" "faultA" "[I") ∈ gtb := gtb_of (mt5 (i := 131) rfl) rfl
theorem q5_133 : (Jvm.Cond.laysFinal "TuneSchoolModel" "TuneSchoolModel" "faultB" "[I") ∈ gtb := gtb_of (mt5 (i := 133) rfl) rfl
theorem q5_135 : (Jvm.Cond.laysFinal "TuneSchoolModel" "TuneSchoolModel" "faultRule" "[I") ∈ gtb := gtb_of (mt5 (i := 135) rfl) rfl
theorem q5_137 : (Jvm.Cond.laysFinal "TuneSchoolModel" "TuneSchoolModel" "line" "[I") ∈ gtb := gtb_of (mt5 (i := 137) rfl) rfl
theorem q5_139 : (Jvm.Cond.lays "TuneSchoolModel" "TuneSchoolModel" "lineSize" "I") ∈ gtb := gtb_of (mt5 (i := 139) rfl) rfl
theorem q5_141 : (Jvm.Cond.laysFinal "TuneSchoolModel" "TuneSchoolModel" "middle" "[I") ∈ gtb := gtb_of (mt5 (i := 141) rfl) rfl
theorem q5_143 : (Jvm.Cond.lays "TuneSchoolModel" "TuneSchoolModel" "rowA" "I") ∈ gtb := gtb_of (mt5 (i := 143) rfl) rfl
theorem q5_145 : (Jvm.Cond.lays "TuneSchoolModel" "TuneSchoolModel" "rowB" "I") ∈ gtb := gtb_of (mt5 (i := 145) rfl) rfl
theorem q5_147 : (Jvm.Cond.lays "TuneSchoolModel" "TuneSchoolModel" "lastBoth" "I") ∈ gtb := gtb_of (mt5 (i := 147) rfl) rfl
theorem q5_149 : (Jvm.Cond.laysFinal "TuneSchoolModel" "TuneSchoolModel" "lasts" "[I") ∈ gtb := gtb_of (mt5 (i := 149) rfl) rfl
theorem q5_151 : (Jvm.Cond.lays "TuneSchoolModel" "TuneSchoolModel" "isSet" "Z") ∈ gtb := gtb_of (mt5 (i := 151) rfl) rfl
theorem q5_153 : (Jvm.Cond.lays "TuneSchoolModel" "TuneSchoolModel" "setVoice" "I") ∈ gtb := gtb_of (mt5 (i := 153) rfl) rfl
theorem q5_155 : (Jvm.Cond.lays "TuneSchoolModel" "TuneSchoolModel" "setPlace" "I") ∈ gtb := gtb_of (mt5 (i := 155) rfl) rfl
theorem q5_157 : (Jvm.Cond.lays "TuneSchoolModel" "TuneSchoolModel" "setAbove" "Z") ∈ gtb := gtb_of (mt5 (i := 157) rfl) rfl
theorem q5_159 : (Jvm.Cond.lays "TuneSchoolModel" "TuneSchoolModel" "setLow" "I") ∈ gtb := gtb_of (mt5 (i := 159) rfl) rfl
theorem q5_161 : (Jvm.Cond.lays "TuneSchoolModel" "TuneSchoolModel" "setHigh" "I") ∈ gtb := gtb_of (mt5 (i := 161) rfl) rfl
theorem q5_163 : (Jvm.Cond.lays "TuneSchoolModel" "TuneSchoolModel" "notes" "I") ∈ gtb := gtb_of (mt5 (i := 163) rfl) rfl
theorem q5_165 : (Jvm.Cond.laysFinal "TuneSchoolModel" "TuneSchoolModel" "gPitch" "[I") ∈ gtb := gtb_of (mt5 (i := 165) rfl) rfl
theorem q5_167 : (Jvm.Cond.laysFinal "TuneSchoolModel" "TuneSchoolModel" "gLength" "[I") ∈ gtb := gtb_of (mt5 (i := 167) rfl) rfl
theorem q5_169 : (Jvm.Cond.laysFinal "TuneSchoolModel" "TuneSchoolModel" "gBegin" "[I") ∈ gtb := gtb_of (mt5 (i := 169) rfl) rfl
theorem q5_171 : (Jvm.Cond.lays "TuneSchoolModel" "TuneSchoolModel" "stepsDone" "I") ∈ gtb := gtb_of (mt5 (i := 171) rfl) rfl
theorem q5_173 : (Jvm.Cond.lays "TuneSchoolModel" "TuneSchoolModel" "isWorked" "Z") ∈ gtb := gtb_of (mt5 (i := 173) rfl) rfl
theorem q5_175 : (Jvm.Cond.lays "TuneSchoolModel" "TuneSchoolModel" "isOver" "Z") ∈ gtb := gtb_of (mt5 (i := 175) rfl) rfl
theorem q5_177 : (Jvm.Cond.lays "TuneSchoolModel" "TuneSchoolModel" "hasTune" "Z") ∈ gtb := gtb_of (mt5 (i := 177) rfl) rfl
theorem q5_179 : (Jvm.Cond.lays "TuneSchoolModel" "TuneSchoolModel" "tuneWeight" "I") ∈ gtb := gtb_of (mt5 (i := 179) rfl) rfl
theorem q5_181 : (Jvm.Cond.lays "TuneSchoolModel" "TuneSchoolModel" "tuneMany" "I") ∈ gtb := gtb_of (mt5 (i := 181) rfl) rfl
theorem q5_183 : (Jvm.Cond.laysFinal "TuneSchoolModel" "TuneSchoolModel" "leasts" "[I") ∈ gtb := gtb_of (mt5 (i := 183) rfl) rfl
theorem q5_185 : (Jvm.Cond.laysFinal "TuneSchoolModel" "TuneSchoolModel" "chosen" "[I") ∈ gtb := gtb_of (mt5 (i := 185) rfl) rfl
theorem q5_187 : (Jvm.Cond.laysFinal "TuneSchoolModel" "TuneSchoolModel" "manies" "[I") ∈ gtb := gtb_of (mt5 (i := 187) rfl) rfl
theorem q5_189 : (Jvm.Cond.laysFinal "TuneSchoolModel" "TuneSchoolModel" "fitting" "[Z") ∈ gtb := gtb_of (mt5 (i := 189) rfl) rfl
theorem q5_191 : (Jvm.Cond.lays "TuneSchoolModel" "TuneSchoolModel" "best" "I") ∈ gtb := gtb_of (mt5 (i := 191) rfl) rfl
theorem q5_193 : (Jvm.Cond.lays "TuneSchoolModel" "TuneSchoolModel" "choice" "I") ∈ gtb := gtb_of (mt5 (i := 193) rfl) rfl
theorem q5_195 : (Jvm.Cond.lays "TuneSchoolModel" "TuneSchoolModel" "many" "I") ∈ gtb := gtb_of (mt5 (i := 195) rfl) rfl
theorem q5_197 : (Jvm.Cond.laysFinal "TuneSchoolModel" "TuneSchoolModel" "tune" "[I") ∈ gtb := gtb_of (mt5 (i := 197) rfl) rfl
theorem q5_199 : (Jvm.Cond.laysFinal "TuneSchoolModel" "TuneSchoolModel" "readPitch" "[I") ∈ gtb := gtb_of (mt5 (i := 199) rfl) rfl
theorem q5_201 : (Jvm.Cond.laysFinal "TuneSchoolModel" "TuneSchoolModel" "readLength" "[I") ∈ gtb := gtb_of (mt5 (i := 201) rfl) rfl
theorem q5_203 : (Jvm.Cond.lays "TuneSchoolModel" "TuneSchoolModel" "readNotes" "I") ∈ gtb := gtb_of (mt5 (i := 203) rfl) rfl
theorem q5_205 : (Jvm.Cond.superclass "TuneSchoolModel" "java/lang/Object") ∈ gtb := gtb_of (mt5 (i := 205) rfl) rfl
theorem q5_206 : (Jvm.Cond.arrayClass Jvm.ClassFile.FieldType.boolean) ∈ gtb := gtb_of (mt5 (i := 206) rfl) rfl
theorem q5_207 : (Jvm.Cond.methodLink "TuneSchoolLaw" (17 : Nat) ({ cls := "TuneSchoolModel", name := "voice", desc := "(II)I" } : Jvm.MethodName)) ∈ gtb := gtb_of (mt5 (i := 207) rfl) rfl
theorem q5_208 : (Jvm.Cond.instanceMethod ({ cls := "TuneSchoolModel", name := "voice", desc := "(II)I" } : Jvm.MethodName)) ∈ gtb := gtb_of (mt5 (i := 208) rfl) rfl
theorem q5_209 : (Jvm.Cond.selects "TuneSchoolModel" ({ cls := "TuneSchoolModel", name := "voice", desc := "(II)I" } : Jvm.MethodName) ({ cls := "TuneSchoolModel", name := "voice", desc := "(II)I" } : Jvm.MethodName)) ∈ gtb := gtb_of (mt5 (i := 209) rfl) rfl
theorem q5_210 : (Jvm.Cond.code ({ cls := "TuneSchoolModel", name := "voice", desc := "(II)I" } : Jvm.MethodName) prog_14_method_14_code (4 : Nat) (Option.some Jvm.ClassFile.FieldType.int)) ∈ gtb := gtb_of (mt5 (i := 210) rfl) rfl
theorem q5_211 : (Jvm.Cond.methodLink "TuneSchoolModel" (153 : Nat) ({ cls := "TuneSchoolModel", name := "isVoice", desc := "(I)Z" } : Jvm.MethodName)) ∈ gtb := gtb_of (mt5 (i := 211) rfl) rfl
theorem q5_212 : (Jvm.Cond.static ({ cls := "TuneSchoolModel", name := "isVoice", desc := "(I)Z" } : Jvm.MethodName)) ∈ gtb := gtb_of (mt5 (i := 212) rfl) rfl
theorem q5_213 : (Jvm.Cond.code ({ cls := "TuneSchoolModel", name := "isVoice", desc := "(I)Z" } : Jvm.MethodName) prog_14_method_4_code (1 : Nat) (Option.some Jvm.ClassFile.FieldType.boolean)) ∈ gtb := gtb_of (mt5 (i := 213) rfl) rfl
theorem q5_214 : (Jvm.Cond.methodLink "TuneSchoolModel" (129 : Nat) ({ cls := "TuneSchoolModel", name := "in", desc := "(III)Z" } : Jvm.MethodName)) ∈ gtb := gtb_of (mt5 (i := 214) rfl) rfl
theorem q5_215 : (Jvm.Cond.static ({ cls := "TuneSchoolModel", name := "in", desc := "(III)Z" } : Jvm.MethodName)) ∈ gtb := gtb_of (mt5 (i := 215) rfl) rfl
theorem q5_216 : (Jvm.Cond.code ({ cls := "TuneSchoolModel", name := "in", desc := "(III)Z" } : Jvm.MethodName) prog_14_method_3_code (3 : Nat) (Option.some Jvm.ClassFile.FieldType.boolean)) ∈ gtb := gtb_of (mt5 (i := 216) rfl) rfl
theorem q5_217 : (Jvm.Cond.methodLink "TuneSchoolModel" (157 : Nat) ({ cls := "TuneSchoolModel", name := "finds", desc := "(I)I" } : Jvm.MethodName)) ∈ gtb := gtb_of (mt5 (i := 217) rfl) rfl
theorem q5_219 : (Jvm.Cond.instanceMethod ({ cls := "TuneSchoolModel", name := "finds", desc := "(I)I" } : Jvm.MethodName)) ∈ gtb := gtb_of (mt5 (i := 219) rfl) rfl
theorem q5_220 : (Jvm.Cond.code ({ cls := "TuneSchoolModel", name := "finds", desc := "(I)I" } : Jvm.MethodName) prog_14_method_6_code (2 : Nat) (Option.some Jvm.ClassFile.FieldType.int)) ∈ gtb := gtb_of (mt5 (i := 220) rfl) rfl
theorem q5_221 : (Jvm.Cond.methodLink "TuneSchoolModel" (161 : Nat) ({ cls := "TuneSchoolModel", name := "keep", desc := "(I)V" } : Jvm.MethodName)) ∈ gtb := gtb_of (mt5 (i := 221) rfl) rfl
theorem q5_223 : (Jvm.Cond.instanceMethod ({ cls := "TuneSchoolModel", name := "keep", desc := "(I)V" } : Jvm.MethodName)) ∈ gtb := gtb_of (mt5 (i := 223) rfl) rfl
theorem q5_224 : (Jvm.Cond.code ({ cls := "TuneSchoolModel", name := "keep", desc := "(I)V" } : Jvm.MethodName) prog_14_method_8_code (4 : Nat) (Option.none : Option Jvm.ClassFile.FieldType)) ∈ gtb := gtb_of (mt5 (i := 224) rfl) rfl
theorem q5_225 : (Jvm.Cond.methodLink "TuneSchoolLaw" (22 : Nat) ({ cls := "TuneSchoolModel", name := "drop", desc := "(I)I" } : Jvm.MethodName)) ∈ gtb := gtb_of (mt5 (i := 225) rfl) rfl
theorem q5_226 : (Jvm.Cond.instanceMethod ({ cls := "TuneSchoolModel", name := "drop", desc := "(I)I" } : Jvm.MethodName)) ∈ gtb := gtb_of (mt5 (i := 226) rfl) rfl
theorem q5_227 : (Jvm.Cond.selects "TuneSchoolModel" ({ cls := "TuneSchoolModel", name := "drop", desc := "(I)I" } : Jvm.MethodName) ({ cls := "TuneSchoolModel", name := "drop", desc := "(I)I" } : Jvm.MethodName)) ∈ gtb := gtb_of (mt5 (i := 227) rfl) rfl
theorem q5_228 : (Jvm.Cond.code ({ cls := "TuneSchoolModel", name := "drop", desc := "(I)I" } : Jvm.MethodName) prog_14_method_15_code (3 : Nat) (Option.some Jvm.ClassFile.FieldType.int)) ∈ gtb := gtb_of (mt5 (i := 228) rfl) rfl
theorem q5_229 : (Jvm.Cond.methodLink "TuneSchoolLaw" (27 : Nat) ({ cls := "TuneSchoolModel", name := "note", desc := "(IIII)I" } : Jvm.MethodName)) ∈ gtb := gtb_of (mt5 (i := 229) rfl) rfl
theorem q5_230 : (Jvm.Cond.instanceMethod ({ cls := "TuneSchoolModel", name := "note", desc := "(IIII)I" } : Jvm.MethodName)) ∈ gtb := gtb_of (mt5 (i := 230) rfl) rfl
theorem q5_231 : (Jvm.Cond.selects "TuneSchoolModel" ({ cls := "TuneSchoolModel", name := "note", desc := "(IIII)I" } : Jvm.MethodName) ({ cls := "TuneSchoolModel", name := "note", desc := "(IIII)I" } : Jvm.MethodName)) ∈ gtb := gtb_of (mt5 (i := 231) rfl) rfl
theorem q5_232 : (Jvm.Cond.code ({ cls := "TuneSchoolModel", name := "note", desc := "(IIII)I" } : Jvm.MethodName) prog_14_method_16_code (5 : Nat) (Option.some Jvm.ClassFile.FieldType.int)) ∈ gtb := gtb_of (mt5 (i := 232) rfl) rfl
theorem q5_233 : (Jvm.Cond.methodLink "TuneSchoolLaw" (32 : Nat) ({ cls := "TuneSchoolModel", name := "cut", desc := "(III)I" } : Jvm.MethodName)) ∈ gtb := gtb_of (mt5 (i := 233) rfl) rfl
theorem q5_234 : (Jvm.Cond.instanceMethod ({ cls := "TuneSchoolModel", name := "cut", desc := "(III)I" } : Jvm.MethodName)) ∈ gtb := gtb_of (mt5 (i := 234) rfl) rfl
theorem q5_235 : (Jvm.Cond.selects "TuneSchoolModel" ({ cls := "TuneSchoolModel", name := "cut", desc := "(III)I" } : Jvm.MethodName) ({ cls := "TuneSchoolModel", name := "cut", desc := "(III)I" } : Jvm.MethodName)) ∈ gtb := gtb_of (mt5 (i := 235) rfl) rfl
theorem q5_236 : (Jvm.Cond.code ({ cls := "TuneSchoolModel", name := "cut", desc := "(III)I" } : Jvm.MethodName) prog_14_method_17_code (5 : Nat) (Option.some Jvm.ClassFile.FieldType.int)) ∈ gtb := gtb_of (mt5 (i := 236) rfl) rfl
theorem q5_237 : (Jvm.Cond.methodLink "TuneSchoolLaw" (36 : Nat) ({ cls := "TuneSchoolModel", name := "size", desc := "(II)I" } : Jvm.MethodName)) ∈ gtb := gtb_of (mt5 (i := 237) rfl) rfl
theorem q5_238 : (Jvm.Cond.instanceMethod ({ cls := "TuneSchoolModel", name := "size", desc := "(II)I" } : Jvm.MethodName)) ∈ gtb := gtb_of (mt5 (i := 238) rfl) rfl
theorem q5_239 : (Jvm.Cond.selects "TuneSchoolModel" ({ cls := "TuneSchoolModel", name := "size", desc := "(II)I" } : Jvm.MethodName) ({ cls := "TuneSchoolModel", name := "size", desc := "(II)I" } : Jvm.MethodName)) ∈ gtb := gtb_of (mt5 (i := 239) rfl) rfl
theorem q6_0 : (Jvm.Cond.code ({ cls := "TuneSchoolModel", name := "size", desc := "(II)I" } : Jvm.MethodName) prog_14_method_18_code (3 : Nat) (Option.some Jvm.ClassFile.FieldType.int)) ∈ gtb := gtb_of (mt6 (i := 0) rfl) rfl
theorem q6_1 : (Jvm.Cond.methodLink "TuneSchoolLaw" (40 : Nat) ({ cls := "TuneSchoolModel", name := "number", desc := "(III)I" } : Jvm.MethodName)) ∈ gtb := gtb_of (mt6 (i := 1) rfl) rfl
theorem q6_2 : (Jvm.Cond.instanceMethod ({ cls := "TuneSchoolModel", name := "number", desc := "(III)I" } : Jvm.MethodName)) ∈ gtb := gtb_of (mt6 (i := 2) rfl) rfl
theorem q6_3 : (Jvm.Cond.selects "TuneSchoolModel" ({ cls := "TuneSchoolModel", name := "number", desc := "(III)I" } : Jvm.MethodName) ({ cls := "TuneSchoolModel", name := "number", desc := "(III)I" } : Jvm.MethodName)) ∈ gtb := gtb_of (mt6 (i := 3) rfl) rfl
theorem q6_4 : (Jvm.Cond.code ({ cls := "TuneSchoolModel", name := "number", desc := "(III)I" } : Jvm.MethodName) prog_14_method_19_code (4 : Nat) (Option.some Jvm.ClassFile.FieldType.int)) ∈ gtb := gtb_of (mt6 (i := 4) rfl) rfl
theorem q6_5 : (Jvm.Cond.methodLink "TuneSchoolLaw" (44 : Nat) ({ cls := "TuneSchoolModel", name := "end", desc := "(I)I" } : Jvm.MethodName)) ∈ gtb := gtb_of (mt6 (i := 5) rfl) rfl
theorem q6_6 : (Jvm.Cond.instanceMethod ({ cls := "TuneSchoolModel", name := "end", desc := "(I)I" } : Jvm.MethodName)) ∈ gtb := gtb_of (mt6 (i := 6) rfl) rfl
theorem q6_7 : (Jvm.Cond.selects "TuneSchoolModel" ({ cls := "TuneSchoolModel", name := "end", desc := "(I)I" } : Jvm.MethodName) ({ cls := "TuneSchoolModel", name := "end", desc := "(I)I" } : Jvm.MethodName)) ∈ gtb := gtb_of (mt6 (i := 7) rfl) rfl
theorem q6_8 : (Jvm.Cond.code ({ cls := "TuneSchoolModel", name := "end", desc := "(I)I" } : Jvm.MethodName) prog_14_method_20_code (3 : Nat) (Option.some Jvm.ClassFile.FieldType.int)) ∈ gtb := gtb_of (mt6 (i := 8) rfl) rfl
theorem q6_9 : (Jvm.Cond.methodLink "TuneSchoolModel" (165 : Nat) ({ cls := "TuneSchoolModel", name := "against", desc := "(I)I" } : Jvm.MethodName)) ∈ gtb := gtb_of (mt6 (i := 9) rfl) rfl
theorem q6_11 : (Jvm.Cond.instanceMethod ({ cls := "TuneSchoolModel", name := "against", desc := "(I)I" } : Jvm.MethodName)) ∈ gtb := gtb_of (mt6 (i := 11) rfl) rfl
theorem q6_12 : (Jvm.Cond.code ({ cls := "TuneSchoolModel", name := "against", desc := "(I)I" } : Jvm.MethodName) prog_14_method_11_code (2 : Nat) (Option.some Jvm.ClassFile.FieldType.int)) ∈ gtb := gtb_of (mt6 (i := 12) rfl) rfl
theorem q6_13 : (Jvm.Cond.methodLink "TuneSchoolModel" (168 : Nat) ({ cls := "TuneSchoolModel", name := "lay", desc := "(I)V" } : Jvm.MethodName)) ∈ gtb := gtb_of (mt6 (i := 13) rfl) rfl
theorem q6_15 : (Jvm.Cond.instanceMethod ({ cls := "TuneSchoolModel", name := "lay", desc := "(I)V" } : Jvm.MethodName)) ∈ gtb := gtb_of (mt6 (i := 15) rfl) rfl
theorem q6_16 : (Jvm.Cond.code ({ cls := "TuneSchoolModel", name := "lay", desc := "(I)V" } : Jvm.MethodName) prog_14_method_12_code (5 : Nat) (Option.none : Option Jvm.ClassFile.FieldType)) ∈ gtb := gtb_of (mt6 (i := 16) rfl) rfl
theorem q6_17 : (Jvm.Cond.methodLink "TuneSchoolModel" (146 : Nat) ({ cls := "TuneSchoolModel", name := "lengthAt", desc := "(II)I" } : Jvm.MethodName)) ∈ gtb := gtb_of (mt6 (i := 17) rfl) rfl
theorem q6_19 : (Jvm.Cond.instanceMethod ({ cls := "TuneSchoolModel", name := "lengthAt", desc := "(II)I" } : Jvm.MethodName)) ∈ gtb := gtb_of (mt6 (i := 19) rfl) rfl
theorem q6_20 : (Jvm.Cond.code ({ cls := "TuneSchoolModel", name := "lengthAt", desc := "(II)I" } : Jvm.MethodName) prog_14_method_10_code (3 : Nat) (Option.some Jvm.ClassFile.FieldType.int)) ∈ gtb := gtb_of (mt6 (i := 20) rfl) rfl
theorem q6_21 : (Jvm.Cond.methodLink "TuneSchoolModel" (150 : Nat) ({ cls := "TuneSchoolModel", name := "pitchAt", desc := "(II)I" } : Jvm.MethodName)) ∈ gtb := gtb_of (mt6 (i := 21) rfl) rfl
theorem q6_23 : (Jvm.Cond.instanceMethod ({ cls := "TuneSchoolModel", name := "pitchAt", desc := "(II)I" } : Jvm.MethodName)) ∈ gtb := gtb_of (mt6 (i := 23) rfl) rfl
theorem q6_24 : (Jvm.Cond.code ({ cls := "TuneSchoolModel", name := "pitchAt", desc := "(II)I" } : Jvm.MethodName) prog_14_method_9_code (3 : Nat) (Option.some Jvm.ClassFile.FieldType.int)) ∈ gtb := gtb_of (mt6 (i := 24) rfl) rfl
theorem q6_25 : (Jvm.Cond.methodLink "TuneSchoolLaw" (48 : Nat) ({ cls := "TuneSchoolModel", name := "sounds", desc := "(II)I" } : Jvm.MethodName)) ∈ gtb := gtb_of (mt6 (i := 25) rfl) rfl
theorem q6_26 : (Jvm.Cond.instanceMethod ({ cls := "TuneSchoolModel", name := "sounds", desc := "(II)I" } : Jvm.MethodName)) ∈ gtb := gtb_of (mt6 (i := 26) rfl) rfl
theorem q6_27 : (Jvm.Cond.selects "TuneSchoolModel" ({ cls := "TuneSchoolModel", name := "sounds", desc := "(II)I" } : Jvm.MethodName) ({ cls := "TuneSchoolModel", name := "sounds", desc := "(II)I" } : Jvm.MethodName)) ∈ gtb := gtb_of (mt6 (i := 27) rfl) rfl
theorem q6_28 : (Jvm.Cond.code ({ cls := "TuneSchoolModel", name := "sounds", desc := "(II)I" } : Jvm.MethodName) prog_14_method_21_code (4 : Nat) (Option.some Jvm.ClassFile.FieldType.int)) ∈ gtb := gtb_of (mt6 (i := 28) rfl) rfl
theorem q6_29 : (Jvm.Cond.methodLink "TuneSchoolModel" (171 : Nat) ({ cls := "TuneSchoolModel", name := "soundAt", desc := "(II)I" } : Jvm.MethodName)) ∈ gtb := gtb_of (mt6 (i := 29) rfl) rfl
theorem q6_31 : (Jvm.Cond.instanceMethod ({ cls := "TuneSchoolModel", name := "soundAt", desc := "(II)I" } : Jvm.MethodName)) ∈ gtb := gtb_of (mt6 (i := 31) rfl) rfl
theorem q6_32 : (Jvm.Cond.code ({ cls := "TuneSchoolModel", name := "soundAt", desc := "(II)I" } : Jvm.MethodName) prog_14_method_13_code (3 : Nat) (Option.some Jvm.ClassFile.FieldType.int)) ∈ gtb := gtb_of (mt6 (i := 32) rfl) rfl
theorem q6_33 : (Jvm.Cond.methodLink "TuneSchoolLaw" (52 : Nat) ({ cls := "TuneSchoolModel", name := "transpose", desc := "(II)I" } : Jvm.MethodName)) ∈ gtb := gtb_of (mt6 (i := 33) rfl) rfl
theorem q6_34 : (Jvm.Cond.instanceMethod ({ cls := "TuneSchoolModel", name := "transpose", desc := "(II)I" } : Jvm.MethodName)) ∈ gtb := gtb_of (mt6 (i := 34) rfl) rfl
theorem q6_35 : (Jvm.Cond.selects "TuneSchoolModel" ({ cls := "TuneSchoolModel", name := "transpose", desc := "(II)I" } : Jvm.MethodName) ({ cls := "TuneSchoolModel", name := "transpose", desc := "(II)I" } : Jvm.MethodName)) ∈ gtb := gtb_of (mt6 (i := 35) rfl) rfl
theorem q6_36 : (Jvm.Cond.code ({ cls := "TuneSchoolModel", name := "transpose", desc := "(II)I" } : Jvm.MethodName) prog_14_method_22_code (7 : Nat) (Option.some Jvm.ClassFile.FieldType.int)) ∈ gtb := gtb_of (mt6 (i := 36) rfl) rfl
theorem q6_37 : (Jvm.Cond.methodLink "TuneSchoolLaw" (57 : Nat) ({ cls := "TuneSchoolModel", name := "copy", desc := "(IIIII)I" } : Jvm.MethodName)) ∈ gtb := gtb_of (mt6 (i := 37) rfl) rfl
theorem q6_38 : (Jvm.Cond.instanceMethod ({ cls := "TuneSchoolModel", name := "copy", desc := "(IIIII)I" } : Jvm.MethodName)) ∈ gtb := gtb_of (mt6 (i := 38) rfl) rfl
theorem q6_39 : (Jvm.Cond.selects "TuneSchoolModel" ({ cls := "TuneSchoolModel", name := "copy", desc := "(IIIII)I" } : Jvm.MethodName) ({ cls := "TuneSchoolModel", name := "copy", desc := "(IIIII)I" } : Jvm.MethodName)) ∈ gtb := gtb_of (mt6 (i := 39) rfl) rfl
theorem q6_40 : (Jvm.Cond.code ({ cls := "TuneSchoolModel", name := "copy", desc := "(IIIII)I" } : Jvm.MethodName) prog_14_method_24_code (6 : Nat) (Option.some Jvm.ClassFile.FieldType.int)) ∈ gtb := gtb_of (mt6 (i := 40) rfl) rfl
theorem q6_41 : (Jvm.Cond.methodLink "TuneSchoolModel" (177 : Nat) ({ cls := "TuneSchoolModel", name := "copyRow", desc := "(IIIIII)Z" } : Jvm.MethodName)) ∈ gtb := gtb_of (mt6 (i := 41) rfl) rfl
theorem q6_43 : (Jvm.Cond.instanceMethod ({ cls := "TuneSchoolModel", name := "copyRow", desc := "(IIIIII)Z" } : Jvm.MethodName)) ∈ gtb := gtb_of (mt6 (i := 43) rfl) rfl
theorem q6_44 : (Jvm.Cond.code ({ cls := "TuneSchoolModel", name := "copyRow", desc := "(IIIIII)Z" } : Jvm.MethodName) prog_14_method_23_code (10 : Nat) (Option.some Jvm.ClassFile.FieldType.boolean)) ∈ gtb := gtb_of (mt6 (i := 44) rfl) rfl
theorem q6_45 : (Jvm.Cond.methodLink "TuneSchoolLaw" (62 : Nat) ({ cls := "TuneSchoolModel", name := "undo", desc := "()I" } : Jvm.MethodName)) ∈ gtb := gtb_of (mt6 (i := 45) rfl) rfl
theorem q6_46 : (Jvm.Cond.instanceMethod ({ cls := "TuneSchoolModel", name := "undo", desc := "()I" } : Jvm.MethodName)) ∈ gtb := gtb_of (mt6 (i := 46) rfl) rfl
theorem q6_47 : (Jvm.Cond.selects "TuneSchoolModel" ({ cls := "TuneSchoolModel", name := "undo", desc := "()I" } : Jvm.MethodName) ({ cls := "TuneSchoolModel", name := "undo", desc := "()I" } : Jvm.MethodName)) ∈ gtb := gtb_of (mt6 (i := 47) rfl) rfl
theorem q6_48 : (Jvm.Cond.code ({ cls := "TuneSchoolModel", name := "undo", desc := "()I" } : Jvm.MethodName) prog_14_method_25_code (4 : Nat) (Option.some Jvm.ClassFile.FieldType.int)) ∈ gtb := gtb_of (mt6 (i := 48) rfl) rfl
theorem q6_49 : (Jvm.Cond.methodLink "TuneSchoolLaw" (66 : Nat) ({ cls := "TuneSchoolModel", name := "rule", desc := "(II)I" } : Jvm.MethodName)) ∈ gtb := gtb_of (mt6 (i := 49) rfl) rfl
theorem q6_50 : (Jvm.Cond.instanceMethod ({ cls := "TuneSchoolModel", name := "rule", desc := "(II)I" } : Jvm.MethodName)) ∈ gtb := gtb_of (mt6 (i := 50) rfl) rfl
theorem q6_51 : (Jvm.Cond.selects "TuneSchoolModel" ({ cls := "TuneSchoolModel", name := "rule", desc := "(II)I" } : Jvm.MethodName) ({ cls := "TuneSchoolModel", name := "rule", desc := "(II)I" } : Jvm.MethodName)) ∈ gtb := gtb_of (mt6 (i := 51) rfl) rfl
theorem q6_52 : (Jvm.Cond.code ({ cls := "TuneSchoolModel", name := "rule", desc := "(II)I" } : Jvm.MethodName) prog_14_method_26_code (3 : Nat) (Option.some Jvm.ClassFile.FieldType.int)) ∈ gtb := gtb_of (mt6 (i := 52) rfl) rfl
theorem q6_53 : (Jvm.Cond.methodLink "TuneSchoolModel" (181 : Nat) ({ cls := "TuneSchoolModel", name := "isPlace", desc := "(I)Z" } : Jvm.MethodName)) ∈ gtb := gtb_of (mt6 (i := 53) rfl) rfl
theorem q6_54 : (Jvm.Cond.static ({ cls := "TuneSchoolModel", name := "isPlace", desc := "(I)Z" } : Jvm.MethodName)) ∈ gtb := gtb_of (mt6 (i := 54) rfl) rfl
theorem q6_55 : (Jvm.Cond.code ({ cls := "TuneSchoolModel", name := "isPlace", desc := "(I)Z" } : Jvm.MethodName) prog_14_method_5_code (1 : Nat) (Option.some Jvm.ClassFile.FieldType.boolean)) ∈ gtb := gtb_of (mt6 (i := 55) rfl) rfl
theorem q6_56 : (Jvm.Cond.methodLink "TuneSchoolLaw" (70 : Nat) ({ cls := "TuneSchoolModel", name := "school", desc := "(III)I" } : Jvm.MethodName)) ∈ gtb := gtb_of (mt6 (i := 56) rfl) rfl
theorem q6_57 : (Jvm.Cond.instanceMethod ({ cls := "TuneSchoolModel", name := "school", desc := "(III)I" } : Jvm.MethodName)) ∈ gtb := gtb_of (mt6 (i := 57) rfl) rfl
theorem q6_58 : (Jvm.Cond.selects "TuneSchoolModel" ({ cls := "TuneSchoolModel", name := "school", desc := "(III)I" } : Jvm.MethodName) ({ cls := "TuneSchoolModel", name := "school", desc := "(III)I" } : Jvm.MethodName)) ∈ gtb := gtb_of (mt6 (i := 58) rfl) rfl
theorem q6_59 : (Jvm.Cond.code ({ cls := "TuneSchoolModel", name := "school", desc := "(III)I" } : Jvm.MethodName) prog_14_method_27_code (5 : Nat) (Option.some Jvm.ClassFile.FieldType.int)) ∈ gtb := gtb_of (mt6 (i := 59) rfl) rfl
theorem q6_60 : (Jvm.Cond.methodLink "TuneSchoolLaw" (74 : Nat) ({ cls := "TuneSchoolModel", name := "clear", desc := "(I)I" } : Jvm.MethodName)) ∈ gtb := gtb_of (mt6 (i := 60) rfl) rfl
theorem q6_61 : (Jvm.Cond.instanceMethod ({ cls := "TuneSchoolModel", name := "clear", desc := "(I)I" } : Jvm.MethodName)) ∈ gtb := gtb_of (mt6 (i := 61) rfl) rfl
theorem q6_62 : (Jvm.Cond.selects "TuneSchoolModel" ({ cls := "TuneSchoolModel", name := "clear", desc := "(I)I" } : Jvm.MethodName) ({ cls := "TuneSchoolModel", name := "clear", desc := "(I)I" } : Jvm.MethodName)) ∈ gtb := gtb_of (mt6 (i := 62) rfl) rfl
theorem q6_63 : (Jvm.Cond.code ({ cls := "TuneSchoolModel", name := "clear", desc := "(I)I" } : Jvm.MethodName) prog_14_method_28_code (3 : Nat) (Option.some Jvm.ClassFile.FieldType.int)) ∈ gtb := gtb_of (mt6 (i := 63) rfl) rfl
theorem q6_64 : (Jvm.Cond.methodLink "TuneSchoolLaw" (79 : Nat) ({ cls := "TuneSchoolModel", name := "truth", desc := "(IIIZ)I" } : Jvm.MethodName)) ∈ gtb := gtb_of (mt6 (i := 64) rfl) rfl
theorem q6_65 : (Jvm.Cond.instanceMethod ({ cls := "TuneSchoolModel", name := "truth", desc := "(IIIZ)I" } : Jvm.MethodName)) ∈ gtb := gtb_of (mt6 (i := 65) rfl) rfl
theorem q6_66 : (Jvm.Cond.selects "TuneSchoolModel" ({ cls := "TuneSchoolModel", name := "truth", desc := "(IIIZ)I" } : Jvm.MethodName) ({ cls := "TuneSchoolModel", name := "truth", desc := "(IIIZ)I" } : Jvm.MethodName)) ∈ gtb := gtb_of (mt6 (i := 66) rfl) rfl
theorem q6_67 : (Jvm.Cond.code ({ cls := "TuneSchoolModel", name := "truth", desc := "(IIIZ)I" } : Jvm.MethodName) prog_14_method_31_code (6 : Nat) (Option.some Jvm.ClassFile.FieldType.int)) ∈ gtb := gtb_of (mt6 (i := 67) rfl) rfl
theorem q6_68 : (Jvm.Cond.methodLink "TuneSchoolModel" (190 : Nat) ({ cls := "TuneSchoolModel", name := "isOf", desc := "(II)Z" } : Jvm.MethodName)) ∈ gtb := gtb_of (mt6 (i := 68) rfl) rfl
theorem q6_70 : (Jvm.Cond.instanceMethod ({ cls := "TuneSchoolModel", name := "isOf", desc := "(II)Z" } : Jvm.MethodName)) ∈ gtb := gtb_of (mt6 (i := 70) rfl) rfl
theorem q6_71 : (Jvm.Cond.code ({ cls := "TuneSchoolModel", name := "isOf", desc := "(II)Z" } : Jvm.MethodName) prog_14_method_29_code (4 : Nat) (Option.some Jvm.ClassFile.FieldType.boolean)) ∈ gtb := gtb_of (mt6 (i := 71) rfl) rfl
theorem q6_72 : (Jvm.Cond.methodLink "TuneSchoolModel" (194 : Nat) ({ cls := "TuneSchoolModel", name := "told", desc := "([ZIZ)I" } : Jvm.MethodName)) ∈ gtb := gtb_of (mt6 (i := 72) rfl) rfl
theorem q6_74 : (Jvm.Cond.instanceMethod ({ cls := "TuneSchoolModel", name := "told", desc := "([ZIZ)I" } : Jvm.MethodName)) ∈ gtb := gtb_of (mt6 (i := 74) rfl) rfl
theorem q6_75 : (Jvm.Cond.code ({ cls := "TuneSchoolModel", name := "told", desc := "([ZIZ)I" } : Jvm.MethodName) prog_14_method_30_code (5 : Nat) (Option.some Jvm.ClassFile.FieldType.int)) ∈ gtb := gtb_of (mt6 (i := 75) rfl) rfl
theorem q6_76 : (Jvm.Cond.methodLink "TuneSchoolLaw" (83 : Nat) ({ cls := "TuneSchoolModel", name := "is", desc := "(II)I" } : Jvm.MethodName)) ∈ gtb := gtb_of (mt6 (i := 76) rfl) rfl
theorem q6_77 : (Jvm.Cond.instanceMethod ({ cls := "TuneSchoolModel", name := "is", desc := "(II)I" } : Jvm.MethodName)) ∈ gtb := gtb_of (mt6 (i := 77) rfl) rfl
theorem q6_78 : (Jvm.Cond.selects "TuneSchoolModel" ({ cls := "TuneSchoolModel", name := "is", desc := "(II)I" } : Jvm.MethodName) ({ cls := "TuneSchoolModel", name := "is", desc := "(II)I" } : Jvm.MethodName)) ∈ gtb := gtb_of (mt6 (i := 78) rfl) rfl
theorem q6_79 : (Jvm.Cond.code ({ cls := "TuneSchoolModel", name := "is", desc := "(II)I" } : Jvm.MethodName) prog_14_method_32_code (4 : Nat) (Option.some Jvm.ClassFile.FieldType.int)) ∈ gtb := gtb_of (mt6 (i := 79) rfl) rfl
theorem q6_80 : (Jvm.Cond.methodLink "TuneSchoolLaw" (87 : Nat) ({ cls := "TuneSchoolModel", name := "seat", desc := "(III)I" } : Jvm.MethodName)) ∈ gtb := gtb_of (mt6 (i := 80) rfl) rfl
theorem q6_81 : (Jvm.Cond.instanceMethod ({ cls := "TuneSchoolModel", name := "seat", desc := "(III)I" } : Jvm.MethodName)) ∈ gtb := gtb_of (mt6 (i := 81) rfl) rfl
theorem q6_82 : (Jvm.Cond.selects "TuneSchoolModel" ({ cls := "TuneSchoolModel", name := "seat", desc := "(III)I" } : Jvm.MethodName) ({ cls := "TuneSchoolModel", name := "seat", desc := "(III)I" } : Jvm.MethodName)) ∈ gtb := gtb_of (mt6 (i := 82) rfl) rfl
theorem q6_83 : (Jvm.Cond.code ({ cls := "TuneSchoolModel", name := "seat", desc := "(III)I" } : Jvm.MethodName) prog_14_method_33_code (6 : Nat) (Option.some Jvm.ClassFile.FieldType.int)) ∈ gtb := gtb_of (mt6 (i := 83) rfl) rfl
theorem q6_84 : (Jvm.Cond.methodLink "TuneSchoolLaw" (91 : Nat) ({ cls := "TuneSchoolModel", name := "seated", desc := "(II)I" } : Jvm.MethodName)) ∈ gtb := gtb_of (mt6 (i := 84) rfl) rfl
theorem q6_85 : (Jvm.Cond.instanceMethod ({ cls := "TuneSchoolModel", name := "seated", desc := "(II)I" } : Jvm.MethodName)) ∈ gtb := gtb_of (mt6 (i := 85) rfl) rfl
theorem q6_86 : (Jvm.Cond.selects "TuneSchoolModel" ({ cls := "TuneSchoolModel", name := "seated", desc := "(II)I" } : Jvm.MethodName) ({ cls := "TuneSchoolModel", name := "seated", desc := "(II)I" } : Jvm.MethodName)) ∈ gtb := gtb_of (mt6 (i := 86) rfl) rfl
theorem q6_87 : (Jvm.Cond.code ({ cls := "TuneSchoolModel", name := "seated", desc := "(II)I" } : Jvm.MethodName) prog_14_method_34_code (4 : Nat) (Option.some Jvm.ClassFile.FieldType.int)) ∈ gtb := gtb_of (mt6 (i := 87) rfl) rfl
theorem q6_88 : (Jvm.Cond.methodLink "TuneSchoolLaw" (95 : Nat) ({ cls := "TuneSchoolModel", name := "strong", desc := "(I)I" } : Jvm.MethodName)) ∈ gtb := gtb_of (mt6 (i := 88) rfl) rfl
theorem q6_89 : (Jvm.Cond.instanceMethod ({ cls := "TuneSchoolModel", name := "strong", desc := "(I)I" } : Jvm.MethodName)) ∈ gtb := gtb_of (mt6 (i := 89) rfl) rfl
theorem q6_90 : (Jvm.Cond.selects "TuneSchoolModel" ({ cls := "TuneSchoolModel", name := "strong", desc := "(I)I" } : Jvm.MethodName) ({ cls := "TuneSchoolModel", name := "strong", desc := "(I)I" } : Jvm.MethodName)) ∈ gtb := gtb_of (mt6 (i := 90) rfl) rfl
theorem q6_91 : (Jvm.Cond.code ({ cls := "TuneSchoolModel", name := "strong", desc := "(I)I" } : Jvm.MethodName) prog_14_method_35_code (3 : Nat) (Option.some Jvm.ClassFile.FieldType.int)) ∈ gtb := gtb_of (mt6 (i := 91) rfl) rfl
theorem q6_92 : (Jvm.Cond.methodLink "TuneSchoolLaw" (99 : Nat) ({ cls := "TuneSchoolModel", name := "key", desc := "(I)I" } : Jvm.MethodName)) ∈ gtb := gtb_of (mt6 (i := 92) rfl) rfl
theorem q6_93 : (Jvm.Cond.instanceMethod ({ cls := "TuneSchoolModel", name := "key", desc := "(I)I" } : Jvm.MethodName)) ∈ gtb := gtb_of (mt6 (i := 93) rfl) rfl
theorem q6_94 : (Jvm.Cond.selects "TuneSchoolModel" ({ cls := "TuneSchoolModel", name := "key", desc := "(I)I" } : Jvm.MethodName) ({ cls := "TuneSchoolModel", name := "key", desc := "(I)I" } : Jvm.MethodName)) ∈ gtb := gtb_of (mt6 (i := 94) rfl) rfl
theorem q6_95 : (Jvm.Cond.code ({ cls := "TuneSchoolModel", name := "key", desc := "(I)I" } : Jvm.MethodName) prog_14_method_36_code (3 : Nat) (Option.some Jvm.ClassFile.FieldType.int)) ∈ gtb := gtb_of (mt6 (i := 95) rfl) rfl
theorem q6_96 : (Jvm.Cond.methodLink "TuneSchoolLaw" (103 : Nat) ({ cls := "TuneSchoolModel", name := "weight", desc := "(II)I" } : Jvm.MethodName)) ∈ gtb := gtb_of (mt6 (i := 96) rfl) rfl
theorem q6_97 : (Jvm.Cond.instanceMethod ({ cls := "TuneSchoolModel", name := "weight", desc := "(II)I" } : Jvm.MethodName)) ∈ gtb := gtb_of (mt6 (i := 97) rfl) rfl
theorem q6_98 : (Jvm.Cond.selects "TuneSchoolModel" ({ cls := "TuneSchoolModel", name := "weight", desc := "(II)I" } : Jvm.MethodName) ({ cls := "TuneSchoolModel", name := "weight", desc := "(II)I" } : Jvm.MethodName)) ∈ gtb := gtb_of (mt6 (i := 98) rfl) rfl
theorem q6_99 : (Jvm.Cond.code ({ cls := "TuneSchoolModel", name := "weight", desc := "(II)I" } : Jvm.MethodName) prog_14_method_37_code (4 : Nat) (Option.some Jvm.ClassFile.FieldType.int)) ∈ gtb := gtb_of (mt6 (i := 99) rfl) rfl
theorem q6_100 : (Jvm.Cond.methodLink "TuneSchoolLaw" (107 : Nat) ({ cls := "TuneSchoolModel", name := "faults", desc := "(I)I" } : Jvm.MethodName)) ∈ gtb := gtb_of (mt6 (i := 100) rfl) rfl
theorem q6_101 : (Jvm.Cond.instanceMethod ({ cls := "TuneSchoolModel", name := "faults", desc := "(I)I" } : Jvm.MethodName)) ∈ gtb := gtb_of (mt6 (i := 101) rfl) rfl
theorem q6_102 : (Jvm.Cond.selects "TuneSchoolModel" ({ cls := "TuneSchoolModel", name := "faults", desc := "(I)I" } : Jvm.MethodName) ({ cls := "TuneSchoolModel", name := "faults", desc := "(I)I" } : Jvm.MethodName)) ∈ gtb := gtb_of (mt6 (i := 102) rfl) rfl
theorem q6_103 : (Jvm.Cond.code ({ cls := "TuneSchoolModel", name := "faults", desc := "(I)I" } : Jvm.MethodName) prog_14_method_50_code (6 : Nat) (Option.some Jvm.ClassFile.FieldType.int)) ∈ gtb := gtb_of (mt6 (i := 103) rfl) rfl
theorem q6_104 : (Jvm.Cond.methodLink "TuneSchoolModel" (238 : Nat) ({ cls := "TuneSchoolModel", name := "beginTrace", desc := "()V" } : Jvm.MethodName)) ∈ gtb := gtb_of (mt6 (i := 104) rfl) rfl
theorem q6_106 : (Jvm.Cond.instanceMethod ({ cls := "TuneSchoolModel", name := "beginTrace", desc := "()V" } : Jvm.MethodName)) ∈ gtb := gtb_of (mt6 (i := 106) rfl) rfl
theorem q6_107 : (Jvm.Cond.code ({ cls := "TuneSchoolModel", name := "beginTrace", desc := "()V" } : Jvm.MethodName) prog_14_method_38_code (1 : Nat) (Option.none : Option Jvm.ClassFile.FieldType)) ∈ gtb := gtb_of (mt6 (i := 107) rfl) rfl
theorem q6_108 : (Jvm.Cond.methodLink "TuneSchoolModel" (241 : Nat) ({ cls := "TuneSchoolModel", name := "pair", desc := "(II)V" } : Jvm.MethodName)) ∈ gtb := gtb_of (mt6 (i := 108) rfl) rfl
theorem q6_110 : (Jvm.Cond.instanceMethod ({ cls := "TuneSchoolModel", name := "pair", desc := "(II)V" } : Jvm.MethodName)) ∈ gtb := gtb_of (mt6 (i := 110) rfl) rfl
theorem q6_111 : (Jvm.Cond.code ({ cls := "TuneSchoolModel", name := "pair", desc := "(II)V" } : Jvm.MethodName) prog_14_method_40_code (4 : Nat) (Option.none : Option Jvm.ClassFile.FieldType)) ∈ gtb := gtb_of (mt6 (i := 111) rfl) rfl
theorem q6_112 : (Jvm.Cond.methodLink "TuneSchoolModel" (251 : Nat) ({ cls := "TuneSchoolModel", name := "look", desc := "(IIII)V" } : Jvm.MethodName)) ∈ gtb := gtb_of (mt6 (i := 112) rfl) rfl
theorem q6_114 : (Jvm.Cond.instanceMethod ({ cls := "TuneSchoolModel", name := "look", desc := "(IIII)V" } : Jvm.MethodName)) ∈ gtb := gtb_of (mt6 (i := 114) rfl) rfl
theorem q6_115 : (Jvm.Cond.code ({ cls := "TuneSchoolModel", name := "look", desc := "(IIII)V" } : Jvm.MethodName) prog_14_method_51_code (7 : Nat) (Option.none : Option Jvm.ClassFile.FieldType)) ∈ gtb := gtb_of (mt6 (i := 115) rfl) rfl
theorem q6_116 : (Jvm.Cond.methodLink "TuneSchoolModel" (255 : Nat) ({ cls := "TuneSchoolModel", name := "askedAt", desc := "(I)I" } : Jvm.MethodName)) ∈ gtb := gtb_of (mt6 (i := 116) rfl) rfl
theorem q6_118 : (Jvm.Cond.instanceMethod ({ cls := "TuneSchoolModel", name := "askedAt", desc := "(I)I" } : Jvm.MethodName)) ∈ gtb := gtb_of (mt6 (i := 118) rfl) rfl
theorem q6_119 : (Jvm.Cond.code ({ cls := "TuneSchoolModel", name := "askedAt", desc := "(I)I" } : Jvm.MethodName) prog_14_method_47_code (2 : Nat) (Option.some Jvm.ClassFile.FieldType.int)) ∈ gtb := gtb_of (mt6 (i := 119) rfl) rfl
theorem q6_120 : (Jvm.Cond.methodLink "TuneSchoolModel" (258 : Nat) ({ cls := "TuneSchoolModel", name := "ruleAt", desc := "(II)I" } : Jvm.MethodName)) ∈ gtb := gtb_of (mt6 (i := 120) rfl) rfl
theorem q6_122 : (Jvm.Cond.instanceMethod ({ cls := "TuneSchoolModel", name := "ruleAt", desc := "(II)I" } : Jvm.MethodName)) ∈ gtb := gtb_of (mt6 (i := 122) rfl) rfl
theorem q6_123 : (Jvm.Cond.code ({ cls := "TuneSchoolModel", name := "ruleAt", desc := "(II)I" } : Jvm.MethodName) prog_14_method_48_code (3 : Nat) (Option.some Jvm.ClassFile.FieldType.int)) ∈ gtb := gtb_of (mt6 (i := 123) rfl) rfl
theorem q6_124 : (Jvm.Cond.methodLink "TuneSchoolModel" (261 : Nat) ({ cls := "TuneSchoolModel", name := "asks", desc := "(II)Z" } : Jvm.MethodName)) ∈ gtb := gtb_of (mt6 (i := 124) rfl) rfl
theorem q6_126 : (Jvm.Cond.instanceMethod ({ cls := "TuneSchoolModel", name := "asks", desc := "(II)Z" } : Jvm.MethodName)) ∈ gtb := gtb_of (mt6 (i := 126) rfl) rfl
theorem q6_127 : (Jvm.Cond.code ({ cls := "TuneSchoolModel", name := "asks", desc := "(II)Z" } : Jvm.MethodName) prog_14_method_49_code (3 : Nat) (Option.some Jvm.ClassFile.FieldType.boolean)) ∈ gtb := gtb_of (mt6 (i := 127) rfl) rfl
theorem q6_128 : (Jvm.Cond.methodLink "TuneSchoolModel" (232 : Nat) ({ cls := "TuneSchoolModel", name := "listens", desc := "(I)Z" } : Jvm.MethodName)) ∈ gtb := gtb_of (mt6 (i := 128) rfl) rfl
theorem q6_130 : (Jvm.Cond.instanceMethod ({ cls := "TuneSchoolModel", name := "listens", desc := "(I)Z" } : Jvm.MethodName)) ∈ gtb := gtb_of (mt6 (i := 130) rfl) rfl
theorem q6_131 : (Jvm.Cond.code ({ cls := "TuneSchoolModel", name := "listens", desc := "(I)Z" } : Jvm.MethodName) prog_14_method_46_code (3 : Nat) (Option.some Jvm.ClassFile.FieldType.boolean)) ∈ gtb := gtb_of (mt6 (i := 131) rfl) rfl
theorem q6_132 : (Jvm.Cond.methodLink "TuneSchoolModel" (213 : Nat) ({ cls := "TuneSchoolModel", name := "tell", desc := "(I)V" } : Jvm.MethodName)) ∈ gtb := gtb_of (mt6 (i := 132) rfl) rfl
theorem q6_134 : (Jvm.Cond.instanceMethod ({ cls := "TuneSchoolModel", name := "tell", desc := "(I)V" } : Jvm.MethodName)) ∈ gtb := gtb_of (mt6 (i := 134) rfl) rfl
theorem q6_135 : (Jvm.Cond.code ({ cls := "TuneSchoolModel", name := "tell", desc := "(I)V" } : Jvm.MethodName) prog_14_method_39_code (2 : Nat) (Option.none : Option Jvm.ClassFile.FieldType)) ∈ gtb := gtb_of (mt6 (i := 135) rfl) rfl
theorem q6_136 : (Jvm.Cond.methodLink "TuneSchoolModel" (235 : Nat) ({ cls := "TuneSchoolModel", name := "hasFault", desc := "(IIII)Z" } : Jvm.MethodName)) ∈ gtb := gtb_of (mt6 (i := 136) rfl) rfl
theorem q6_138 : (Jvm.Cond.instanceMethod ({ cls := "TuneSchoolModel", name := "hasFault", desc := "(IIII)Z" } : Jvm.MethodName)) ∈ gtb := gtb_of (mt6 (i := 138) rfl) rfl
theorem q6_139 : (Jvm.Cond.code ({ cls := "TuneSchoolModel", name := "hasFault", desc := "(IIII)Z" } : Jvm.MethodName) prog_14_method_45_code (5 : Nat) (Option.some Jvm.ClassFile.FieldType.boolean)) ∈ gtb := gtb_of (mt6 (i := 139) rfl) rfl
theorem q6_140 : (Jvm.Cond.methodLink "TuneSchoolModel" (219 : Nat) ({ cls := "TuneSchoolModel", name := "byInterval", desc := "(IIII)Z" } : Jvm.MethodName)) ∈ gtb := gtb_of (mt6 (i := 140) rfl) rfl
theorem q6_142 : (Jvm.Cond.instanceMethod ({ cls := "TuneSchoolModel", name := "byInterval", desc := "(IIII)Z" } : Jvm.MethodName)) ∈ gtb := gtb_of (mt6 (i := 142) rfl) rfl
theorem q6_143 : (Jvm.Cond.code ({ cls := "TuneSchoolModel", name := "byInterval", desc := "(IIII)Z" } : Jvm.MethodName) prog_14_method_41_code (5 : Nat) (Option.some Jvm.ClassFile.FieldType.boolean)) ∈ gtb := gtb_of (mt6 (i := 143) rfl) rfl
theorem q6_144 : (Jvm.Cond.methodLink "TuneSchoolModel" (216 : Nat) ({ cls := "TuneSchoolModel", name := "distance", desc := "(II)I" } : Jvm.MethodName)) ∈ gtb := gtb_of (mt6 (i := 144) rfl) rfl
theorem q6_145 : (Jvm.Cond.static ({ cls := "TuneSchoolModel", name := "distance", desc := "(II)I" } : Jvm.MethodName)) ∈ gtb := gtb_of (mt6 (i := 145) rfl) rfl
theorem q6_146 : (Jvm.Cond.code ({ cls := "TuneSchoolModel", name := "distance", desc := "(II)I" } : Jvm.MethodName) prog_14_method_7_code (2 : Nat) (Option.some Jvm.ClassFile.FieldType.int)) ∈ gtb := gtb_of (mt6 (i := 146) rfl) rfl
theorem q6_147 : (Jvm.Cond.methodLink "TuneSchoolModel" (223 : Nat) ({ cls := "TuneSchoolModel", name := "byMotion", desc := "(IIII)Z" } : Jvm.MethodName)) ∈ gtb := gtb_of (mt6 (i := 147) rfl) rfl
theorem q6_149 : (Jvm.Cond.instanceMethod ({ cls := "TuneSchoolModel", name := "byMotion", desc := "(IIII)Z" } : Jvm.MethodName)) ∈ gtb := gtb_of (mt6 (i := 149) rfl) rfl
theorem q6_150 : (Jvm.Cond.code ({ cls := "TuneSchoolModel", name := "byMotion", desc := "(IIII)Z" } : Jvm.MethodName) prog_14_method_42_code (10 : Nat) (Option.some Jvm.ClassFile.FieldType.boolean)) ∈ gtb := gtb_of (mt6 (i := 150) rfl) rfl
theorem q6_151 : (Jvm.Cond.methodLink "TuneSchoolModel" (226 : Nat) ({ cls := "TuneSchoolModel", name := "byLeap", desc := "(III)Z" } : Jvm.MethodName)) ∈ gtb := gtb_of (mt6 (i := 151) rfl) rfl
theorem q6_153 : (Jvm.Cond.instanceMethod ({ cls := "TuneSchoolModel", name := "byLeap", desc := "(III)Z" } : Jvm.MethodName)) ∈ gtb := gtb_of (mt6 (i := 153) rfl) rfl
theorem q6_154 : (Jvm.Cond.code ({ cls := "TuneSchoolModel", name := "byLeap", desc := "(III)Z" } : Jvm.MethodName) prog_14_method_44_code (9 : Nat) (Option.some Jvm.ClassFile.FieldType.boolean)) ∈ gtb := gtb_of (mt6 (i := 154) rfl) rfl
theorem q6_155 : (Jvm.Cond.methodLink "TuneSchoolModel" (229 : Nat) ({ cls := "TuneSchoolModel", name := "byCadence", desc := "(IIII)Z" } : Jvm.MethodName)) ∈ gtb := gtb_of (mt6 (i := 155) rfl) rfl
theorem q6_157 : (Jvm.Cond.instanceMethod ({ cls := "TuneSchoolModel", name := "byCadence", desc := "(IIII)Z" } : Jvm.MethodName)) ∈ gtb := gtb_of (mt6 (i := 157) rfl) rfl
theorem q6_158 : (Jvm.Cond.code ({ cls := "TuneSchoolModel", name := "byCadence", desc := "(IIII)Z" } : Jvm.MethodName) prog_14_method_43_code (5 : Nat) (Option.some Jvm.ClassFile.FieldType.boolean)) ∈ gtb := gtb_of (mt6 (i := 158) rfl) rfl
theorem q6_159 : (Jvm.Cond.methodLink "TuneSchoolLaw" (111 : Nat) ({ cls := "TuneSchoolModel", name := "fault", desc := "(II)I" } : Jvm.MethodName)) ∈ gtb := gtb_of (mt6 (i := 159) rfl) rfl
theorem q6_160 : (Jvm.Cond.instanceMethod ({ cls := "TuneSchoolModel", name := "fault", desc := "(II)I" } : Jvm.MethodName)) ∈ gtb := gtb_of (mt6 (i := 160) rfl) rfl
theorem q6_161 : (Jvm.Cond.selects "TuneSchoolModel" ({ cls := "TuneSchoolModel", name := "fault", desc := "(II)I" } : Jvm.MethodName) ({ cls := "TuneSchoolModel", name := "fault", desc := "(II)I" } : Jvm.MethodName)) ∈ gtb := gtb_of (mt6 (i := 161) rfl) rfl
theorem q6_162 : (Jvm.Cond.code ({ cls := "TuneSchoolModel", name := "fault", desc := "(II)I" } : Jvm.MethodName) prog_14_method_52_code (3 : Nat) (Option.some Jvm.ClassFile.FieldType.int)) ∈ gtb := gtb_of (mt6 (i := 162) rfl) rfl
theorem q6_163 : (Jvm.Cond.methodLink "TuneSchoolLaw" (115 : Nat) ({ cls := "TuneSchoolModel", name := "mend", desc := "(I)I" } : Jvm.MethodName)) ∈ gtb := gtb_of (mt6 (i := 163) rfl) rfl
theorem q6_164 : (Jvm.Cond.instanceMethod ({ cls := "TuneSchoolModel", name := "mend", desc := "(I)I" } : Jvm.MethodName)) ∈ gtb := gtb_of (mt6 (i := 164) rfl) rfl
theorem q6_165 : (Jvm.Cond.selects "TuneSchoolModel" ({ cls := "TuneSchoolModel", name := "mend", desc := "(I)I" } : Jvm.MethodName) ({ cls := "TuneSchoolModel", name := "mend", desc := "(I)I" } : Jvm.MethodName)) ∈ gtb := gtb_of (mt6 (i := 165) rfl) rfl
theorem q6_166 : (Jvm.Cond.code ({ cls := "TuneSchoolModel", name := "mend", desc := "(I)I" } : Jvm.MethodName) prog_14_method_54_code (8 : Nat) (Option.some Jvm.ClassFile.FieldType.int)) ∈ gtb := gtb_of (mt6 (i := 166) rfl) rfl
theorem q6_167 : (Jvm.Cond.methodLink "TuneSchoolModel" (264 : Nat) ({ cls := "TuneSchoolModel", name := "nearest", desc := "(IIII)I" } : Jvm.MethodName)) ∈ gtb := gtb_of (mt6 (i := 167) rfl) rfl
theorem q6_169 : (Jvm.Cond.instanceMethod ({ cls := "TuneSchoolModel", name := "nearest", desc := "(IIII)I" } : Jvm.MethodName)) ∈ gtb := gtb_of (mt6 (i := 169) rfl) rfl
theorem q6_170 : (Jvm.Cond.code ({ cls := "TuneSchoolModel", name := "nearest", desc := "(IIII)I" } : Jvm.MethodName) prog_14_method_53_code (6 : Nat) (Option.some Jvm.ClassFile.FieldType.int)) ∈ gtb := gtb_of (mt6 (i := 170) rfl) rfl
theorem q6_171 : (Jvm.Cond.methodLink "TuneSchoolLaw" (119 : Nat) ({ cls := "TuneSchoolModel", name := "canon", desc := "(IIIII)I" } : Jvm.MethodName)) ∈ gtb := gtb_of (mt6 (i := 171) rfl) rfl
theorem q6_172 : (Jvm.Cond.instanceMethod ({ cls := "TuneSchoolModel", name := "canon", desc := "(IIIII)I" } : Jvm.MethodName)) ∈ gtb := gtb_of (mt6 (i := 172) rfl) rfl
theorem q6_173 : (Jvm.Cond.selects "TuneSchoolModel" ({ cls := "TuneSchoolModel", name := "canon", desc := "(IIIII)I" } : Jvm.MethodName) ({ cls := "TuneSchoolModel", name := "canon", desc := "(IIIII)I" } : Jvm.MethodName)) ∈ gtb := gtb_of (mt6 (i := 173) rfl) rfl
theorem q6_174 : (Jvm.Cond.code ({ cls := "TuneSchoolModel", name := "canon", desc := "(IIIII)I" } : Jvm.MethodName) prog_14_method_58_code (7 : Nat) (Option.some Jvm.ClassFile.FieldType.int)) ∈ gtb := gtb_of (mt6 (i := 174) rfl) rfl
theorem q6_175 : (Jvm.Cond.methodLink "TuneSchoolModel" (272 : Nat) ({ cls := "TuneSchoolModel", name := "againstCanon", desc := "(II)I" } : Jvm.MethodName)) ∈ gtb := gtb_of (mt6 (i := 175) rfl) rfl
theorem q6_177 : (Jvm.Cond.instanceMethod ({ cls := "TuneSchoolModel", name := "againstCanon", desc := "(II)I" } : Jvm.MethodName)) ∈ gtb := gtb_of (mt6 (i := 177) rfl) rfl
theorem q6_178 : (Jvm.Cond.code ({ cls := "TuneSchoolModel", name := "againstCanon", desc := "(II)I" } : Jvm.MethodName) prog_14_method_57_code (4 : Nat) (Option.some Jvm.ClassFile.FieldType.int)) ∈ gtb := gtb_of (mt6 (i := 178) rfl) rfl
theorem q6_179 : (Jvm.Cond.methodLink "TuneSchoolModel" (275 : Nat) ({ cls := "TuneSchoolModel", name := "firstFault", desc := "(IIIII)I" } : Jvm.MethodName)) ∈ gtb := gtb_of (mt6 (i := 179) rfl) rfl
theorem q6_181 : (Jvm.Cond.instanceMethod ({ cls := "TuneSchoolModel", name := "firstFault", desc := "(IIIII)I" } : Jvm.MethodName)) ∈ gtb := gtb_of (mt6 (i := 181) rfl) rfl
theorem q6_182 : (Jvm.Cond.code ({ cls := "TuneSchoolModel", name := "firstFault", desc := "(IIIII)I" } : Jvm.MethodName) prog_14_method_56_code (8 : Nat) (Option.some Jvm.ClassFile.FieldType.int)) ∈ gtb := gtb_of (mt6 (i := 182) rfl) rfl
theorem q6_183 : (Jvm.Cond.methodLink "TuneSchoolModel" (268 : Nat) ({ cls := "TuneSchoolModel", name := "followed", desc := "(IIIII)I" } : Jvm.MethodName)) ∈ gtb := gtb_of (mt6 (i := 183) rfl) rfl
theorem q6_185 : (Jvm.Cond.instanceMethod ({ cls := "TuneSchoolModel", name := "followed", desc := "(IIIII)I" } : Jvm.MethodName)) ∈ gtb := gtb_of (mt6 (i := 185) rfl) rfl
theorem q6_186 : (Jvm.Cond.code ({ cls := "TuneSchoolModel", name := "followed", desc := "(IIIII)I" } : Jvm.MethodName) prog_14_method_55_code (11 : Nat) (Option.some Jvm.ClassFile.FieldType.int)) ∈ gtb := gtb_of (mt6 (i := 186) rfl) rfl
theorem q6_187 : (Jvm.Cond.methodLink "TuneSchoolLaw" (123 : Nat) ({ cls := "TuneSchoolModel", name := "canons", desc := "(IIII)I" } : Jvm.MethodName)) ∈ gtb := gtb_of (mt6 (i := 187) rfl) rfl
theorem q6_188 : (Jvm.Cond.instanceMethod ({ cls := "TuneSchoolModel", name := "canons", desc := "(IIII)I" } : Jvm.MethodName)) ∈ gtb := gtb_of (mt6 (i := 188) rfl) rfl
theorem q6_189 : (Jvm.Cond.selects "TuneSchoolModel" ({ cls := "TuneSchoolModel", name := "canons", desc := "(IIII)I" } : Jvm.MethodName) ({ cls := "TuneSchoolModel", name := "canons", desc := "(IIII)I" } : Jvm.MethodName)) ∈ gtb := gtb_of (mt6 (i := 189) rfl) rfl
theorem q6_190 : (Jvm.Cond.code ({ cls := "TuneSchoolModel", name := "canons", desc := "(IIII)I" } : Jvm.MethodName) prog_14_method_59_code (8 : Nat) (Option.some Jvm.ClassFile.FieldType.int)) ∈ gtb := gtb_of (mt6 (i := 190) rfl) rfl
theorem q6_191 : (Jvm.Cond.methodLink "TuneSchoolLaw" (127 : Nat) ({ cls := "TuneSchoolModel", name := "follows", desc := "(IIIII)I" } : Jvm.MethodName)) ∈ gtb := gtb_of (mt6 (i := 191) rfl) rfl
theorem q6_192 : (Jvm.Cond.instanceMethod ({ cls := "TuneSchoolModel", name := "follows", desc := "(IIIII)I" } : Jvm.MethodName)) ∈ gtb := gtb_of (mt6 (i := 192) rfl) rfl
theorem q6_193 : (Jvm.Cond.selects "TuneSchoolModel" ({ cls := "TuneSchoolModel", name := "follows", desc := "(IIIII)I" } : Jvm.MethodName) ({ cls := "TuneSchoolModel", name := "follows", desc := "(IIIII)I" } : Jvm.MethodName)) ∈ gtb := gtb_of (mt6 (i := 193) rfl) rfl
theorem q6_194 : (Jvm.Cond.code ({ cls := "TuneSchoolModel", name := "follows", desc := "(IIIII)I" } : Jvm.MethodName) prog_14_method_60_code (7 : Nat) (Option.some Jvm.ClassFile.FieldType.int)) ∈ gtb := gtb_of (mt6 (i := 194) rfl) rfl
theorem q6_195 : (Jvm.Cond.methodLink "TuneSchoolLaw" (132 : Nat) ({ cls := "TuneSchoolModel", name := "set", desc := "(IIIZIII)I" } : Jvm.MethodName)) ∈ gtb := gtb_of (mt6 (i := 195) rfl) rfl
theorem q6_196 : (Jvm.Cond.instanceMethod ({ cls := "TuneSchoolModel", name := "set", desc := "(IIIZIII)I" } : Jvm.MethodName)) ∈ gtb := gtb_of (mt6 (i := 196) rfl) rfl
theorem q6_197 : (Jvm.Cond.selects "TuneSchoolModel" ({ cls := "TuneSchoolModel", name := "set", desc := "(IIIZIII)I" } : Jvm.MethodName) ({ cls := "TuneSchoolModel", name := "set", desc := "(IIIZIII)I" } : Jvm.MethodName)) ∈ gtb := gtb_of (mt6 (i := 197) rfl) rfl
theorem q6_198 : (Jvm.Cond.code ({ cls := "TuneSchoolModel", name := "set", desc := "(IIIZIII)I" } : Jvm.MethodName) prog_14_method_75_code (11 : Nat) (Option.some Jvm.ClassFile.FieldType.int)) ∈ gtb := gtb_of (mt6 (i := 198) rfl) rfl
theorem q6_199 : (Jvm.Cond.methodLink "TuneSchoolModel" (367 : Nat) ({ cls := "TuneSchoolModel", name := "goesOn", desc := "(I)I" } : Jvm.MethodName)) ∈ gtb := gtb_of (mt6 (i := 199) rfl) rfl
theorem q6_201 : (Jvm.Cond.instanceMethod ({ cls := "TuneSchoolModel", name := "goesOn", desc := "(I)I" } : Jvm.MethodName)) ∈ gtb := gtb_of (mt6 (i := 201) rfl) rfl
theorem q6_202 : (Jvm.Cond.code ({ cls := "TuneSchoolModel", name := "goesOn", desc := "(I)I" } : Jvm.MethodName) prog_14_method_77_code (4 : Nat) (Option.some Jvm.ClassFile.FieldType.int)) ∈ gtb := gtb_of (mt6 (i := 202) rfl) rfl
theorem q6_203 : (Jvm.Cond.methodLink "TuneSchoolModel" (370 : Nat) ({ cls := "TuneSchoolModel", name := "laySetting", desc := "()V" } : Jvm.MethodName)) ∈ gtb := gtb_of (mt6 (i := 203) rfl) rfl
theorem q6_205 : (Jvm.Cond.instanceMethod ({ cls := "TuneSchoolModel", name := "laySetting", desc := "()V" } : Jvm.MethodName)) ∈ gtb := gtb_of (mt6 (i := 205) rfl) rfl
theorem q6_206 : (Jvm.Cond.code ({ cls := "TuneSchoolModel", name := "laySetting", desc := "()V" } : Jvm.MethodName) prog_14_method_65_code (4 : Nat) (Option.none : Option Jvm.ClassFile.FieldType)) ∈ gtb := gtb_of (mt6 (i := 206) rfl) rfl
theorem q6_207 : (Jvm.Cond.methodLink "TuneSchoolModel" (373 : Nat) ({ cls := "TuneSchoolModel", name := "work", desc := "(I)V" } : Jvm.MethodName)) ∈ gtb := gtb_of (mt6 (i := 207) rfl) rfl
theorem q6_209 : (Jvm.Cond.instanceMethod ({ cls := "TuneSchoolModel", name := "work", desc := "(I)V" } : Jvm.MethodName)) ∈ gtb := gtb_of (mt6 (i := 209) rfl) rfl
theorem q6_210 : (Jvm.Cond.code ({ cls := "TuneSchoolModel", name := "work", desc := "(I)V" } : Jvm.MethodName) prog_14_method_72_code (4 : Nat) (Option.none : Option Jvm.ClassFile.FieldType)) ∈ gtb := gtb_of (mt6 (i := 210) rfl) rfl
theorem q6_211 : (Jvm.Cond.methodLink "TuneSchoolModel" (284 : Nat) ({ cls := "TuneSchoolModel", name := "isHeard", desc := "(I)Z" } : Jvm.MethodName)) ∈ gtb := gtb_of (mt6 (i := 211) rfl) rfl
theorem q6_213 : (Jvm.Cond.instanceMethod ({ cls := "TuneSchoolModel", name := "isHeard", desc := "(I)Z" } : Jvm.MethodName)) ∈ gtb := gtb_of (mt6 (i := 213) rfl) rfl
theorem q6_214 : (Jvm.Cond.code ({ cls := "TuneSchoolModel", name := "isHeard", desc := "(I)Z" } : Jvm.MethodName) prog_14_method_62_code (2 : Nat) (Option.some Jvm.ClassFile.FieldType.boolean)) ∈ gtb := gtb_of (mt6 (i := 214) rfl) rfl
theorem q6_215 : (Jvm.Cond.methodLink "TuneSchoolModel" (333 : Nat) ({ cls := "TuneSchoolModel", name := "fit", desc := "(I)V" } : Jvm.MethodName)) ∈ gtb := gtb_of (mt6 (i := 215) rfl) rfl
theorem q6_217 : (Jvm.Cond.instanceMethod ({ cls := "TuneSchoolModel", name := "fit", desc := "(I)V" } : Jvm.MethodName)) ∈ gtb := gtb_of (mt6 (i := 217) rfl) rfl
theorem q6_218 : (Jvm.Cond.code ({ cls := "TuneSchoolModel", name := "fit", desc := "(I)V" } : Jvm.MethodName) prog_14_method_71_code (6 : Nat) (Option.none : Option Jvm.ClassFile.FieldType)) ∈ gtb := gtb_of (mt6 (i := 218) rfl) rfl
theorem q6_219 : (Jvm.Cond.methodLink "TuneSchoolModel" (296 : Nat) ({ cls := "TuneSchoolModel", name := "nextHeard", desc := "(I)I" } : Jvm.MethodName)) ∈ gtb := gtb_of (mt6 (i := 219) rfl) rfl
theorem q6_221 : (Jvm.Cond.instanceMethod ({ cls := "TuneSchoolModel", name := "nextHeard", desc := "(I)I" } : Jvm.MethodName)) ∈ gtb := gtb_of (mt6 (i := 221) rfl) rfl
theorem q6_222 : (Jvm.Cond.code ({ cls := "TuneSchoolModel", name := "nextHeard", desc := "(I)I" } : Jvm.MethodName) prog_14_method_63_code (3 : Nat) (Option.some Jvm.ClassFile.FieldType.int)) ∈ gtb := gtb_of (mt6 (i := 222) rfl) rfl
theorem q6_223 : (Jvm.Cond.methodLink "TuneSchoolModel" (311 : Nat) ({ cls := "TuneSchoolModel", name := "isJoined", desc := "(II)Z" } : Jvm.MethodName)) ∈ gtb := gtb_of (mt6 (i := 223) rfl) rfl
theorem q6_225 : (Jvm.Cond.instanceMethod ({ cls := "TuneSchoolModel", name := "isJoined", desc := "(II)Z" } : Jvm.MethodName)) ∈ gtb := gtb_of (mt6 (i := 225) rfl) rfl
theorem q6_226 : (Jvm.Cond.code ({ cls := "TuneSchoolModel", name := "isJoined", desc := "(II)Z" } : Jvm.MethodName) prog_14_method_64_code (3 : Nat) (Option.some Jvm.ClassFile.FieldType.boolean)) ∈ gtb := gtb_of (mt6 (i := 226) rfl) rfl
theorem q6_227 : (Jvm.Cond.methodLink "TuneSchoolModel" (330 : Nat) ({ cls := "TuneSchoolModel", name := "fits", desc := "(III)Z" } : Jvm.MethodName)) ∈ gtb := gtb_of (mt6 (i := 227) rfl) rfl
theorem q6_229 : (Jvm.Cond.instanceMethod ({ cls := "TuneSchoolModel", name := "fits", desc := "(III)Z" } : Jvm.MethodName)) ∈ gtb := gtb_of (mt6 (i := 229) rfl) rfl
theorem q6_230 : (Jvm.Cond.code ({ cls := "TuneSchoolModel", name := "fits", desc := "(III)Z" } : Jvm.MethodName) prog_14_method_66_code (8 : Nat) (Option.some Jvm.ClassFile.FieldType.boolean)) ∈ gtb := gtb_of (mt6 (i := 230) rfl) rfl
theorem q6_231 : (Jvm.Cond.methodLink "TuneSchoolModel" (336 : Nat) ({ cls := "TuneSchoolModel", name := "reckon", desc := "(III)V" } : Jvm.MethodName)) ∈ gtb := gtb_of (mt6 (i := 231) rfl) rfl
theorem q6_233 : (Jvm.Cond.instanceMethod ({ cls := "TuneSchoolModel", name := "reckon", desc := "(III)V" } : Jvm.MethodName)) ∈ gtb := gtb_of (mt6 (i := 233) rfl) rfl
theorem q6_234 : (Jvm.Cond.code ({ cls := "TuneSchoolModel", name := "reckon", desc := "(III)V" } : Jvm.MethodName) prog_14_method_70_code (11 : Nat) (Option.none : Option Jvm.ClassFile.FieldType)) ∈ gtb := gtb_of (mt6 (i := 234) rfl) rfl
theorem q6_235 : (Jvm.Cond.constant "TuneSchoolModel" (314 : Nat) (1000000000 : Int32)) ∈ gtb := gtb_of (mt6 (i := 235) rfl) rfl
theorem q6_236 : (Jvm.Cond.methodLink "TuneSchoolModel" (315 : Nat) ({ cls := "TuneSchoolModel", name := "dueBehind", desc := "(III)I" } : Jvm.MethodName)) ∈ gtb := gtb_of (mt6 (i := 236) rfl) rfl
theorem q6_238 : (Jvm.Cond.instanceMethod ({ cls := "TuneSchoolModel", name := "dueBehind", desc := "(III)I" } : Jvm.MethodName)) ∈ gtb := gtb_of (mt6 (i := 238) rfl) rfl
theorem q6_239 : (Jvm.Cond.code ({ cls := "TuneSchoolModel", name := "dueBehind", desc := "(III)I" } : Jvm.MethodName) prog_14_method_68_code (6 : Nat) (Option.some Jvm.ClassFile.FieldType.int)) ∈ gtb := gtb_of (mt6 (i := 239) rfl) rfl
theorem q7_0 : (Jvm.Cond.methodLink "TuneSchoolModel" (293 : Nat) ({ cls := "TuneSchoolModel", name := "mustAnswer", desc := "(I)Z" } : Jvm.MethodName)) ∈ gtb := gtb_of (mt7 (i := 0) rfl) rfl
theorem q7_2 : (Jvm.Cond.instanceMethod ({ cls := "TuneSchoolModel", name := "mustAnswer", desc := "(I)Z" } : Jvm.MethodName)) ∈ gtb := gtb_of (mt7 (i := 2) rfl) rfl
theorem q7_3 : (Jvm.Cond.code ({ cls := "TuneSchoolModel", name := "mustAnswer", desc := "(I)Z" } : Jvm.MethodName) prog_14_method_67_code (5 : Nat) (Option.some Jvm.ClassFile.FieldType.boolean)) ∈ gtb := gtb_of (mt7 (i := 3) rfl) rfl
theorem q7_4 : (Jvm.Cond.methodLink "TuneSchoolModel" (319 : Nat) ({ cls := "TuneSchoolModel", name := "step", desc := "(II)I" } : Jvm.MethodName)) ∈ gtb := gtb_of (mt7 (i := 4) rfl) rfl
theorem q7_6 : (Jvm.Cond.instanceMethod ({ cls := "TuneSchoolModel", name := "step", desc := "(II)I" } : Jvm.MethodName)) ∈ gtb := gtb_of (mt7 (i := 6) rfl) rfl
theorem q7_7 : (Jvm.Cond.code ({ cls := "TuneSchoolModel", name := "step", desc := "(II)I" } : Jvm.MethodName) prog_14_method_69_code (4 : Nat) (Option.some Jvm.ClassFile.FieldType.int)) ∈ gtb := gtb_of (mt7 (i := 7) rfl) rfl
theorem q7_8 : (Jvm.Cond.methodLink "TuneSchoolModel" (322 : Nat) ({ cls := "TuneSchoolModel", name := "at", desc := "(III)I" } : Jvm.MethodName)) ∈ gtb := gtb_of (mt7 (i := 8) rfl) rfl
theorem q7_10 : (Jvm.Cond.instanceMethod ({ cls := "TuneSchoolModel", name := "at", desc := "(III)I" } : Jvm.MethodName)) ∈ gtb := gtb_of (mt7 (i := 10) rfl) rfl
theorem q7_11 : (Jvm.Cond.code ({ cls := "TuneSchoolModel", name := "at", desc := "(III)I" } : Jvm.MethodName) prog_14_method_61_code (4 : Nat) (Option.some Jvm.ClassFile.FieldType.int)) ∈ gtb := gtb_of (mt7 (i := 11) rfl) rfl
theorem q7_12 : (Jvm.Cond.methodLink "TuneSchoolModel" (325 : Nat) ({ cls := "java/lang/Math", name := "min", desc := "(II)I" } : Jvm.MethodName)) ∈ gtb := gtb_of (mt7 (i := 12) rfl) rfl
theorem q7_13 : (Jvm.Cond.methodLink "TuneSchoolModel" (376 : Nat) ({ cls := "TuneSchoolModel", name := "finish", desc := "()V" } : Jvm.MethodName)) ∈ gtb := gtb_of (mt7 (i := 13) rfl) rfl
theorem q7_15 : (Jvm.Cond.instanceMethod ({ cls := "TuneSchoolModel", name := "finish", desc := "()V" } : Jvm.MethodName)) ∈ gtb := gtb_of (mt7 (i := 15) rfl) rfl
theorem q7_16 : (Jvm.Cond.code ({ cls := "TuneSchoolModel", name := "finish", desc := "()V" } : Jvm.MethodName) prog_14_method_74_code (6 : Nat) (Option.none : Option Jvm.ClassFile.FieldType)) ∈ gtb := gtb_of (mt7 (i := 16) rfl) rfl
theorem q7_17 : (Jvm.Cond.methodLink "TuneSchoolModel" (343 : Nat) ({ cls := "TuneSchoolModel", name := "reckonTune", desc := "()V" } : Jvm.MethodName)) ∈ gtb := gtb_of (mt7 (i := 17) rfl) rfl
theorem q7_19 : (Jvm.Cond.instanceMethod ({ cls := "TuneSchoolModel", name := "reckonTune", desc := "()V" } : Jvm.MethodName)) ∈ gtb := gtb_of (mt7 (i := 19) rfl) rfl
theorem q7_20 : (Jvm.Cond.code ({ cls := "TuneSchoolModel", name := "reckonTune", desc := "()V" } : Jvm.MethodName) prog_14_method_73_code (4 : Nat) (Option.none : Option Jvm.ClassFile.FieldType)) ∈ gtb := gtb_of (mt7 (i := 20) rfl) rfl
theorem q7_21 : (Jvm.Cond.methodLink "TuneSchoolLaw" (136 : Nat) ({ cls := "TuneSchoolModel", name := "goOn", desc := "(I)I" } : Jvm.MethodName)) ∈ gtb := gtb_of (mt7 (i := 21) rfl) rfl
theorem q7_22 : (Jvm.Cond.instanceMethod ({ cls := "TuneSchoolModel", name := "goOn", desc := "(I)I" } : Jvm.MethodName)) ∈ gtb := gtb_of (mt7 (i := 22) rfl) rfl
theorem q7_23 : (Jvm.Cond.selects "TuneSchoolModel" ({ cls := "TuneSchoolModel", name := "goOn", desc := "(I)I" } : Jvm.MethodName) ({ cls := "TuneSchoolModel", name := "goOn", desc := "(I)I" } : Jvm.MethodName)) ∈ gtb := gtb_of (mt7 (i := 23) rfl) rfl
theorem q7_24 : (Jvm.Cond.code ({ cls := "TuneSchoolModel", name := "goOn", desc := "(I)I" } : Jvm.MethodName) prog_14_method_76_code (2 : Nat) (Option.some Jvm.ClassFile.FieldType.int)) ∈ gtb := gtb_of (mt7 (i := 24) rfl) rfl
theorem q7_25 : (Jvm.Cond.methodLink "TuneSchoolLaw" (140 : Nat) ({ cls := "TuneSchoolModel", name := "least", desc := "()I" } : Jvm.MethodName)) ∈ gtb := gtb_of (mt7 (i := 25) rfl) rfl
theorem q7_26 : (Jvm.Cond.instanceMethod ({ cls := "TuneSchoolModel", name := "least", desc := "()I" } : Jvm.MethodName)) ∈ gtb := gtb_of (mt7 (i := 26) rfl) rfl
theorem q7_27 : (Jvm.Cond.selects "TuneSchoolModel" ({ cls := "TuneSchoolModel", name := "least", desc := "()I" } : Jvm.MethodName) ({ cls := "TuneSchoolModel", name := "least", desc := "()I" } : Jvm.MethodName)) ∈ gtb := gtb_of (mt7 (i := 27) rfl) rfl
theorem q7_28 : (Jvm.Cond.code ({ cls := "TuneSchoolModel", name := "least", desc := "()I" } : Jvm.MethodName) prog_14_method_78_code (1 : Nat) (Option.some Jvm.ClassFile.FieldType.int)) ∈ gtb := gtb_of (mt7 (i := 28) rfl) rfl
theorem q7_29 : (Jvm.Cond.methodLink "TuneSchoolLaw" (144 : Nat) ({ cls := "TuneSchoolModel", name := "many", desc := "()I" } : Jvm.MethodName)) ∈ gtb := gtb_of (mt7 (i := 29) rfl) rfl
theorem q7_30 : (Jvm.Cond.instanceMethod ({ cls := "TuneSchoolModel", name := "many", desc := "()I" } : Jvm.MethodName)) ∈ gtb := gtb_of (mt7 (i := 30) rfl) rfl
theorem q7_31 : (Jvm.Cond.selects "TuneSchoolModel" ({ cls := "TuneSchoolModel", name := "many", desc := "()I" } : Jvm.MethodName) ({ cls := "TuneSchoolModel", name := "many", desc := "()I" } : Jvm.MethodName)) ∈ gtb := gtb_of (mt7 (i := 31) rfl) rfl
theorem q7_32 : (Jvm.Cond.code ({ cls := "TuneSchoolModel", name := "many", desc := "()I" } : Jvm.MethodName) prog_14_method_79_code (1 : Nat) (Option.some Jvm.ClassFile.FieldType.int)) ∈ gtb := gtb_of (mt7 (i := 32) rfl) rfl
theorem q7_33 : (Jvm.Cond.methodLink "TuneSchoolLaw" (148 : Nat) ({ cls := "TuneSchoolModel", name := "row", desc := "(III)I" } : Jvm.MethodName)) ∈ gtb := gtb_of (mt7 (i := 33) rfl) rfl
theorem q7_34 : (Jvm.Cond.instanceMethod ({ cls := "TuneSchoolModel", name := "row", desc := "(III)I" } : Jvm.MethodName)) ∈ gtb := gtb_of (mt7 (i := 34) rfl) rfl
theorem q7_35 : (Jvm.Cond.selects "TuneSchoolModel" ({ cls := "TuneSchoolModel", name := "row", desc := "(III)I" } : Jvm.MethodName) ({ cls := "TuneSchoolModel", name := "row", desc := "(III)I" } : Jvm.MethodName)) ∈ gtb := gtb_of (mt7 (i := 35) rfl) rfl
theorem q7_36 : (Jvm.Cond.code ({ cls := "TuneSchoolModel", name := "row", desc := "(III)I" } : Jvm.MethodName) prog_14_method_81_code (4 : Nat) (Option.some Jvm.ClassFile.FieldType.int)) ∈ gtb := gtb_of (mt7 (i := 36) rfl) rfl
theorem q7_37 : (Jvm.Cond.methodLink "TuneSchoolModel" (379 : Nat) ({ cls := "TuneSchoolModel", name := "hasLeast", desc := "(I)Z" } : Jvm.MethodName)) ∈ gtb := gtb_of (mt7 (i := 37) rfl) rfl
theorem q7_39 : (Jvm.Cond.instanceMethod ({ cls := "TuneSchoolModel", name := "hasLeast", desc := "(I)Z" } : Jvm.MethodName)) ∈ gtb := gtb_of (mt7 (i := 39) rfl) rfl
theorem q7_40 : (Jvm.Cond.code ({ cls := "TuneSchoolModel", name := "hasLeast", desc := "(I)Z" } : Jvm.MethodName) prog_14_method_80_code (2 : Nat) (Option.some Jvm.ClassFile.FieldType.boolean)) ∈ gtb := gtb_of (mt7 (i := 40) rfl) rfl
theorem q7_41 : (Jvm.Cond.methodLink "TuneSchoolLaw" (152 : Nat) ({ cls := "TuneSchoolModel", name := "spoil", desc := "(IIII)I" } : Jvm.MethodName)) ∈ gtb := gtb_of (mt7 (i := 41) rfl) rfl
theorem q7_42 : (Jvm.Cond.instanceMethod ({ cls := "TuneSchoolModel", name := "spoil", desc := "(IIII)I" } : Jvm.MethodName)) ∈ gtb := gtb_of (mt7 (i := 42) rfl) rfl
theorem q7_43 : (Jvm.Cond.selects "TuneSchoolModel" ({ cls := "TuneSchoolModel", name := "spoil", desc := "(IIII)I" } : Jvm.MethodName) ({ cls := "TuneSchoolModel", name := "spoil", desc := "(IIII)I" } : Jvm.MethodName)) ∈ gtb := gtb_of (mt7 (i := 43) rfl) rfl
theorem q7_44 : (Jvm.Cond.code ({ cls := "TuneSchoolModel", name := "spoil", desc := "(IIII)I" } : Jvm.MethodName) prog_14_method_82_code (6 : Nat) (Option.some Jvm.ClassFile.FieldType.int)) ∈ gtb := gtb_of (mt7 (i := 44) rfl) rfl
theorem q7_45 : (Jvm.Cond.methodLink "TuneSchoolLaw" (156 : Nat) ({ cls := "TuneSchoolModel", name := "check", desc := "()I" } : Jvm.MethodName)) ∈ gtb := gtb_of (mt7 (i := 45) rfl) rfl
theorem q7_46 : (Jvm.Cond.instanceMethod ({ cls := "TuneSchoolModel", name := "check", desc := "()I" } : Jvm.MethodName)) ∈ gtb := gtb_of (mt7 (i := 46) rfl) rfl
theorem q7_47 : (Jvm.Cond.selects "TuneSchoolModel" ({ cls := "TuneSchoolModel", name := "check", desc := "()I" } : Jvm.MethodName) ({ cls := "TuneSchoolModel", name := "check", desc := "()I" } : Jvm.MethodName)) ∈ gtb := gtb_of (mt7 (i := 47) rfl) rfl
theorem q7_48 : (Jvm.Cond.code ({ cls := "TuneSchoolModel", name := "check", desc := "()I" } : Jvm.MethodName) prog_14_method_83_code (5 : Nat) (Option.some Jvm.ClassFile.FieldType.int)) ∈ gtb := gtb_of (mt7 (i := 48) rfl) rfl
theorem q7_49 : (Jvm.Cond.methodLink "TuneSchoolLaw" (160 : Nat) ({ cls := "TuneSchoolModel", name := "print", desc := "(I)I" } : Jvm.MethodName)) ∈ gtb := gtb_of (mt7 (i := 49) rfl) rfl
theorem q7_50 : (Jvm.Cond.instanceMethod ({ cls := "TuneSchoolModel", name := "print", desc := "(I)I" } : Jvm.MethodName)) ∈ gtb := gtb_of (mt7 (i := 50) rfl) rfl
theorem q7_51 : (Jvm.Cond.selects "TuneSchoolModel" ({ cls := "TuneSchoolModel", name := "print", desc := "(I)I" } : Jvm.MethodName) ({ cls := "TuneSchoolModel", name := "print", desc := "(I)I" } : Jvm.MethodName)) ∈ gtb := gtb_of (mt7 (i := 51) rfl) rfl
theorem q7_52 : (Jvm.Cond.code ({ cls := "TuneSchoolModel", name := "print", desc := "(I)I" } : Jvm.MethodName) prog_14_method_85_code (5 : Nat) (Option.some Jvm.ClassFile.FieldType.int)) ∈ gtb := gtb_of (mt7 (i := 52) rfl) rfl
theorem q7_53 : (Jvm.Cond.methodLink "TuneSchoolModel" (385 : Nat) ({ cls := "TuneSchoolModel", name := "say", desc := "(I)V" } : Jvm.MethodName)) ∈ gtb := gtb_of (mt7 (i := 53) rfl) rfl
theorem q7_55 : (Jvm.Cond.instanceMethod ({ cls := "TuneSchoolModel", name := "say", desc := "(I)V" } : Jvm.MethodName)) ∈ gtb := gtb_of (mt7 (i := 55) rfl) rfl
theorem q7_56 : (Jvm.Cond.code ({ cls := "TuneSchoolModel", name := "say", desc := "(I)V" } : Jvm.MethodName) prog_14_method_84_code (2 : Nat) (Option.none : Option Jvm.ClassFile.FieldType)) ∈ gtb := gtb_of (mt7 (i := 56) rfl) rfl
theorem q7_57 : (Jvm.Cond.methodLink "TuneSchoolLaw" (164 : Nat) ({ cls := "TuneSchoolModel", name := "read", desc := "(I)I" } : Jvm.MethodName)) ∈ gtb := gtb_of (mt7 (i := 57) rfl) rfl
theorem q7_58 : (Jvm.Cond.instanceMethod ({ cls := "TuneSchoolModel", name := "read", desc := "(I)I" } : Jvm.MethodName)) ∈ gtb := gtb_of (mt7 (i := 58) rfl) rfl
theorem q7_59 : (Jvm.Cond.selects "TuneSchoolModel" ({ cls := "TuneSchoolModel", name := "read", desc := "(I)I" } : Jvm.MethodName) ({ cls := "TuneSchoolModel", name := "read", desc := "(I)I" } : Jvm.MethodName)) ∈ gtb := gtb_of (mt7 (i := 59) rfl) rfl
theorem q7_60 : (Jvm.Cond.code ({ cls := "TuneSchoolModel", name := "read", desc := "(I)I" } : Jvm.MethodName) prog_14_method_88_code (4 : Nat) (Option.some Jvm.ClassFile.FieldType.int)) ∈ gtb := gtb_of (mt7 (i := 60) rfl) rfl
theorem q7_61 : (Jvm.Cond.methodLink "TuneSchoolModel" (394 : Nat) ({ cls := "TuneSchoolModel", name := "wrongIn", desc := "()I" } : Jvm.MethodName)) ∈ gtb := gtb_of (mt7 (i := 61) rfl) rfl
theorem q7_63 : (Jvm.Cond.instanceMethod ({ cls := "TuneSchoolModel", name := "wrongIn", desc := "()I" } : Jvm.MethodName)) ∈ gtb := gtb_of (mt7 (i := 63) rfl) rfl
theorem q7_64 : (Jvm.Cond.code ({ cls := "TuneSchoolModel", name := "wrongIn", desc := "()I" } : Jvm.MethodName) prog_14_method_87_code (5 : Nat) (Option.some Jvm.ClassFile.FieldType.int)) ∈ gtb := gtb_of (mt7 (i := 64) rfl) rfl
theorem q7_65 : (Jvm.Cond.methodLink "TuneSchoolModel" (391 : Nat) ({ cls := "TuneSchoolModel", name := "charAt", desc := "(I)I" } : Jvm.MethodName)) ∈ gtb := gtb_of (mt7 (i := 65) rfl) rfl
theorem q7_67 : (Jvm.Cond.instanceMethod ({ cls := "TuneSchoolModel", name := "charAt", desc := "(I)I" } : Jvm.MethodName)) ∈ gtb := gtb_of (mt7 (i := 67) rfl) rfl
theorem q7_68 : (Jvm.Cond.code ({ cls := "TuneSchoolModel", name := "charAt", desc := "(I)I" } : Jvm.MethodName) prog_14_method_86_code (2 : Nat) (Option.some Jvm.ClassFile.FieldType.int)) ∈ gtb := gtb_of (mt7 (i := 68) rfl) rfl
theorem q7_69 : (Jvm.Cond.methodLink "TuneSchoolLaw" (168 : Nat) ({ cls := "TuneSchoolModel", name := "put", desc := "(II)I" } : Jvm.MethodName)) ∈ gtb := gtb_of (mt7 (i := 69) rfl) rfl
theorem q7_70 : (Jvm.Cond.instanceMethod ({ cls := "TuneSchoolModel", name := "put", desc := "(II)I" } : Jvm.MethodName)) ∈ gtb := gtb_of (mt7 (i := 70) rfl) rfl
theorem q7_71 : (Jvm.Cond.selects "TuneSchoolModel" ({ cls := "TuneSchoolModel", name := "put", desc := "(II)I" } : Jvm.MethodName) ({ cls := "TuneSchoolModel", name := "put", desc := "(II)I" } : Jvm.MethodName)) ∈ gtb := gtb_of (mt7 (i := 71) rfl) rfl
theorem q7_72 : (Jvm.Cond.code ({ cls := "TuneSchoolModel", name := "put", desc := "(II)I" } : Jvm.MethodName) prog_14_method_89_code (3 : Nat) (Option.some Jvm.ClassFile.FieldType.int)) ∈ gtb := gtb_of (mt7 (i := 72) rfl) rfl
theorem q7_73 : (Jvm.Cond.methodLink "TuneSchoolLaw" (172 : Nat) ({ cls := "TuneSchoolModel", name := "cutLine", desc := "(I)I" } : Jvm.MethodName)) ∈ gtb := gtb_of (mt7 (i := 73) rfl) rfl
theorem q7_74 : (Jvm.Cond.instanceMethod ({ cls := "TuneSchoolModel", name := "cutLine", desc := "(I)I" } : Jvm.MethodName)) ∈ gtb := gtb_of (mt7 (i := 74) rfl) rfl
theorem q7_75 : (Jvm.Cond.selects "TuneSchoolModel" ({ cls := "TuneSchoolModel", name := "cutLine", desc := "(I)I" } : Jvm.MethodName) ({ cls := "TuneSchoolModel", name := "cutLine", desc := "(I)I" } : Jvm.MethodName)) ∈ gtb := gtb_of (mt7 (i := 75) rfl) rfl
theorem q7_76 : (Jvm.Cond.code ({ cls := "TuneSchoolModel", name := "cutLine", desc := "(I)I" } : Jvm.MethodName) prog_14_method_90_code (3 : Nat) (Option.some Jvm.ClassFile.FieldType.int)) ∈ gtb := gtb_of (mt7 (i := 76) rfl) rfl
theorem q7_77 : (Jvm.Cond.methodLink "TuneSchoolLaw" (176 : Nat) ({ cls := "TuneSchoolModel", name := "character", desc := "(I)I" } : Jvm.MethodName)) ∈ gtb := gtb_of (mt7 (i := 77) rfl) rfl
theorem q7_78 : (Jvm.Cond.instanceMethod ({ cls := "TuneSchoolModel", name := "character", desc := "(I)I" } : Jvm.MethodName)) ∈ gtb := gtb_of (mt7 (i := 78) rfl) rfl
theorem q7_79 : (Jvm.Cond.selects "TuneSchoolModel" ({ cls := "TuneSchoolModel", name := "character", desc := "(I)I" } : Jvm.MethodName) ({ cls := "TuneSchoolModel", name := "character", desc := "(I)I" } : Jvm.MethodName)) ∈ gtb := gtb_of (mt7 (i := 79) rfl) rfl
theorem q7_80 : (Jvm.Cond.code ({ cls := "TuneSchoolModel", name := "character", desc := "(I)I" } : Jvm.MethodName) prog_14_method_91_code (2 : Nat) (Option.some Jvm.ClassFile.FieldType.int)) ∈ gtb := gtb_of (mt7 (i := 80) rfl) rfl
theorem q7_81 : (Jvm.Cond.methodLink "TuneSchoolLaw" (180 : Nat) ({ cls := "TuneSchoolModel", name := "status", desc := "()I" } : Jvm.MethodName)) ∈ gtb := gtb_of (mt7 (i := 81) rfl) rfl
theorem q7_82 : (Jvm.Cond.instanceMethod ({ cls := "TuneSchoolModel", name := "status", desc := "()I" } : Jvm.MethodName)) ∈ gtb := gtb_of (mt7 (i := 82) rfl) rfl
theorem q7_83 : (Jvm.Cond.selects "TuneSchoolModel" ({ cls := "TuneSchoolModel", name := "status", desc := "()I" } : Jvm.MethodName) ({ cls := "TuneSchoolModel", name := "status", desc := "()I" } : Jvm.MethodName)) ∈ gtb := gtb_of (mt7 (i := 83) rfl) rfl
theorem q7_84 : (Jvm.Cond.code ({ cls := "TuneSchoolModel", name := "status", desc := "()I" } : Jvm.MethodName) prog_14_method_92_code (1 : Nat) (Option.some Jvm.ClassFile.FieldType.int)) ∈ gtb := gtb_of (mt7 (i := 84) rfl) rfl
theorem q7_85 : (Jvm.Cond.methodLink "TuneSchoolLaw" (184 : Nat) ({ cls := "TuneSchoolModel", name := "trace", desc := "(I)I" } : Jvm.MethodName)) ∈ gtb := gtb_of (mt7 (i := 85) rfl) rfl
theorem q7_86 : (Jvm.Cond.instanceMethod ({ cls := "TuneSchoolModel", name := "trace", desc := "(I)I" } : Jvm.MethodName)) ∈ gtb := gtb_of (mt7 (i := 86) rfl) rfl
theorem q7_87 : (Jvm.Cond.selects "TuneSchoolModel" ({ cls := "TuneSchoolModel", name := "trace", desc := "(I)I" } : Jvm.MethodName) ({ cls := "TuneSchoolModel", name := "trace", desc := "(I)I" } : Jvm.MethodName)) ∈ gtb := gtb_of (mt7 (i := 87) rfl) rfl
theorem q7_88 : (Jvm.Cond.code ({ cls := "TuneSchoolModel", name := "trace", desc := "(I)I" } : Jvm.MethodName) prog_14_method_93_code (2 : Nat) (Option.some Jvm.ClassFile.FieldType.int)) ∈ gtb := gtb_of (mt7 (i := 88) rfl) rfl
theorem q7_89 : (Jvm.Cond.methodLink "TuneSchoolLaw" (188 : Nat) ({ cls := "TuneSchoolModel", name := "count", desc := "(I)I" } : Jvm.MethodName)) ∈ gtb := gtb_of (mt7 (i := 89) rfl) rfl
theorem q7_90 : (Jvm.Cond.instanceMethod ({ cls := "TuneSchoolModel", name := "count", desc := "(I)I" } : Jvm.MethodName)) ∈ gtb := gtb_of (mt7 (i := 90) rfl) rfl
theorem q7_91 : (Jvm.Cond.selects "TuneSchoolModel" ({ cls := "TuneSchoolModel", name := "count", desc := "(I)I" } : Jvm.MethodName) ({ cls := "TuneSchoolModel", name := "count", desc := "(I)I" } : Jvm.MethodName)) ∈ gtb := gtb_of (mt7 (i := 91) rfl) rfl
theorem q7_92 : (Jvm.Cond.code ({ cls := "TuneSchoolModel", name := "count", desc := "(I)I" } : Jvm.MethodName) prog_14_method_94_code (4 : Nat) (Option.some Jvm.ClassFile.FieldType.int)) ∈ gtb := gtb_of (mt7 (i := 92) rfl) rfl
theorem q7_93 : (Jvm.Cond.sameMethod "TuneSchool$Motion" "TuneSchool$Motion" "tells" "(LTuneSchool$Moment;)Z") ∈ gtb := gtb_of (mt7 (i := 93) rfl) rfl
theorem q7_94 : (Jvm.Cond.sameMethod "TuneSchool$Interval" "TuneSchool$Interval" "tells" "(LTuneSchool$Moment;)Z") ∈ gtb := gtb_of (mt7 (i := 94) rfl) rfl
theorem q7_95 : (Jvm.Cond.selects "TuneSchool$Cadence" ({ cls := "TuneSchool$Cadence", name := "tells", desc := "(LTuneSchool$Moment;)Z" } : Jvm.MethodName) ({ cls := "TuneSchool$Cadence", name := "tells", desc := "(LTuneSchool$Moment;)Z" } : Jvm.MethodName)) ∈ gtb := gtb_of (mt7 (i := 95) rfl) rfl
theorem q7_96 : (Jvm.Cond.selects "TuneSchool$Cadence" ({ cls := "TuneSchool$Interval", name := "tells", desc := "(LTuneSchool$Moment;)Z" } : Jvm.MethodName) ({ cls := "TuneSchool$Cadence", name := "tells", desc := "(LTuneSchool$Moment;)Z" } : Jvm.MethodName)) ∈ gtb := gtb_of (mt7 (i := 96) rfl) rfl
theorem q7_97 : (Jvm.Cond.selects "TuneSchool$Interval" ({ cls := "TuneSchool$Interval", name := "tells", desc := "(LTuneSchool$Moment;)Z" } : Jvm.MethodName) ({ cls := "TuneSchool$Interval", name := "tells", desc := "(LTuneSchool$Moment;)Z" } : Jvm.MethodName)) ∈ gtb := gtb_of (mt7 (i := 97) rfl) rfl
theorem q7_98 : (Jvm.Cond.selects "TuneSchool$Motion" ({ cls := "TuneSchool$Interval", name := "tells", desc := "(LTuneSchool$Moment;)Z" } : Jvm.MethodName) ({ cls := "TuneSchool$Motion", name := "tells", desc := "(LTuneSchool$Moment;)Z" } : Jvm.MethodName)) ∈ gtb := gtb_of (mt7 (i := 98) rfl) rfl
theorem qs_0 : Cond.selects "TuneSchool" ({ cls := "TuneSchool", name := "finding", desc := "(I)I" } : MethodName) ({ cls := "TuneSchool", name := "finding", desc := "(I)I" } : MethodName) ∈ gtb := mgs (i := 0) rfl rfl
theorem qs_1 : Cond.selects "TuneSchool" ({ cls := "TuneSchool", name := "keep", desc := "(I)V" } : MethodName) ({ cls := "TuneSchool", name := "keep", desc := "(I)V" } : MethodName) ∈ gtb := mgs (i := 1) rfl rfl
theorem qs_2 : Cond.selects "TuneSchool" ({ cls := "TuneSchool", name := "fine", desc := "(I)I" } : MethodName) ({ cls := "TuneSchool", name := "fine", desc := "(I)I" } : MethodName) ∈ gtb := mgs (i := 2) rfl rfl
theorem qs_3 : Cond.selects "TuneSchool" ({ cls := "TuneSchool", name := "findLasts", desc := "()V" } : MethodName) ({ cls := "TuneSchool", name := "findLasts", desc := "()V" } : MethodName) ∈ gtb := mgs (i := 3) rfl rfl
theorem qs_4 : Cond.selects "TuneSchool" ({ cls := "TuneSchool", name := "askPair", desc := "(LTuneSchool$Standing;III)V" } : MethodName) ({ cls := "TuneSchool", name := "askPair", desc := "(LTuneSchool$Standing;III)V" } : MethodName) ∈ gtb := mgs (i := 4) rfl rfl
theorem qs_5 : Cond.selects "TuneSchool" ({ cls := "TuneSchool", name := "noteFault", desc := "(LTuneSchool$Rule;III)V" } : MethodName) ({ cls := "TuneSchool", name := "noteFault", desc := "(LTuneSchool$Rule;III)V" } : MethodName) ∈ gtb := mgs (i := 5) rfl rfl
theorem qs_6 : Cond.selects "TuneSchool" ({ cls := "TuneSchool", name := "faultNumber", desc := "(II)I" } : MethodName) ({ cls := "TuneSchool", name := "faultNumber", desc := "(II)I" } : MethodName) ∈ gtb := mgs (i := 6) rfl rfl
theorem qs_7 : Cond.selects "TuneSchool" ({ cls := "TuneSchool", name := "firstFault", desc := "(LTuneSchool$Voice;LTuneSchool$Standing;III)I" } : MethodName) ({ cls := "TuneSchool", name := "firstFault", desc := "(LTuneSchool$Voice;LTuneSchool$Standing;III)I" } : MethodName) ∈ gtb := mgs (i := 7) rfl rfl
theorem qs_8 : Cond.selects "TuneSchool" ({ cls := "TuneSchool", name := "tellsAny", desc := "(LTuneSchool$Standing;)Z" } : MethodName) ({ cls := "TuneSchool", name := "tellsAny", desc := "(LTuneSchool$Standing;)Z" } : MethodName) ∈ gtb := mgs (i := 8) rfl rfl
theorem qs_9 : Cond.selects "TuneSchool" ({ cls := "TuneSchool", name := "advance", desc := "(I)I" } : MethodName) ({ cls := "TuneSchool", name := "advance", desc := "(I)I" } : MethodName) ∈ gtb := mgs (i := 9) rfl rfl
theorem qs_10 : Cond.selects "TuneSchool" ({ cls := "TuneSchool", name := "writeTune", desc := "()I" } : MethodName) ({ cls := "TuneSchool", name := "writeTune", desc := "()I" } : MethodName) ∈ gtb := mgs (i := 10) rfl rfl
theorem qs_11 : Cond.selects "TuneSchool$Line" ({ cls := "TuneSchool$Line", name := "add", desc := "(I)V" } : MethodName) ({ cls := "TuneSchool$Line", name := "add", desc := "(I)V" } : MethodName) ∈ gtb := mgs (i := 11) rfl rfl
theorem qs_12 : Cond.selects "TuneSchool$Line" ({ cls := "TuneSchool$Line", name := "addPitch", desc := "(I)V" } : MethodName) ({ cls := "TuneSchool$Line", name := "addPitch", desc := "(I)V" } : MethodName) ∈ gtb := mgs (i := 12) rfl rfl
theorem qs_13 : Cond.selects "TuneSchool$Line" ({ cls := "TuneSchool$Line", name := "takePitch", desc := "()I" } : MethodName) ({ cls := "TuneSchool$Line", name := "takePitch", desc := "()I" } : MethodName) ∈ gtb := mgs (i := 13) rfl rfl
theorem qs_14 : Cond.selects "TuneSchool$Line" ({ cls := "TuneSchool$Line", name := "here", desc := "()I" } : MethodName) ({ cls := "TuneSchool$Line", name := "here", desc := "()I" } : MethodName) ∈ gtb := mgs (i := 14) rfl rfl
theorem qs_15 : Cond.selects "TuneSchool" ({ cls := "TuneSchool", name := "voicesThere", desc := "()I" } : MethodName) ({ cls := "TuneSchool", name := "voicesThere", desc := "()I" } : MethodName) ∈ gtb := mgs (i := 15) rfl rfl
theorem qs_16 : Cond.selects "TuneSchool" ({ cls := "TuneSchool", name := "placesTaken", desc := "()I" } : MethodName) ({ cls := "TuneSchool", name := "placesTaken", desc := "()I" } : MethodName) ∈ gtb := mgs (i := 16) rfl rfl
theorem qs_17 : Cond.selects "TuneSchoolModel" ({ cls := "TuneSchoolModel", name := "finds", desc := "(I)I" } : MethodName) ({ cls := "TuneSchoolModel", name := "finds", desc := "(I)I" } : MethodName) ∈ gtb := mgs (i := 17) rfl rfl
theorem qs_18 : Cond.selects "TuneSchoolModel" ({ cls := "TuneSchoolModel", name := "keep", desc := "(I)V" } : MethodName) ({ cls := "TuneSchoolModel", name := "keep", desc := "(I)V" } : MethodName) ∈ gtb := mgs (i := 18) rfl rfl
theorem qs_19 : Cond.selects "TuneSchoolModel" ({ cls := "TuneSchoolModel", name := "against", desc := "(I)I" } : MethodName) ({ cls := "TuneSchoolModel", name := "against", desc := "(I)I" } : MethodName) ∈ gtb := mgs (i := 19) rfl rfl
theorem qs_20 : Cond.selects "TuneSchoolModel" ({ cls := "TuneSchoolModel", name := "lay", desc := "(I)V" } : MethodName) ({ cls := "TuneSchoolModel", name := "lay", desc := "(I)V" } : MethodName) ∈ gtb := mgs (i := 20) rfl rfl
theorem qs_21 : Cond.selects "TuneSchoolModel" ({ cls := "TuneSchoolModel", name := "lengthAt", desc := "(II)I" } : MethodName) ({ cls := "TuneSchoolModel", name := "lengthAt", desc := "(II)I" } : MethodName) ∈ gtb := mgs (i := 21) rfl rfl
theorem qs_22 : Cond.selects "TuneSchoolModel" ({ cls := "TuneSchoolModel", name := "pitchAt", desc := "(II)I" } : MethodName) ({ cls := "TuneSchoolModel", name := "pitchAt", desc := "(II)I" } : MethodName) ∈ gtb := mgs (i := 22) rfl rfl
theorem qs_23 : Cond.selects "TuneSchoolModel" ({ cls := "TuneSchoolModel", name := "soundAt", desc := "(II)I" } : MethodName) ({ cls := "TuneSchoolModel", name := "soundAt", desc := "(II)I" } : MethodName) ∈ gtb := mgs (i := 23) rfl rfl
theorem qs_24 : Cond.selects "TuneSchoolModel" ({ cls := "TuneSchoolModel", name := "copyRow", desc := "(IIIIII)Z" } : MethodName) ({ cls := "TuneSchoolModel", name := "copyRow", desc := "(IIIIII)Z" } : MethodName) ∈ gtb := mgs (i := 24) rfl rfl
theorem qs_25 : Cond.selects "TuneSchoolModel" ({ cls := "TuneSchoolModel", name := "isOf", desc := "(II)Z" } : MethodName) ({ cls := "TuneSchoolModel", name := "isOf", desc := "(II)Z" } : MethodName) ∈ gtb := mgs (i := 25) rfl rfl
theorem qs_26 : Cond.selects "TuneSchoolModel" ({ cls := "TuneSchoolModel", name := "told", desc := "([ZIZ)I" } : MethodName) ({ cls := "TuneSchoolModel", name := "told", desc := "([ZIZ)I" } : MethodName) ∈ gtb := mgs (i := 26) rfl rfl
theorem qs_27 : Cond.selects "TuneSchoolModel" ({ cls := "TuneSchoolModel", name := "beginTrace", desc := "()V" } : MethodName) ({ cls := "TuneSchoolModel", name := "beginTrace", desc := "()V" } : MethodName) ∈ gtb := mgs (i := 27) rfl rfl
theorem qs_28 : Cond.selects "TuneSchoolModel" ({ cls := "TuneSchoolModel", name := "pair", desc := "(II)V" } : MethodName) ({ cls := "TuneSchoolModel", name := "pair", desc := "(II)V" } : MethodName) ∈ gtb := mgs (i := 28) rfl rfl
theorem qs_29 : Cond.selects "TuneSchoolModel" ({ cls := "TuneSchoolModel", name := "look", desc := "(IIII)V" } : MethodName) ({ cls := "TuneSchoolModel", name := "look", desc := "(IIII)V" } : MethodName) ∈ gtb := mgs (i := 29) rfl rfl
theorem qs_30 : Cond.selects "TuneSchoolModel" ({ cls := "TuneSchoolModel", name := "askedAt", desc := "(I)I" } : MethodName) ({ cls := "TuneSchoolModel", name := "askedAt", desc := "(I)I" } : MethodName) ∈ gtb := mgs (i := 30) rfl rfl
theorem qs_31 : Cond.selects "TuneSchoolModel" ({ cls := "TuneSchoolModel", name := "ruleAt", desc := "(II)I" } : MethodName) ({ cls := "TuneSchoolModel", name := "ruleAt", desc := "(II)I" } : MethodName) ∈ gtb := mgs (i := 31) rfl rfl
theorem qs_32 : Cond.selects "TuneSchoolModel" ({ cls := "TuneSchoolModel", name := "asks", desc := "(II)Z" } : MethodName) ({ cls := "TuneSchoolModel", name := "asks", desc := "(II)Z" } : MethodName) ∈ gtb := mgs (i := 32) rfl rfl
theorem qs_33 : Cond.selects "TuneSchoolModel" ({ cls := "TuneSchoolModel", name := "listens", desc := "(I)Z" } : MethodName) ({ cls := "TuneSchoolModel", name := "listens", desc := "(I)Z" } : MethodName) ∈ gtb := mgs (i := 33) rfl rfl
theorem qs_34 : Cond.selects "TuneSchoolModel" ({ cls := "TuneSchoolModel", name := "tell", desc := "(I)V" } : MethodName) ({ cls := "TuneSchoolModel", name := "tell", desc := "(I)V" } : MethodName) ∈ gtb := mgs (i := 34) rfl rfl
theorem qs_35 : Cond.selects "TuneSchoolModel" ({ cls := "TuneSchoolModel", name := "hasFault", desc := "(IIII)Z" } : MethodName) ({ cls := "TuneSchoolModel", name := "hasFault", desc := "(IIII)Z" } : MethodName) ∈ gtb := mgs (i := 35) rfl rfl
theorem qs_36 : Cond.selects "TuneSchoolModel" ({ cls := "TuneSchoolModel", name := "byInterval", desc := "(IIII)Z" } : MethodName) ({ cls := "TuneSchoolModel", name := "byInterval", desc := "(IIII)Z" } : MethodName) ∈ gtb := mgs (i := 36) rfl rfl
theorem qs_37 : Cond.selects "TuneSchoolModel" ({ cls := "TuneSchoolModel", name := "byMotion", desc := "(IIII)Z" } : MethodName) ({ cls := "TuneSchoolModel", name := "byMotion", desc := "(IIII)Z" } : MethodName) ∈ gtb := mgs (i := 37) rfl rfl
theorem qs_38 : Cond.selects "TuneSchoolModel" ({ cls := "TuneSchoolModel", name := "byLeap", desc := "(III)Z" } : MethodName) ({ cls := "TuneSchoolModel", name := "byLeap", desc := "(III)Z" } : MethodName) ∈ gtb := mgs (i := 38) rfl rfl
theorem qs_39 : Cond.selects "TuneSchoolModel" ({ cls := "TuneSchoolModel", name := "byCadence", desc := "(IIII)Z" } : MethodName) ({ cls := "TuneSchoolModel", name := "byCadence", desc := "(IIII)Z" } : MethodName) ∈ gtb := mgs (i := 39) rfl rfl
theorem qs_40 : Cond.selects "TuneSchoolModel" ({ cls := "TuneSchoolModel", name := "nearest", desc := "(IIII)I" } : MethodName) ({ cls := "TuneSchoolModel", name := "nearest", desc := "(IIII)I" } : MethodName) ∈ gtb := mgs (i := 40) rfl rfl
theorem qs_41 : Cond.selects "TuneSchoolModel" ({ cls := "TuneSchoolModel", name := "againstCanon", desc := "(II)I" } : MethodName) ({ cls := "TuneSchoolModel", name := "againstCanon", desc := "(II)I" } : MethodName) ∈ gtb := mgs (i := 41) rfl rfl
theorem qs_42 : Cond.selects "TuneSchoolModel" ({ cls := "TuneSchoolModel", name := "firstFault", desc := "(IIIII)I" } : MethodName) ({ cls := "TuneSchoolModel", name := "firstFault", desc := "(IIIII)I" } : MethodName) ∈ gtb := mgs (i := 42) rfl rfl
theorem qs_43 : Cond.selects "TuneSchoolModel" ({ cls := "TuneSchoolModel", name := "followed", desc := "(IIIII)I" } : MethodName) ({ cls := "TuneSchoolModel", name := "followed", desc := "(IIIII)I" } : MethodName) ∈ gtb := mgs (i := 43) rfl rfl
theorem qs_44 : Cond.selects "TuneSchoolModel" ({ cls := "TuneSchoolModel", name := "goesOn", desc := "(I)I" } : MethodName) ({ cls := "TuneSchoolModel", name := "goesOn", desc := "(I)I" } : MethodName) ∈ gtb := mgs (i := 44) rfl rfl
theorem qs_45 : Cond.selects "TuneSchoolModel" ({ cls := "TuneSchoolModel", name := "laySetting", desc := "()V" } : MethodName) ({ cls := "TuneSchoolModel", name := "laySetting", desc := "()V" } : MethodName) ∈ gtb := mgs (i := 45) rfl rfl
theorem qs_46 : Cond.selects "TuneSchoolModel" ({ cls := "TuneSchoolModel", name := "work", desc := "(I)V" } : MethodName) ({ cls := "TuneSchoolModel", name := "work", desc := "(I)V" } : MethodName) ∈ gtb := mgs (i := 46) rfl rfl
theorem qs_47 : Cond.selects "TuneSchoolModel" ({ cls := "TuneSchoolModel", name := "isHeard", desc := "(I)Z" } : MethodName) ({ cls := "TuneSchoolModel", name := "isHeard", desc := "(I)Z" } : MethodName) ∈ gtb := mgs (i := 47) rfl rfl
theorem qs_48 : Cond.selects "TuneSchoolModel" ({ cls := "TuneSchoolModel", name := "fit", desc := "(I)V" } : MethodName) ({ cls := "TuneSchoolModel", name := "fit", desc := "(I)V" } : MethodName) ∈ gtb := mgs (i := 48) rfl rfl
theorem qs_49 : Cond.selects "TuneSchoolModel" ({ cls := "TuneSchoolModel", name := "nextHeard", desc := "(I)I" } : MethodName) ({ cls := "TuneSchoolModel", name := "nextHeard", desc := "(I)I" } : MethodName) ∈ gtb := mgs (i := 49) rfl rfl
theorem qs_50 : Cond.selects "TuneSchoolModel" ({ cls := "TuneSchoolModel", name := "isJoined", desc := "(II)Z" } : MethodName) ({ cls := "TuneSchoolModel", name := "isJoined", desc := "(II)Z" } : MethodName) ∈ gtb := mgs (i := 50) rfl rfl
theorem qs_51 : Cond.selects "TuneSchoolModel" ({ cls := "TuneSchoolModel", name := "fits", desc := "(III)Z" } : MethodName) ({ cls := "TuneSchoolModel", name := "fits", desc := "(III)Z" } : MethodName) ∈ gtb := mgs (i := 51) rfl rfl
theorem qs_52 : Cond.selects "TuneSchoolModel" ({ cls := "TuneSchoolModel", name := "reckon", desc := "(III)V" } : MethodName) ({ cls := "TuneSchoolModel", name := "reckon", desc := "(III)V" } : MethodName) ∈ gtb := mgs (i := 52) rfl rfl
theorem qs_53 : Cond.selects "TuneSchoolModel" ({ cls := "TuneSchoolModel", name := "dueBehind", desc := "(III)I" } : MethodName) ({ cls := "TuneSchoolModel", name := "dueBehind", desc := "(III)I" } : MethodName) ∈ gtb := mgs (i := 53) rfl rfl
theorem qs_54 : Cond.selects "TuneSchoolModel" ({ cls := "TuneSchoolModel", name := "mustAnswer", desc := "(I)Z" } : MethodName) ({ cls := "TuneSchoolModel", name := "mustAnswer", desc := "(I)Z" } : MethodName) ∈ gtb := mgs (i := 54) rfl rfl
theorem qs_55 : Cond.selects "TuneSchoolModel" ({ cls := "TuneSchoolModel", name := "step", desc := "(II)I" } : MethodName) ({ cls := "TuneSchoolModel", name := "step", desc := "(II)I" } : MethodName) ∈ gtb := mgs (i := 55) rfl rfl
theorem qs_56 : Cond.selects "TuneSchoolModel" ({ cls := "TuneSchoolModel", name := "at", desc := "(III)I" } : MethodName) ({ cls := "TuneSchoolModel", name := "at", desc := "(III)I" } : MethodName) ∈ gtb := mgs (i := 56) rfl rfl
theorem qs_57 : Cond.selects "TuneSchoolModel" ({ cls := "TuneSchoolModel", name := "finish", desc := "()V" } : MethodName) ({ cls := "TuneSchoolModel", name := "finish", desc := "()V" } : MethodName) ∈ gtb := mgs (i := 57) rfl rfl
theorem qs_58 : Cond.selects "TuneSchoolModel" ({ cls := "TuneSchoolModel", name := "reckonTune", desc := "()V" } : MethodName) ({ cls := "TuneSchoolModel", name := "reckonTune", desc := "()V" } : MethodName) ∈ gtb := mgs (i := 58) rfl rfl
theorem qs_59 : Cond.selects "TuneSchoolModel" ({ cls := "TuneSchoolModel", name := "hasLeast", desc := "(I)Z" } : MethodName) ({ cls := "TuneSchoolModel", name := "hasLeast", desc := "(I)Z" } : MethodName) ∈ gtb := mgs (i := 59) rfl rfl
theorem qs_60 : Cond.selects "TuneSchoolModel" ({ cls := "TuneSchoolModel", name := "say", desc := "(I)V" } : MethodName) ({ cls := "TuneSchoolModel", name := "say", desc := "(I)V" } : MethodName) ∈ gtb := mgs (i := 60) rfl rfl
theorem qs_61 : Cond.selects "TuneSchoolModel" ({ cls := "TuneSchoolModel", name := "wrongIn", desc := "()I" } : MethodName) ({ cls := "TuneSchoolModel", name := "wrongIn", desc := "()I" } : MethodName) ∈ gtb := mgs (i := 61) rfl rfl
theorem qs_62 : Cond.selects "TuneSchoolModel" ({ cls := "TuneSchoolModel", name := "charAt", desc := "(I)I" } : MethodName) ({ cls := "TuneSchoolModel", name := "charAt", desc := "(I)I" } : MethodName) ∈ gtb := mgs (i := 62) rfl rfl
end
section
theorem dX11_init_0 : decode cX11_init 0 = .ok (.aload_n 0, 1) := by decide +kernel
theorem dX11_init_1 : decode cX11_init 1 = .ok (.invokespecial 1, 3) := by decide +kernel
theorem dX11_init_4 : decode cX11_init 4 = .ok (.aload_n 0, 1) := by decide +kernel
theorem dX11_init_5 : decode cX11_init 5 = .ok (.bipush 6, 2) := by decide +kernel
theorem dX11_init_7 : decode cX11_init 7 = .ok (.anewarray 9, 3) := by decide +kernel
theorem dX11_init_10 : decode cX11_init 10 = .ok (.putfield 11, 3) := by decide +kernel
theorem dX11_init_13 : decode cX11_init 13 = .ok (.aload_n 0, 1) := by decide +kernel
theorem dX11_init_14 : decode cX11_init 14 = .ok (.new 9, 3) := by decide +kernel
theorem dX11_init_17 : decode cX11_init 17 = .ok (.dup, 1) := by decide +kernel
theorem dX11_init_18 : decode cX11_init 18 = .ok (.invokespecial 15, 3) := by decide +kernel
theorem dX11_init_21 : decode cX11_init 21 = .ok (.putfield 16, 3) := by decide +kernel
theorem dX11_init_24 : decode cX11_init 24 = .ok (.aload_n 0, 1) := by decide +kernel
theorem dX11_init_25 : decode cX11_init 25 = .ok (.new 9, 3) := by decide +kernel
theorem dX11_init_28 : decode cX11_init 28 = .ok (.dup, 1) := by decide +kernel
theorem dX11_init_29 : decode cX11_init 29 = .ok (.invokespecial 15, 3) := by decide +kernel
theorem dX11_init_32 : decode cX11_init 32 = .ok (.putfield 20, 3) := by decide +kernel
theorem dX11_init_35 : decode cX11_init 35 = .ok (.aload_n 0, 1) := by decide +kernel
theorem dX11_init_36 : decode cX11_init 36 = .ok (.new 9, 3) := by decide +kernel
theorem dX11_init_39 : decode cX11_init 39 = .ok (.dup, 1) := by decide +kernel
theorem dX11_init_40 : decode cX11_init 40 = .ok (.invokespecial 15, 3) := by decide +kernel
theorem dX11_init_43 : decode cX11_init 43 = .ok (.putfield 23, 3) := by decide +kernel
theorem dX11_init_46 : decode cX11_init 46 = .ok (.aload_n 0, 1) := by decide +kernel
theorem dX11_init_47 : decode cX11_init 47 = .ok (.bipush 16, 2) := by decide +kernel
theorem dX11_init_49 : decode cX11_init 49 = .ok (.anewarray 26, 3) := by decide +kernel
theorem dX11_init_52 : decode cX11_init 52 = .ok (.putfield 28, 3) := by decide +kernel
theorem dX11_init_55 : decode cX11_init 55 = .ok (.aload_n 0, 1) := by decide +kernel
theorem dX11_init_56 : decode cX11_init 56 = .ok (.new 32, 3) := by decide +kernel
theorem dX11_init_59 : decode cX11_init 59 = .ok (.dup, 1) := by decide +kernel
theorem dX11_init_60 : decode cX11_init 60 = .ok (.invokespecial 34, 3) := by decide +kernel
theorem dX11_init_63 : decode cX11_init 63 = .ok (.putfield 35, 3) := by decide +kernel
theorem dX11_init_66 : decode cX11_init 66 = .ok (.aload_n 0, 1) := by decide +kernel
theorem dX11_init_67 : decode cX11_init 67 = .ok (.new 39, 3) := by decide +kernel
theorem dX11_init_70 : decode cX11_init 70 = .ok (.dup, 1) := by decide +kernel
theorem dX11_init_71 : decode cX11_init 71 = .ok (.aload_n 0, 1) := by decide +kernel
theorem dX11_init_72 : decode cX11_init 72 = .ok (.getfield 35, 3) := by decide +kernel
theorem dX11_init_75 : decode cX11_init 75 = .ok (.invokespecial 41, 3) := by decide +kernel
theorem dX11_init_78 : decode cX11_init 78 = .ok (.putfield 44, 3) := by decide +kernel
theorem dX11_init_81 : decode cX11_init 81 = .ok (.aload_n 0, 1) := by decide +kernel
theorem dX11_init_82 : decode cX11_init 82 = .ok (.new 48, 3) := by decide +kernel
theorem dX11_init_85 : decode cX11_init 85 = .ok (.dup, 1) := by decide +kernel
theorem dX11_init_86 : decode cX11_init 86 = .ok (.invokespecial 50, 3) := by decide +kernel
theorem dX11_init_89 : decode cX11_init 89 = .ok (.putfield 51, 3) := by decide +kernel
theorem dX11_init_92 : decode cX11_init 92 = .ok (.aload_n 0, 1) := by decide +kernel
theorem dX11_init_93 : decode cX11_init 93 = .ok (.bipush 36, 2) := by decide +kernel
theorem dX11_init_95 : decode cX11_init 95 = .ok (.newarray .int, 2) := by decide +kernel
theorem dX11_init_97 : decode cX11_init 97 = .ok (.putfield 55, 3) := by decide +kernel
theorem dX11_init_100 : decode cX11_init 100 = .ok (.aload_n 0, 1) := by decide +kernel
theorem dX11_init_101 : decode cX11_init 101 = .ok (.sipush 200, 3) := by decide +kernel
theorem dX11_init_104 : decode cX11_init 104 = .ok (.anewarray 59, 3) := by decide +kernel
theorem dX11_init_107 : decode cX11_init 107 = .ok (.putfield 61, 3) := by decide +kernel
theorem dX11_init_110 : decode cX11_init 110 = .ok (.aload_n 0, 1) := by decide +kernel
theorem dX11_init_111 : decode cX11_init 111 = .ok (.sipush 800, 3) := by decide +kernel
theorem dX11_init_114 : decode cX11_init 114 = .ok (.newarray .int, 2) := by decide +kernel
theorem dX11_init_116 : decode cX11_init 116 = .ok (.putfield 65, 3) := by decide +kernel
theorem dX11_init_119 : decode cX11_init 119 = .ok (.aload_n 0, 1) := by decide +kernel
theorem dX11_init_120 : decode cX11_init 120 = .ok (.bipush (-2), 2) := by decide +kernel
theorem dX11_init_122 : decode cX11_init 122 = .ok (.putfield 68, 3) := by decide +kernel
theorem dX11_init_125 : decode cX11_init 125 = .ok (.iconst 0, 1) := by decide +kernel
theorem dX11_init_126 : decode cX11_init 126 = .ok (.istore_n 1, 1) := by decide +kernel
theorem dX11_init_127 : decode cX11_init 127 = .ok (.iload_n 1, 1) := by decide +kernel
theorem dX11_init_128 : decode cX11_init 128 = .ok (.bipush 6, 2) := by decide +kernel
theorem dX11_init_130 : decode cX11_init 130 = .ok (.if_icmp .ge 22, 3) := by decide +kernel
theorem dX11_init_133 : decode cX11_init 133 = .ok (.aload_n 0, 1) := by decide +kernel
theorem dX11_init_134 : decode cX11_init 134 = .ok (.getfield 11, 3) := by decide +kernel
theorem dX11_init_137 : decode cX11_init 137 = .ok (.iload_n 1, 1) := by decide +kernel
theorem dX11_init_138 : decode cX11_init 138 = .ok (.new 9, 3) := by decide +kernel
theorem dX11_init_141 : decode cX11_init 141 = .ok (.dup, 1) := by decide +kernel
theorem dX11_init_142 : decode cX11_init 142 = .ok (.invokespecial 15, 3) := by decide +kernel
theorem dX11_init_145 : decode cX11_init 145 = .ok (.aastore, 1) := by decide +kernel
theorem dX11_init_146 : decode cX11_init 146 = .ok (.iinc 1 1, 3) := by decide +kernel
theorem dX11_init_149 : decode cX11_init 149 = .ok (.goto (-22), 3) := by decide +kernel
theorem dX11_init_152 : decode cX11_init 152 = .ok (.return_, 1) := by decide +kernel
theorem dX11_voice_0 : decode cX11_voice 0 = .ok (.iload_n 1, 1) := by decide +kernel
theorem dX11_voice_1 : decode cX11_voice 1 = .ok (.invokestatic 72, 3) := by decide +kernel
theorem dX11_voice_4 : decode cX11_voice 4 = .ok (.ifCond .eq 9, 3) := by decide +kernel
theorem dX11_voice_7 : decode cX11_voice 7 = .ok (.iload_n 2, 1) := by decide +kernel
theorem dX11_voice_8 : decode cX11_voice 8 = .ok (.bipush 24, 2) := by decide +kernel
theorem dX11_voice_10 : decode cX11_voice 10 = .ok (.if_icmp .le 5, 3) := by decide +kernel
theorem dX11_voice_13 : decode cX11_voice 13 = .ok (.iconst (-1), 1) := by decide +kernel
theorem dX11_voice_14 : decode cX11_voice 14 = .ok (.ireturn, 1) := by decide +kernel
theorem dX11_voice_15 : decode cX11_voice 15 = .ok (.iload_n 2, 1) := by decide +kernel
theorem dX11_voice_16 : decode cX11_voice 16 = .ok (.ifCond .ge 9, 3) := by decide +kernel
theorem dX11_voice_19 : decode cX11_voice 19 = .ok (.aload_n 0, 1) := by decide +kernel
theorem dX11_voice_20 : decode cX11_voice 20 = .ok (.iconst 5, 1) := by decide +kernel
theorem dX11_voice_21 : decode cX11_voice 21 = .ok (.invokevirtual 76, 3) := by decide +kernel
theorem dX11_voice_24 : decode cX11_voice 24 = .ok (.ireturn, 1) := by decide +kernel
theorem dX11_voice_25 : decode cX11_voice 25 = .ok (.aload_n 0, 1) := by decide +kernel
theorem dX11_voice_26 : decode cX11_voice 26 = .ok (.iload_n 1, 1) := by decide +kernel
theorem dX11_voice_27 : decode cX11_voice 27 = .ok (.invokevirtual 80, 3) := by decide +kernel
theorem dX11_voice_30 : decode cX11_voice 30 = .ok (.aload_n 0, 1) := by decide +kernel
theorem dX11_voice_31 : decode cX11_voice 31 = .ok (.getfield 11, 3) := by decide +kernel
theorem dX11_voice_34 : decode cX11_voice 34 = .ok (.iload_n 1, 1) := by decide +kernel
theorem dX11_voice_35 : decode cX11_voice 35 = .ok (.aaload, 1) := by decide +kernel
theorem dX11_voice_36 : decode cX11_voice 36 = .ok (.iload_n 2, 1) := by decide +kernel
theorem dX11_voice_37 : decode cX11_voice 37 = .ok (.invokevirtual 84, 3) := by decide +kernel
theorem dX11_voice_40 : decode cX11_voice 40 = .ok (.aload_n 0, 1) := by decide +kernel
theorem dX11_voice_41 : decode cX11_voice 41 = .ok (.iconst 1, 1) := by decide +kernel
theorem dX11_voice_42 : decode cX11_voice 42 = .ok (.invokevirtual 87, 3) := by decide +kernel
theorem dX11_voice_45 : decode cX11_voice 45 = .ok (.ireturn, 1) := by decide +kernel
theorem dX11_drop_0 : decode cX11_drop 0 = .ok (.iload_n 1, 1) := by decide +kernel
theorem dX11_drop_1 : decode cX11_drop 1 = .ok (.invokestatic 72, 3) := by decide +kernel
theorem dX11_drop_4 : decode cX11_drop 4 = .ok (.ifCond .ne 5, 3) := by decide +kernel
theorem dX11_drop_7 : decode cX11_drop 7 = .ok (.iconst (-1), 1) := by decide +kernel
theorem dX11_drop_8 : decode cX11_drop 8 = .ok (.ireturn, 1) := by decide +kernel
theorem dX11_drop_9 : decode cX11_drop 9 = .ok (.aload_n 0, 1) := by decide +kernel
theorem dX11_drop_10 : decode cX11_drop 10 = .ok (.iload_n 1, 1) := by decide +kernel
theorem dX11_drop_11 : decode cX11_drop 11 = .ok (.invokevirtual 80, 3) := by decide +kernel
theorem dX11_drop_14 : decode cX11_drop 14 = .ok (.aload_n 0, 1) := by decide +kernel
theorem dX11_drop_15 : decode cX11_drop 15 = .ok (.getfield 11, 3) := by decide +kernel
theorem dX11_drop_18 : decode cX11_drop 18 = .ok (.iload_n 1, 1) := by decide +kernel
theorem dX11_drop_19 : decode cX11_drop 19 = .ok (.aaload, 1) := by decide +kernel
theorem dX11_drop_20 : decode cX11_drop 20 = .ok (.getfield 90, 3) := by decide +kernel
theorem dX11_drop_23 : decode cX11_drop 23 = .ok (.ifCond .eq 7, 3) := by decide +kernel
theorem dX11_drop_26 : decode cX11_drop 26 = .ok (.iconst 1, 1) := by decide +kernel
theorem dX11_drop_27 : decode cX11_drop 27 = .ok (.goto 4, 3) := by decide +kernel
theorem dX11_drop_30 : decode cX11_drop 30 = .ok (.iconst 0, 1) := by decide +kernel
theorem dX11_drop_31 : decode cX11_drop 31 = .ok (.istore_n 2, 1) := by decide +kernel
theorem dX11_drop_32 : decode cX11_drop 32 = .ok (.aload_n 0, 1) := by decide +kernel
theorem dX11_drop_33 : decode cX11_drop 33 = .ok (.getfield 11, 3) := by decide +kernel
theorem dX11_drop_36 : decode cX11_drop 36 = .ok (.iload_n 1, 1) := by decide +kernel
theorem dX11_drop_37 : decode cX11_drop 37 = .ok (.aaload, 1) := by decide +kernel
theorem dX11_drop_38 : decode cX11_drop 38 = .ok (.iconst 0, 1) := by decide +kernel
theorem dX11_drop_39 : decode cX11_drop 39 = .ok (.putfield 90, 3) := by decide +kernel
theorem dX11_drop_42 : decode cX11_drop 42 = .ok (.aload_n 0, 1) := by decide +kernel
theorem dX11_drop_43 : decode cX11_drop 43 = .ok (.iload_n 2, 1) := by decide +kernel
theorem dX11_drop_44 : decode cX11_drop 44 = .ok (.invokevirtual 87, 3) := by decide +kernel
theorem dX11_drop_47 : decode cX11_drop 47 = .ok (.ireturn, 1) := by decide +kernel
theorem dX11_note_0 : decode cX11_note 0 = .ok (.iload_n 1, 1) := by decide +kernel
theorem dX11_note_1 : decode cX11_note 1 = .ok (.invokestatic 72, 3) := by decide +kernel
theorem dX11_note_4 : decode cX11_note 4 = .ok (.ifCond .eq 24, 3) := by decide +kernel
theorem dX11_note_7 : decode cX11_note 7 = .ok (.iload_n 3, 1) := by decide +kernel
theorem dX11_note_8 : decode cX11_note 8 = .ok (.iconst 0, 1) := by decide +kernel
theorem dX11_note_9 : decode cX11_note 9 = .ok (.bipush 120, 2) := by decide +kernel
theorem dX11_note_11 : decode cX11_note 11 = .ok (.invokestatic 94, 3) := by decide +kernel
theorem dX11_note_14 : decode cX11_note 14 = .ok (.ifCond .eq 14, 3) := by decide +kernel
theorem dX11_note_17 : decode cX11_note 17 = .ok (.iload 4, 2) := by decide +kernel
theorem dX11_note_19 : decode cX11_note 19 = .ok (.iconst 0, 1) := by decide +kernel
theorem dX11_note_20 : decode cX11_note 20 = .ok (.bipush 8, 2) := by decide +kernel
theorem dX11_note_22 : decode cX11_note 22 = .ok (.invokestatic 94, 3) := by decide +kernel
theorem dX11_note_25 : decode cX11_note 25 = .ok (.ifCond .ne 5, 3) := by decide +kernel
theorem dX11_note_28 : decode cX11_note 28 = .ok (.iconst (-1), 1) := by decide +kernel
theorem dX11_note_29 : decode cX11_note 29 = .ok (.ireturn, 1) := by decide +kernel
theorem dX11_note_30 : decode cX11_note 30 = .ok (.aload_n 0, 1) := by decide +kernel
theorem dX11_note_31 : decode cX11_note 31 = .ok (.getfield 11, 3) := by decide +kernel
theorem dX11_note_34 : decode cX11_note 34 = .ok (.iload_n 1, 1) := by decide +kernel
theorem dX11_note_35 : decode cX11_note 35 = .ok (.aaload, 1) := by decide +kernel
theorem dX11_note_36 : decode cX11_note 36 = .ok (.astore 5, 2) := by decide +kernel
theorem dX11_note_38 : decode cX11_note 38 = .ok (.aload 5, 2) := by decide +kernel
theorem dX11_note_40 : decode cX11_note 40 = .ok (.getfield 90, 3) := by decide +kernel
theorem dX11_note_43 : decode cX11_note 43 = .ok (.ifCond .ne 9, 3) := by decide +kernel
theorem dX11_note_46 : decode cX11_note 46 = .ok (.aload_n 0, 1) := by decide +kernel
theorem dX11_note_47 : decode cX11_note 47 = .ok (.iconst 1, 1) := by decide +kernel
theorem dX11_note_48 : decode cX11_note 48 = .ok (.invokevirtual 76, 3) := by decide +kernel
theorem dX11_note_51 : decode cX11_note 51 = .ok (.ireturn, 1) := by decide +kernel
theorem dX11_note_52 : decode cX11_note 52 = .ok (.aload 5, 2) := by decide +kernel
theorem dX11_note_54 : decode cX11_note 54 = .ok (.iconst 0, 1) := by decide +kernel
theorem dX11_note_55 : decode cX11_note 55 = .ok (.iload_n 2, 1) := by decide +kernel
theorem dX11_note_56 : decode cX11_note 56 = .ok (.invokevirtual 98, 3) := by decide +kernel
theorem dX11_note_59 : decode cX11_note 59 = .ok (.ifCond .eq 13, 3) := by decide +kernel
theorem dX11_note_62 : decode cX11_note 62 = .ok (.aload 5, 2) := by decide +kernel
theorem dX11_note_64 : decode cX11_note 64 = .ok (.iconst 1, 1) := by decide +kernel
theorem dX11_note_65 : decode cX11_note 65 = .ok (.iload_n 2, 1) := by decide +kernel
theorem dX11_note_66 : decode cX11_note 66 = .ok (.invokevirtual 98, 3) := by decide +kernel
theorem dX11_note_69 : decode cX11_note 69 = .ok (.ifCond .ne 9, 3) := by decide +kernel
theorem dX11_note_72 : decode cX11_note 72 = .ok (.aload_n 0, 1) := by decide +kernel
theorem dX11_note_73 : decode cX11_note 73 = .ok (.iconst 2, 1) := by decide +kernel
theorem dX11_note_74 : decode cX11_note 74 = .ok (.invokevirtual 76, 3) := by decide +kernel
theorem dX11_note_77 : decode cX11_note 77 = .ok (.ireturn, 1) := by decide +kernel
theorem dX11_note_78 : decode cX11_note 78 = .ok (.aload_n 0, 1) := by decide +kernel
theorem dX11_note_79 : decode cX11_note 79 = .ok (.iload_n 1, 1) := by decide +kernel
theorem dX11_note_80 : decode cX11_note 80 = .ok (.invokevirtual 80, 3) := by decide +kernel
theorem dX11_note_83 : decode cX11_note 83 = .ok (.aload 5, 2) := by decide +kernel
theorem dX11_note_85 : decode cX11_note 85 = .ok (.getfield 102, 3) := by decide +kernel
theorem dX11_note_88 : decode cX11_note 88 = .ok (.iconst 0, 1) := by decide +kernel
theorem dX11_note_89 : decode cX11_note 89 = .ok (.aaload, 1) := by decide +kernel
theorem dX11_note_90 : decode cX11_note 90 = .ok (.iload_n 2, 1) := by decide +kernel
theorem dX11_note_91 : decode cX11_note 91 = .ok (.iload_n 3, 1) := by decide +kernel
theorem dX11_note_92 : decode cX11_note 92 = .ok (.iastore, 1) := by decide +kernel
theorem dX11_note_93 : decode cX11_note 93 = .ok (.aload 5, 2) := by decide +kernel
theorem dX11_note_95 : decode cX11_note 95 = .ok (.getfield 102, 3) := by decide +kernel
theorem dX11_note_98 : decode cX11_note 98 = .ok (.iconst 1, 1) := by decide +kernel
theorem dX11_note_99 : decode cX11_note 99 = .ok (.aaload, 1) := by decide +kernel
theorem dX11_note_100 : decode cX11_note 100 = .ok (.iload_n 2, 1) := by decide +kernel
theorem dX11_note_101 : decode cX11_note 101 = .ok (.iload 4, 2) := by decide +kernel
theorem dX11_note_103 : decode cX11_note 103 = .ok (.iastore, 1) := by decide +kernel
theorem dX11_note_104 : decode cX11_note 104 = .ok (.aload_n 0, 1) := by decide +kernel
theorem dX11_note_105 : decode cX11_note 105 = .ok (.iconst 1, 1) := by decide +kernel
theorem dX11_note_106 : decode cX11_note 106 = .ok (.invokevirtual 87, 3) := by decide +kernel
theorem dX11_note_109 : decode cX11_note 109 = .ok (.ireturn, 1) := by decide +kernel
theorem dX11_cut_0 : decode cX11_cut 0 = .ok (.iload_n 1, 1) := by decide +kernel
theorem dX11_cut_1 : decode cX11_cut 1 = .ok (.invokestatic 72, 3) := by decide +kernel
theorem dX11_cut_4 : decode cX11_cut 4 = .ok (.ifCond .eq 16, 3) := by decide +kernel
theorem dX11_cut_7 : decode cX11_cut 7 = .ok (.iload_n 2, 1) := by decide +kernel
theorem dX11_cut_8 : decode cX11_cut 8 = .ok (.invokestatic 106, 3) := by decide +kernel
theorem dX11_cut_11 : decode cX11_cut 11 = .ok (.ifCond .eq 9, 3) := by decide +kernel
theorem dX11_cut_14 : decode cX11_cut 14 = .ok (.iload_n 3, 1) := by decide +kernel
theorem dX11_cut_15 : decode cX11_cut 15 = .ok (.bipush 24, 2) := by decide +kernel
theorem dX11_cut_17 : decode cX11_cut 17 = .ok (.if_icmp .le 5, 3) := by decide +kernel
theorem dX11_cut_20 : decode cX11_cut 20 = .ok (.iconst (-1), 1) := by decide +kernel
theorem dX11_cut_21 : decode cX11_cut 21 = .ok (.ireturn, 1) := by decide +kernel
theorem dX11_cut_22 : decode cX11_cut 22 = .ok (.aload_n 0, 1) := by decide +kernel
theorem dX11_cut_23 : decode cX11_cut 23 = .ok (.getfield 11, 3) := by decide +kernel
theorem dX11_cut_26 : decode cX11_cut 26 = .ok (.iload_n 1, 1) := by decide +kernel
theorem dX11_cut_27 : decode cX11_cut 27 = .ok (.aaload, 1) := by decide +kernel
theorem dX11_cut_28 : decode cX11_cut 28 = .ok (.astore 4, 2) := by decide +kernel
theorem dX11_cut_30 : decode cX11_cut 30 = .ok (.aload 4, 2) := by decide +kernel
theorem dX11_cut_32 : decode cX11_cut 32 = .ok (.getfield 90, 3) := by decide +kernel
theorem dX11_cut_35 : decode cX11_cut 35 = .ok (.ifCond .ne 9, 3) := by decide +kernel
theorem dX11_cut_38 : decode cX11_cut 38 = .ok (.aload_n 0, 1) := by decide +kernel
theorem dX11_cut_39 : decode cX11_cut 39 = .ok (.iconst 1, 1) := by decide +kernel
theorem dX11_cut_40 : decode cX11_cut 40 = .ok (.invokevirtual 76, 3) := by decide +kernel
theorem dX11_cut_43 : decode cX11_cut 43 = .ok (.ireturn, 1) := by decide +kernel
theorem dX11_cut_44 : decode cX11_cut 44 = .ok (.iload_n 3, 1) := by decide +kernel
theorem dX11_cut_45 : decode cX11_cut 45 = .ok (.ifCond .ge 9, 3) := by decide +kernel
theorem dX11_cut_48 : decode cX11_cut 48 = .ok (.aload_n 0, 1) := by decide +kernel
theorem dX11_cut_49 : decode cX11_cut 49 = .ok (.iconst 5, 1) := by decide +kernel
theorem dX11_cut_50 : decode cX11_cut 50 = .ok (.invokevirtual 76, 3) := by decide +kernel
theorem dX11_cut_53 : decode cX11_cut 53 = .ok (.ireturn, 1) := by decide +kernel
theorem dX11_cut_54 : decode cX11_cut 54 = .ok (.aload 4, 2) := by decide +kernel
theorem dX11_cut_56 : decode cX11_cut 56 = .ok (.getfield 109, 3) := by decide +kernel
theorem dX11_cut_59 : decode cX11_cut 59 = .ok (.iload_n 2, 1) := by decide +kernel
theorem dX11_cut_60 : decode cX11_cut 60 = .ok (.iaload, 1) := by decide +kernel
theorem dX11_cut_61 : decode cX11_cut 61 = .ok (.istore 5, 2) := by decide +kernel
theorem dX11_cut_63 : decode cX11_cut 63 = .ok (.iload_n 3, 1) := by decide +kernel
theorem dX11_cut_64 : decode cX11_cut 64 = .ok (.iload 5, 2) := by decide +kernel
theorem dX11_cut_66 : decode cX11_cut 66 = .ok (.if_icmp .le 9, 3) := by decide +kernel
theorem dX11_cut_69 : decode cX11_cut 69 = .ok (.aload_n 0, 1) := by decide +kernel
theorem dX11_cut_70 : decode cX11_cut 70 = .ok (.iconst 2, 1) := by decide +kernel
theorem dX11_cut_71 : decode cX11_cut 71 = .ok (.invokevirtual 76, 3) := by decide +kernel
theorem dX11_cut_74 : decode cX11_cut 74 = .ok (.ireturn, 1) := by decide +kernel
theorem dX11_cut_75 : decode cX11_cut 75 = .ok (.aload_n 0, 1) := by decide +kernel
theorem dX11_cut_76 : decode cX11_cut 76 = .ok (.iload_n 1, 1) := by decide +kernel
theorem dX11_cut_77 : decode cX11_cut 77 = .ok (.invokevirtual 80, 3) := by decide +kernel
theorem dX11_cut_80 : decode cX11_cut 80 = .ok (.aload 4, 2) := by decide +kernel
theorem dX11_cut_82 : decode cX11_cut 82 = .ok (.getfield 109, 3) := by decide +kernel
theorem dX11_cut_85 : decode cX11_cut 85 = .ok (.iload_n 2, 1) := by decide +kernel
theorem dX11_cut_86 : decode cX11_cut 86 = .ok (.iload_n 3, 1) := by decide +kernel
theorem dX11_cut_87 : decode cX11_cut 87 = .ok (.iastore, 1) := by decide +kernel
theorem dX11_cut_88 : decode cX11_cut 88 = .ok (.aload_n 0, 1) := by decide +kernel
theorem dX11_cut_89 : decode cX11_cut 89 = .ok (.iload 5, 2) := by decide +kernel
theorem dX11_cut_91 : decode cX11_cut 91 = .ok (.invokevirtual 87, 3) := by decide +kernel
theorem dX11_cut_94 : decode cX11_cut 94 = .ok (.ireturn, 1) := by decide +kernel
theorem dX11_size_0 : decode cX11_size 0 = .ok (.iload_n 1, 1) := by decide +kernel
theorem dX11_size_1 : decode cX11_size 1 = .ok (.invokestatic 72, 3) := by decide +kernel
theorem dX11_size_4 : decode cX11_size 4 = .ok (.ifCond .eq 10, 3) := by decide +kernel
theorem dX11_size_7 : decode cX11_size 7 = .ok (.iload_n 2, 1) := by decide +kernel
theorem dX11_size_8 : decode cX11_size 8 = .ok (.invokestatic 106, 3) := by decide +kernel
theorem dX11_size_11 : decode cX11_size 11 = .ok (.ifCond .ne 5, 3) := by decide +kernel
theorem dX11_size_14 : decode cX11_size 14 = .ok (.iconst (-1), 1) := by decide +kernel
theorem dX11_size_15 : decode cX11_size 15 = .ok (.ireturn, 1) := by decide +kernel
theorem dX11_size_16 : decode cX11_size 16 = .ok (.aload_n 0, 1) := by decide +kernel
theorem dX11_size_17 : decode cX11_size 17 = .ok (.getfield 11, 3) := by decide +kernel
theorem dX11_size_20 : decode cX11_size 20 = .ok (.iload_n 1, 1) := by decide +kernel
theorem dX11_size_21 : decode cX11_size 21 = .ok (.aaload, 1) := by decide +kernel
theorem dX11_size_22 : decode cX11_size 22 = .ok (.getfield 90, 3) := by decide +kernel
theorem dX11_size_25 : decode cX11_size 25 = .ok (.ifCond .eq 21, 3) := by decide +kernel
theorem dX11_size_28 : decode cX11_size 28 = .ok (.aload_n 0, 1) := by decide +kernel
theorem dX11_size_29 : decode cX11_size 29 = .ok (.aload_n 0, 1) := by decide +kernel
theorem dX11_size_30 : decode cX11_size 30 = .ok (.getfield 11, 3) := by decide +kernel
theorem dX11_size_33 : decode cX11_size 33 = .ok (.iload_n 1, 1) := by decide +kernel
theorem dX11_size_34 : decode cX11_size 34 = .ok (.aaload, 1) := by decide +kernel
theorem dX11_size_35 : decode cX11_size 35 = .ok (.getfield 109, 3) := by decide +kernel
theorem dX11_size_38 : decode cX11_size 38 = .ok (.iload_n 2, 1) := by decide +kernel
theorem dX11_size_39 : decode cX11_size 39 = .ok (.iaload, 1) := by decide +kernel
theorem dX11_size_40 : decode cX11_size 40 = .ok (.invokevirtual 87, 3) := by decide +kernel
theorem dX11_size_43 : decode cX11_size 43 = .ok (.goto 8, 3) := by decide +kernel
theorem dX11_size_46 : decode cX11_size 46 = .ok (.aload_n 0, 1) := by decide +kernel
theorem dX11_size_47 : decode cX11_size 47 = .ok (.iconst 1, 1) := by decide +kernel
theorem dX11_size_48 : decode cX11_size 48 = .ok (.invokevirtual 76, 3) := by decide +kernel
theorem dX11_size_51 : decode cX11_size 51 = .ok (.ireturn, 1) := by decide +kernel
theorem dX11_number_0 : decode cX11_number 0 = .ok (.iload_n 1, 1) := by decide +kernel
theorem dX11_number_1 : decode cX11_number 1 = .ok (.invokestatic 72, 3) := by decide +kernel
theorem dX11_number_4 : decode cX11_number 4 = .ok (.ifCond .eq 10, 3) := by decide +kernel
theorem dX11_number_7 : decode cX11_number 7 = .ok (.iload_n 2, 1) := by decide +kernel
theorem dX11_number_8 : decode cX11_number 8 = .ok (.invokestatic 106, 3) := by decide +kernel
theorem dX11_number_11 : decode cX11_number 11 = .ok (.ifCond .ne 5, 3) := by decide +kernel
theorem dX11_number_14 : decode cX11_number 14 = .ok (.iconst (-1), 1) := by decide +kernel
theorem dX11_number_15 : decode cX11_number 15 = .ok (.ireturn, 1) := by decide +kernel
theorem dX11_number_16 : decode cX11_number 16 = .ok (.aload_n 0, 1) := by decide +kernel
theorem dX11_number_17 : decode cX11_number 17 = .ok (.getfield 11, 3) := by decide +kernel
theorem dX11_number_20 : decode cX11_number 20 = .ok (.iload_n 1, 1) := by decide +kernel
theorem dX11_number_21 : decode cX11_number 21 = .ok (.aaload, 1) := by decide +kernel
theorem dX11_number_22 : decode cX11_number 22 = .ok (.astore 4, 2) := by decide +kernel
theorem dX11_number_24 : decode cX11_number 24 = .ok (.aload 4, 2) := by decide +kernel
theorem dX11_number_26 : decode cX11_number 26 = .ok (.getfield 90, 3) := by decide +kernel
theorem dX11_number_29 : decode cX11_number 29 = .ok (.ifCond .ne 9, 3) := by decide +kernel
theorem dX11_number_32 : decode cX11_number 32 = .ok (.aload_n 0, 1) := by decide +kernel
theorem dX11_number_33 : decode cX11_number 33 = .ok (.iconst 1, 1) := by decide +kernel
theorem dX11_number_34 : decode cX11_number 34 = .ok (.invokevirtual 76, 3) := by decide +kernel
theorem dX11_number_37 : decode cX11_number 37 = .ok (.ireturn, 1) := by decide +kernel
theorem dX11_number_38 : decode cX11_number 38 = .ok (.aload 4, 2) := by decide +kernel
theorem dX11_number_40 : decode cX11_number 40 = .ok (.iload_n 2, 1) := by decide +kernel
theorem dX11_number_41 : decode cX11_number 41 = .ok (.iload_n 3, 1) := by decide +kernel
theorem dX11_number_42 : decode cX11_number 42 = .ok (.invokevirtual 98, 3) := by decide +kernel
theorem dX11_number_45 : decode cX11_number 45 = .ok (.ifCond .eq 19, 3) := by decide +kernel
theorem dX11_number_48 : decode cX11_number 48 = .ok (.aload_n 0, 1) := by decide +kernel
theorem dX11_number_49 : decode cX11_number 49 = .ok (.aload 4, 2) := by decide +kernel
theorem dX11_number_51 : decode cX11_number 51 = .ok (.getfield 102, 3) := by decide +kernel
theorem dX11_number_54 : decode cX11_number 54 = .ok (.iload_n 2, 1) := by decide +kernel
theorem dX11_number_55 : decode cX11_number 55 = .ok (.aaload, 1) := by decide +kernel
theorem dX11_number_56 : decode cX11_number 56 = .ok (.iload_n 3, 1) := by decide +kernel
theorem dX11_number_57 : decode cX11_number 57 = .ok (.iaload, 1) := by decide +kernel
theorem dX11_number_58 : decode cX11_number 58 = .ok (.invokevirtual 87, 3) := by decide +kernel
theorem dX11_number_61 : decode cX11_number 61 = .ok (.goto 8, 3) := by decide +kernel
theorem dX11_number_64 : decode cX11_number 64 = .ok (.aload_n 0, 1) := by decide +kernel
theorem dX11_number_65 : decode cX11_number 65 = .ok (.iconst 2, 1) := by decide +kernel
theorem dX11_number_66 : decode cX11_number 66 = .ok (.invokevirtual 76, 3) := by decide +kernel
theorem dX11_number_69 : decode cX11_number 69 = .ok (.ireturn, 1) := by decide +kernel
theorem dX11_end_0 : decode cX11_end 0 = .ok (.iload_n 1, 1) := by decide +kernel
theorem dX11_end_1 : decode cX11_end 1 = .ok (.invokestatic 72, 3) := by decide +kernel
theorem dX11_end_4 : decode cX11_end 4 = .ok (.ifCond .ne 5, 3) := by decide +kernel
theorem dX11_end_7 : decode cX11_end 7 = .ok (.iconst (-1), 1) := by decide +kernel
theorem dX11_end_8 : decode cX11_end 8 = .ok (.ireturn, 1) := by decide +kernel
theorem dX11_end_9 : decode cX11_end 9 = .ok (.aload_n 0, 1) := by decide +kernel
theorem dX11_end_10 : decode cX11_end 10 = .ok (.getfield 11, 3) := by decide +kernel
theorem dX11_end_13 : decode cX11_end 13 = .ok (.iload_n 1, 1) := by decide +kernel
theorem dX11_end_14 : decode cX11_end 14 = .ok (.aaload, 1) := by decide +kernel
theorem dX11_end_15 : decode cX11_end 15 = .ok (.invokestatic 112, 3) := by decide +kernel
theorem dX11_end_18 : decode cX11_end 18 = .ok (.istore_n 2, 1) := by decide +kernel
theorem dX11_end_19 : decode cX11_end 19 = .ok (.iload_n 2, 1) := by decide +kernel
theorem dX11_end_20 : decode cX11_end 20 = .ok (.ifCond .ne 19, 3) := by decide +kernel
theorem dX11_end_23 : decode cX11_end 23 = .ok (.aload_n 0, 1) := by decide +kernel
theorem dX11_end_24 : decode cX11_end 24 = .ok (.aload_n 0, 1) := by decide +kernel
theorem dX11_end_25 : decode cX11_end 25 = .ok (.getfield 11, 3) := by decide +kernel
theorem dX11_end_28 : decode cX11_end 28 = .ok (.iload_n 1, 1) := by decide +kernel
theorem dX11_end_29 : decode cX11_end 29 = .ok (.aaload, 1) := by decide +kernel
theorem dX11_end_30 : decode cX11_end 30 = .ok (.getfield 116, 3) := by decide +kernel
theorem dX11_end_33 : decode cX11_end 33 = .ok (.invokevirtual 87, 3) := by decide +kernel
theorem dX11_end_36 : decode cX11_end 36 = .ok (.goto 8, 3) := by decide +kernel
theorem dX11_end_39 : decode cX11_end 39 = .ok (.aload_n 0, 1) := by decide +kernel
theorem dX11_end_40 : decode cX11_end 40 = .ok (.iload_n 2, 1) := by decide +kernel
theorem dX11_end_41 : decode cX11_end 41 = .ok (.invokevirtual 76, 3) := by decide +kernel
theorem dX11_end_44 : decode cX11_end 44 = .ok (.ireturn, 1) := by decide +kernel
theorem dX11_sounds_0 : decode cX11_sounds 0 = .ok (.iload_n 1, 1) := by decide +kernel
theorem dX11_sounds_1 : decode cX11_sounds 1 = .ok (.invokestatic 72, 3) := by decide +kernel
theorem dX11_sounds_4 : decode cX11_sounds 4 = .ok (.ifCond .eq 7, 3) := by decide +kernel
theorem dX11_sounds_7 : decode cX11_sounds 7 = .ok (.iload_n 2, 1) := by decide +kernel
theorem dX11_sounds_8 : decode cX11_sounds 8 = .ok (.ifCond .ge 5, 3) := by decide +kernel
theorem dX11_sounds_11 : decode cX11_sounds 11 = .ok (.iconst (-1), 1) := by decide +kernel
theorem dX11_sounds_12 : decode cX11_sounds 12 = .ok (.ireturn, 1) := by decide +kernel
theorem dX11_sounds_13 : decode cX11_sounds 13 = .ok (.aload_n 0, 1) := by decide +kernel
theorem dX11_sounds_14 : decode cX11_sounds 14 = .ok (.getfield 11, 3) := by decide +kernel
theorem dX11_sounds_17 : decode cX11_sounds 17 = .ok (.iload_n 1, 1) := by decide +kernel
theorem dX11_sounds_18 : decode cX11_sounds 18 = .ok (.aaload, 1) := by decide +kernel
theorem dX11_sounds_19 : decode cX11_sounds 19 = .ok (.invokestatic 112, 3) := by decide +kernel
theorem dX11_sounds_22 : decode cX11_sounds 22 = .ok (.istore_n 3, 1) := by decide +kernel
theorem dX11_sounds_23 : decode cX11_sounds 23 = .ok (.iload_n 3, 1) := by decide +kernel
theorem dX11_sounds_24 : decode cX11_sounds 24 = .ok (.ifCond .ne 20, 3) := by decide +kernel
theorem dX11_sounds_27 : decode cX11_sounds 27 = .ok (.aload_n 0, 1) := by decide +kernel
theorem dX11_sounds_28 : decode cX11_sounds 28 = .ok (.aload_n 0, 1) := by decide +kernel
theorem dX11_sounds_29 : decode cX11_sounds 29 = .ok (.getfield 11, 3) := by decide +kernel
theorem dX11_sounds_32 : decode cX11_sounds 32 = .ok (.iload_n 1, 1) := by decide +kernel
theorem dX11_sounds_33 : decode cX11_sounds 33 = .ok (.aaload, 1) := by decide +kernel
theorem dX11_sounds_34 : decode cX11_sounds 34 = .ok (.iload_n 2, 1) := by decide +kernel
theorem dX11_sounds_35 : decode cX11_sounds 35 = .ok (.invokevirtual 119, 3) := by decide +kernel
theorem dX11_sounds_38 : decode cX11_sounds 38 = .ok (.invokevirtual 87, 3) := by decide +kernel
theorem dX11_sounds_41 : decode cX11_sounds 41 = .ok (.goto 8, 3) := by decide +kernel
theorem dX11_sounds_44 : decode cX11_sounds 44 = .ok (.aload_n 0, 1) := by decide +kernel
theorem dX11_sounds_45 : decode cX11_sounds 45 = .ok (.iload_n 3, 1) := by decide +kernel
theorem dX11_sounds_46 : decode cX11_sounds 46 = .ok (.invokevirtual 76, 3) := by decide +kernel
theorem dX11_sounds_49 : decode cX11_sounds 49 = .ok (.ireturn, 1) := by decide +kernel
theorem dX11_transpose_0 : decode cX11_transpose 0 = .ok (.iload_n 1, 1) := by decide +kernel
theorem dX11_transpose_1 : decode cX11_transpose 1 = .ok (.invokestatic 72, 3) := by decide +kernel
theorem dX11_transpose_4 : decode cX11_transpose 4 = .ok (.ifCond .eq 14, 3) := by decide +kernel
theorem dX11_transpose_7 : decode cX11_transpose 7 = .ok (.iload_n 2, 1) := by decide +kernel
theorem dX11_transpose_8 : decode cX11_transpose 8 = .ok (.bipush (-60), 2) := by decide +kernel
theorem dX11_transpose_10 : decode cX11_transpose 10 = .ok (.bipush 60, 2) := by decide +kernel
theorem dX11_transpose_12 : decode cX11_transpose 12 = .ok (.invokestatic 94, 3) := by decide +kernel
theorem dX11_transpose_15 : decode cX11_transpose 15 = .ok (.ifCond .ne 5, 3) := by decide +kernel
theorem dX11_transpose_18 : decode cX11_transpose 18 = .ok (.iconst (-1), 1) := by decide +kernel
theorem dX11_transpose_19 : decode cX11_transpose 19 = .ok (.ireturn, 1) := by decide +kernel
theorem dX11_transpose_20 : decode cX11_transpose 20 = .ok (.aload_n 0, 1) := by decide +kernel
theorem dX11_transpose_21 : decode cX11_transpose 21 = .ok (.getfield 11, 3) := by decide +kernel
theorem dX11_transpose_24 : decode cX11_transpose 24 = .ok (.iload_n 1, 1) := by decide +kernel
theorem dX11_transpose_25 : decode cX11_transpose 25 = .ok (.aaload, 1) := by decide +kernel
theorem dX11_transpose_26 : decode cX11_transpose 26 = .ok (.astore_n 3, 1) := by decide +kernel
theorem dX11_transpose_27 : decode cX11_transpose 27 = .ok (.aload_n 3, 1) := by decide +kernel
theorem dX11_transpose_28 : decode cX11_transpose 28 = .ok (.getfield 90, 3) := by decide +kernel
theorem dX11_transpose_31 : decode cX11_transpose 31 = .ok (.ifCond .ne 9, 3) := by decide +kernel
theorem dX11_transpose_34 : decode cX11_transpose 34 = .ok (.aload_n 0, 1) := by decide +kernel
theorem dX11_transpose_35 : decode cX11_transpose 35 = .ok (.iconst 1, 1) := by decide +kernel
theorem dX11_transpose_36 : decode cX11_transpose 36 = .ok (.invokevirtual 76, 3) := by decide +kernel
theorem dX11_transpose_39 : decode cX11_transpose 39 = .ok (.ireturn, 1) := by decide +kernel
theorem dX11_transpose_40 : decode cX11_transpose 40 = .ok (.aload_n 3, 1) := by decide +kernel
theorem dX11_transpose_41 : decode cX11_transpose 41 = .ok (.iload_n 2, 1) := by decide +kernel
theorem dX11_transpose_42 : decode cX11_transpose 42 = .ok (.invokevirtual 122, 3) := by decide +kernel
theorem dX11_transpose_45 : decode cX11_transpose 45 = .ok (.ifCond .ne 10, 3) := by decide +kernel
theorem dX11_transpose_48 : decode cX11_transpose 48 = .ok (.aload_n 0, 1) := by decide +kernel
theorem dX11_transpose_49 : decode cX11_transpose 49 = .ok (.bipush 6, 2) := by decide +kernel
theorem dX11_transpose_51 : decode cX11_transpose 51 = .ok (.invokevirtual 76, 3) := by decide +kernel
theorem dX11_transpose_54 : decode cX11_transpose 54 = .ok (.ireturn, 1) := by decide +kernel
theorem dX11_transpose_55 : decode cX11_transpose 55 = .ok (.aload_n 0, 1) := by decide +kernel
theorem dX11_transpose_56 : decode cX11_transpose 56 = .ok (.iload_n 1, 1) := by decide +kernel
theorem dX11_transpose_57 : decode cX11_transpose 57 = .ok (.invokevirtual 80, 3) := by decide +kernel
theorem dX11_transpose_60 : decode cX11_transpose 60 = .ok (.aload_n 0, 1) := by decide +kernel
theorem dX11_transpose_61 : decode cX11_transpose 61 = .ok (.aload_n 3, 1) := by decide +kernel
theorem dX11_transpose_62 : decode cX11_transpose 62 = .ok (.iload_n 2, 1) := by decide +kernel
theorem dX11_transpose_63 : decode cX11_transpose 63 = .ok (.invokevirtual 125, 3) := by decide +kernel
theorem dX11_transpose_66 : decode cX11_transpose 66 = .ok (.invokevirtual 87, 3) := by decide +kernel
theorem dX11_transpose_69 : decode cX11_transpose 69 = .ok (.ireturn, 1) := by decide +kernel
theorem dX11_copy_0 : decode cX11_copy 0 = .ok (.iload_n 1, 1) := by decide +kernel
theorem dX11_copy_1 : decode cX11_copy 1 = .ok (.invokestatic 72, 3) := by decide +kernel
theorem dX11_copy_4 : decode cX11_copy 4 = .ok (.ifCond .eq 10, 3) := by decide +kernel
theorem dX11_copy_7 : decode cX11_copy 7 = .ok (.iload_n 3, 1) := by decide +kernel
theorem dX11_copy_8 : decode cX11_copy 8 = .ok (.invokestatic 72, 3) := by decide +kernel
theorem dX11_copy_11 : decode cX11_copy 11 = .ok (.ifCond .ne 5, 3) := by decide +kernel
theorem dX11_copy_14 : decode cX11_copy 14 = .ok (.iconst (-1), 1) := by decide +kernel
theorem dX11_copy_15 : decode cX11_copy 15 = .ok (.ireturn, 1) := by decide +kernel
theorem dX11_copy_16 : decode cX11_copy 16 = .ok (.aload_n 0, 1) := by decide +kernel
theorem dX11_copy_17 : decode cX11_copy 17 = .ok (.iconst 0, 1) := by decide +kernel
theorem dX11_copy_18 : decode cX11_copy 18 = .ok (.putfield 128, 3) := by decide +kernel
theorem dX11_copy_21 : decode cX11_copy 21 = .ok (.aload_n 0, 1) := by decide +kernel
theorem dX11_copy_22 : decode cX11_copy 22 = .ok (.getfield 11, 3) := by decide +kernel
theorem dX11_copy_25 : decode cX11_copy 25 = .ok (.iload_n 1, 1) := by decide +kernel
theorem dX11_copy_26 : decode cX11_copy 26 = .ok (.aaload, 1) := by decide +kernel
theorem dX11_copy_27 : decode cX11_copy 27 = .ok (.astore 6, 2) := by decide +kernel
theorem dX11_copy_29 : decode cX11_copy 29 = .ok (.aload_n 0, 1) := by decide +kernel
theorem dX11_copy_30 : decode cX11_copy 30 = .ok (.getfield 11, 3) := by decide +kernel
theorem dX11_copy_33 : decode cX11_copy 33 = .ok (.iload_n 3, 1) := by decide +kernel
theorem dX11_copy_34 : decode cX11_copy 34 = .ok (.aaload, 1) := by decide +kernel
theorem dX11_copy_35 : decode cX11_copy 35 = .ok (.astore 7, 2) := by decide +kernel
theorem dX11_copy_37 : decode cX11_copy 37 = .ok (.aload 6, 2) := by decide +kernel
theorem dX11_copy_39 : decode cX11_copy 39 = .ok (.getfield 90, 3) := by decide +kernel
theorem dX11_copy_42 : decode cX11_copy 42 = .ok (.ifCond .eq 11, 3) := by decide +kernel
theorem dX11_copy_45 : decode cX11_copy 45 = .ok (.aload 7, 2) := by decide +kernel
theorem dX11_copy_47 : decode cX11_copy 47 = .ok (.getfield 90, 3) := by decide +kernel
theorem dX11_copy_50 : decode cX11_copy 50 = .ok (.ifCond .ne 9, 3) := by decide +kernel
theorem dX11_copy_53 : decode cX11_copy 53 = .ok (.aload_n 0, 1) := by decide +kernel
theorem dX11_copy_54 : decode cX11_copy 54 = .ok (.iconst 1, 1) := by decide +kernel
theorem dX11_copy_55 : decode cX11_copy 55 = .ok (.invokevirtual 76, 3) := by decide +kernel
theorem dX11_copy_58 : decode cX11_copy 58 = .ok (.ireturn, 1) := by decide +kernel
theorem dX11_copy_59 : decode cX11_copy 59 = .ok (.aload 6, 2) := by decide +kernel
theorem dX11_copy_61 : decode cX11_copy 61 = .ok (.iconst 0, 1) := by decide +kernel
theorem dX11_copy_62 : decode cX11_copy 62 = .ok (.iload_n 2, 1) := by decide +kernel
theorem dX11_copy_63 : decode cX11_copy 63 = .ok (.iload 5, 2) := by decide +kernel
theorem dX11_copy_65 : decode cX11_copy 65 = .ok (.invokevirtual 131, 3) := by decide +kernel
theorem dX11_copy_68 : decode cX11_copy 68 = .ok (.ifCond .eq 16, 3) := by decide +kernel
theorem dX11_copy_71 : decode cX11_copy 71 = .ok (.aload 7, 2) := by decide +kernel
theorem dX11_copy_73 : decode cX11_copy 73 = .ok (.iconst 0, 1) := by decide +kernel
theorem dX11_copy_74 : decode cX11_copy 74 = .ok (.iload 4, 2) := by decide +kernel
theorem dX11_copy_76 : decode cX11_copy 76 = .ok (.iload 5, 2) := by decide +kernel
theorem dX11_copy_78 : decode cX11_copy 78 = .ok (.invokevirtual 131, 3) := by decide +kernel
theorem dX11_copy_81 : decode cX11_copy 81 = .ok (.ifCond .ne 9, 3) := by decide +kernel
theorem dX11_copy_84 : decode cX11_copy 84 = .ok (.aload_n 0, 1) := by decide +kernel
theorem dX11_copy_85 : decode cX11_copy 85 = .ok (.iconst 2, 1) := by decide +kernel
theorem dX11_copy_86 : decode cX11_copy 86 = .ok (.invokevirtual 76, 3) := by decide +kernel
theorem dX11_copy_89 : decode cX11_copy 89 = .ok (.ireturn, 1) := by decide +kernel
theorem dX11_copy_90 : decode cX11_copy 90 = .ok (.aload_n 0, 1) := by decide +kernel
theorem dX11_copy_91 : decode cX11_copy 91 = .ok (.iload_n 3, 1) := by decide +kernel
theorem dX11_copy_92 : decode cX11_copy 92 = .ok (.invokevirtual 80, 3) := by decide +kernel
theorem dX11_copy_95 : decode cX11_copy 95 = .ok (.aload 6, 2) := by decide +kernel
theorem dX11_copy_97 : decode cX11_copy 97 = .ok (.getfield 102, 3) := by decide +kernel
theorem dX11_copy_100 : decode cX11_copy 100 = .ok (.iconst 0, 1) := by decide +kernel
theorem dX11_copy_101 : decode cX11_copy 101 = .ok (.aaload, 1) := by decide +kernel
theorem dX11_copy_102 : decode cX11_copy 102 = .ok (.iload_n 2, 1) := by decide +kernel
theorem dX11_copy_103 : decode cX11_copy 103 = .ok (.aload 7, 2) := by decide +kernel
theorem dX11_copy_105 : decode cX11_copy 105 = .ok (.getfield 102, 3) := by decide +kernel
theorem dX11_copy_108 : decode cX11_copy 108 = .ok (.iconst 0, 1) := by decide +kernel
theorem dX11_copy_109 : decode cX11_copy 109 = .ok (.aaload, 1) := by decide +kernel
theorem dX11_copy_110 : decode cX11_copy 110 = .ok (.iload 4, 2) := by decide +kernel
theorem dX11_copy_112 : decode cX11_copy 112 = .ok (.iload 5, 2) := by decide +kernel
theorem dX11_copy_114 : decode cX11_copy 114 = .ok (.invokestatic 134, 3) := by decide +kernel
theorem dX11_copy_117 : decode cX11_copy 117 = .ok (.aload_n 0, 1) := by decide +kernel
theorem dX11_copy_118 : decode cX11_copy 118 = .ok (.iconst 1, 1) := by decide +kernel
theorem dX11_copy_119 : decode cX11_copy 119 = .ok (.putfield 128, 3) := by decide +kernel
theorem dX11_copy_122 : decode cX11_copy 122 = .ok (.aload 6, 2) := by decide +kernel
theorem dX11_copy_124 : decode cX11_copy 124 = .ok (.iconst 1, 1) := by decide +kernel
theorem dX11_copy_125 : decode cX11_copy 125 = .ok (.iload_n 2, 1) := by decide +kernel
theorem dX11_copy_126 : decode cX11_copy 126 = .ok (.iload 5, 2) := by decide +kernel
theorem dX11_copy_128 : decode cX11_copy 128 = .ok (.invokevirtual 131, 3) := by decide +kernel
theorem dX11_copy_131 : decode cX11_copy 131 = .ok (.ifCond .eq 16, 3) := by decide +kernel
theorem dX11_copy_134 : decode cX11_copy 134 = .ok (.aload 7, 2) := by decide +kernel
theorem dX11_copy_136 : decode cX11_copy 136 = .ok (.iconst 1, 1) := by decide +kernel
theorem dX11_copy_137 : decode cX11_copy 137 = .ok (.iload 4, 2) := by decide +kernel
theorem dX11_copy_139 : decode cX11_copy 139 = .ok (.iload 5, 2) := by decide +kernel
theorem dX11_copy_141 : decode cX11_copy 141 = .ok (.invokevirtual 131, 3) := by decide +kernel
theorem dX11_copy_144 : decode cX11_copy 144 = .ok (.ifCond .ne 9, 3) := by decide +kernel
theorem dX11_copy_147 : decode cX11_copy 147 = .ok (.aload_n 0, 1) := by decide +kernel
theorem dX11_copy_148 : decode cX11_copy 148 = .ok (.iconst 2, 1) := by decide +kernel
theorem dX11_copy_149 : decode cX11_copy 149 = .ok (.invokevirtual 76, 3) := by decide +kernel
theorem dX11_copy_152 : decode cX11_copy 152 = .ok (.ireturn, 1) := by decide +kernel
theorem dX11_copy_153 : decode cX11_copy 153 = .ok (.aload 6, 2) := by decide +kernel
theorem dX11_copy_155 : decode cX11_copy 155 = .ok (.getfield 102, 3) := by decide +kernel
theorem dX11_copy_158 : decode cX11_copy 158 = .ok (.iconst 1, 1) := by decide +kernel
theorem dX11_copy_159 : decode cX11_copy 159 = .ok (.aaload, 1) := by decide +kernel
theorem dX11_copy_160 : decode cX11_copy 160 = .ok (.iload_n 2, 1) := by decide +kernel
theorem dX11_copy_161 : decode cX11_copy 161 = .ok (.aload 7, 2) := by decide +kernel
theorem dX11_copy_163 : decode cX11_copy 163 = .ok (.getfield 102, 3) := by decide +kernel
theorem dX11_copy_166 : decode cX11_copy 166 = .ok (.iconst 1, 1) := by decide +kernel
theorem dX11_copy_167 : decode cX11_copy 167 = .ok (.aaload, 1) := by decide +kernel
theorem dX11_copy_168 : decode cX11_copy 168 = .ok (.iload 4, 2) := by decide +kernel
theorem dX11_copy_170 : decode cX11_copy 170 = .ok (.iload 5, 2) := by decide +kernel
theorem dX11_copy_172 : decode cX11_copy 172 = .ok (.invokestatic 134, 3) := by decide +kernel
theorem dX11_copy_175 : decode cX11_copy 175 = .ok (.aload_n 0, 1) := by decide +kernel
theorem dX11_copy_176 : decode cX11_copy 176 = .ok (.iconst 2, 1) := by decide +kernel
theorem dX11_copy_177 : decode cX11_copy 177 = .ok (.putfield 128, 3) := by decide +kernel
theorem dX11_copy_180 : decode cX11_copy 180 = .ok (.aload_n 0, 1) := by decide +kernel
theorem dX11_copy_181 : decode cX11_copy 181 = .ok (.iload 5, 2) := by decide +kernel
theorem dX11_copy_183 : decode cX11_copy 183 = .ok (.invokevirtual 87, 3) := by decide +kernel
theorem dX11_copy_186 : decode cX11_copy 186 = .ok (.ireturn, 1) := by decide +kernel
theorem dX11_undo_0 : decode cX11_undo 0 = .ok (.aload_n 0, 1) := by decide +kernel
theorem dX11_undo_1 : decode cX11_undo 1 = .ok (.getfield 68, 3) := by decide +kernel
theorem dX11_undo_4 : decode cX11_undo 4 = .ok (.invokestatic 72, 3) := by decide +kernel
theorem dX11_undo_7 : decode cX11_undo 7 = .ok (.ifCond .ne 10, 3) := by decide +kernel
theorem dX11_undo_10 : decode cX11_undo 10 = .ok (.aload_n 0, 1) := by decide +kernel
theorem dX11_undo_11 : decode cX11_undo 11 = .ok (.bipush 7, 2) := by decide +kernel
theorem dX11_undo_13 : decode cX11_undo 13 = .ok (.invokevirtual 76, 3) := by decide +kernel
theorem dX11_undo_16 : decode cX11_undo 16 = .ok (.ireturn, 1) := by decide +kernel
theorem dX11_undo_17 : decode cX11_undo 17 = .ok (.aload_n 0, 1) := by decide +kernel
theorem dX11_undo_18 : decode cX11_undo 18 = .ok (.getfield 11, 3) := by decide +kernel
theorem dX11_undo_21 : decode cX11_undo 21 = .ok (.aload_n 0, 1) := by decide +kernel
theorem dX11_undo_22 : decode cX11_undo 22 = .ok (.getfield 68, 3) := by decide +kernel
theorem dX11_undo_25 : decode cX11_undo 25 = .ok (.aaload, 1) := by decide +kernel
theorem dX11_undo_26 : decode cX11_undo 26 = .ok (.aload_n 0, 1) := by decide +kernel
theorem dX11_undo_27 : decode cX11_undo 27 = .ok (.getfield 16, 3) := by decide +kernel
theorem dX11_undo_30 : decode cX11_undo 30 = .ok (.invokevirtual 140, 3) := by decide +kernel
theorem dX11_undo_33 : decode cX11_undo 33 = .ok (.aload_n 0, 1) := by decide +kernel
theorem dX11_undo_34 : decode cX11_undo 34 = .ok (.bipush (-2), 2) := by decide +kernel
theorem dX11_undo_36 : decode cX11_undo 36 = .ok (.putfield 68, 3) := by decide +kernel
theorem dX11_undo_39 : decode cX11_undo 39 = .ok (.aload_n 0, 1) := by decide +kernel
theorem dX11_undo_40 : decode cX11_undo 40 = .ok (.iconst 1, 1) := by decide +kernel
theorem dX11_undo_41 : decode cX11_undo 41 = .ok (.invokevirtual 87, 3) := by decide +kernel
theorem dX11_undo_44 : decode cX11_undo 44 = .ok (.ireturn, 1) := by decide +kernel
theorem dX11_rule_0 : decode cX11_rule 0 = .ok (.iload_n 1, 1) := by decide +kernel
theorem dX11_rule_1 : decode cX11_rule 1 = .ok (.invokestatic 144, 3) := by decide +kernel
theorem dX11_rule_4 : decode cX11_rule 4 = .ok (.ifCond .eq 12, 3) := by decide +kernel
theorem dX11_rule_7 : decode cX11_rule 7 = .ok (.iload_n 2, 1) := by decide +kernel
theorem dX11_rule_8 : decode cX11_rule 8 = .ok (.iconst 0, 1) := by decide +kernel
theorem dX11_rule_9 : decode cX11_rule 9 = .ok (.iconst 3, 1) := by decide +kernel
theorem dX11_rule_10 : decode cX11_rule 10 = .ok (.invokestatic 94, 3) := by decide +kernel
theorem dX11_rule_13 : decode cX11_rule 13 = .ok (.ifCond .ne 5, 3) := by decide +kernel
theorem dX11_rule_16 : decode cX11_rule 16 = .ok (.iconst (-1), 1) := by decide +kernel
theorem dX11_rule_17 : decode cX11_rule 17 = .ok (.ireturn, 1) := by decide +kernel
theorem dX11_rule_18 : decode cX11_rule 18 = .ok (.aload_n 0, 1) := by decide +kernel
theorem dX11_rule_19 : decode cX11_rule 19 = .ok (.getfield 28, 3) := by decide +kernel
theorem dX11_rule_22 : decode cX11_rule 22 = .ok (.iload_n 1, 1) := by decide +kernel
theorem dX11_rule_23 : decode cX11_rule 23 = .ok (.iload_n 2, 1) := by decide +kernel
theorem dX11_rule_24 : decode cX11_rule 24 = .ok (.invokestatic 147, 3) := by decide +kernel
theorem dX11_rule_27 : decode cX11_rule 27 = .ok (.aastore, 1) := by decide +kernel
theorem dX11_rule_28 : decode cX11_rule 28 = .ok (.aload_n 0, 1) := by decide +kernel
theorem dX11_rule_29 : decode cX11_rule 29 = .ok (.iconst 1, 1) := by decide +kernel
theorem dX11_rule_30 : decode cX11_rule 30 = .ok (.invokevirtual 87, 3) := by decide +kernel
theorem dX11_rule_33 : decode cX11_rule 33 = .ok (.ireturn, 1) := by decide +kernel
theorem dX11_school_0 : decode cX11_school 0 = .ok (.iload_n 1, 1) := by decide +kernel
theorem dX11_school_1 : decode cX11_school 1 = .ok (.invokestatic 144, 3) := by decide +kernel
theorem dX11_school_4 : decode cX11_school 4 = .ok (.ifCond .eq 18, 3) := by decide +kernel
theorem dX11_school_7 : decode cX11_school 7 = .ok (.iload_n 2, 1) := by decide +kernel
theorem dX11_school_8 : decode cX11_school 8 = .ok (.iconst 0, 1) := by decide +kernel
theorem dX11_school_9 : decode cX11_school 9 = .ok (.iconst 2, 1) := by decide +kernel
theorem dX11_school_10 : decode cX11_school 10 = .ok (.invokestatic 94, 3) := by decide +kernel
theorem dX11_school_13 : decode cX11_school 13 = .ok (.ifCond .eq 9, 3) := by decide +kernel
theorem dX11_school_16 : decode cX11_school 16 = .ok (.iload_n 3, 1) := by decide +kernel
theorem dX11_school_17 : decode cX11_school 17 = .ok (.bipush 8, 2) := by decide +kernel
theorem dX11_school_19 : decode cX11_school 19 = .ok (.if_icmp .le 5, 3) := by decide +kernel
theorem dX11_school_22 : decode cX11_school 22 = .ok (.iconst (-1), 1) := by decide +kernel
theorem dX11_school_23 : decode cX11_school 23 = .ok (.ireturn, 1) := by decide +kernel
theorem dX11_school_24 : decode cX11_school 24 = .ok (.iload_n 3, 1) := by decide +kernel
theorem dX11_school_25 : decode cX11_school 25 = .ok (.ifCond .ge 9, 3) := by decide +kernel
theorem dX11_school_28 : decode cX11_school 28 = .ok (.aload_n 0, 1) := by decide +kernel
theorem dX11_school_29 : decode cX11_school 29 = .ok (.iconst 5, 1) := by decide +kernel
theorem dX11_school_30 : decode cX11_school 30 = .ok (.invokevirtual 76, 3) := by decide +kernel
theorem dX11_school_33 : decode cX11_school 33 = .ok (.ireturn, 1) := by decide +kernel
theorem dX11_school_34 : decode cX11_school 34 = .ok (.aload_n 0, 1) := by decide +kernel
theorem dX11_school_35 : decode cX11_school 35 = .ok (.getfield 28, 3) := by decide +kernel
theorem dX11_school_38 : decode cX11_school 38 = .ok (.iload_n 1, 1) := by decide +kernel
theorem dX11_school_39 : decode cX11_school 39 = .ok (.new 151, 3) := by decide +kernel
theorem dX11_school_42 : decode cX11_school 42 = .ok (.dup, 1) := by decide +kernel
theorem dX11_school_43 : decode cX11_school 43 = .ok (.iload_n 2, 1) := by decide +kernel
theorem dX11_school_44 : decode cX11_school 44 = .ok (.iload_n 3, 1) := by decide +kernel
theorem dX11_school_45 : decode cX11_school 45 = .ok (.invokespecial 153, 3) := by decide +kernel
theorem dX11_school_48 : decode cX11_school 48 = .ok (.aastore, 1) := by decide +kernel
theorem dX11_school_49 : decode cX11_school 49 = .ok (.aload_n 0, 1) := by decide +kernel
theorem dX11_school_50 : decode cX11_school 50 = .ok (.iconst 1, 1) := by decide +kernel
theorem dX11_school_51 : decode cX11_school 51 = .ok (.invokevirtual 87, 3) := by decide +kernel
theorem dX11_school_54 : decode cX11_school 54 = .ok (.ireturn, 1) := by decide +kernel
theorem dX11_clear_0 : decode cX11_clear 0 = .ok (.iload_n 1, 1) := by decide +kernel
theorem dX11_clear_1 : decode cX11_clear 1 = .ok (.invokestatic 144, 3) := by decide +kernel
theorem dX11_clear_4 : decode cX11_clear 4 = .ok (.ifCond .ne 5, 3) := by decide +kernel
theorem dX11_clear_7 : decode cX11_clear 7 = .ok (.iconst (-1), 1) := by decide +kernel
theorem dX11_clear_8 : decode cX11_clear 8 = .ok (.ireturn, 1) := by decide +kernel
theorem dX11_clear_9 : decode cX11_clear 9 = .ok (.aload_n 0, 1) := by decide +kernel
theorem dX11_clear_10 : decode cX11_clear 10 = .ok (.getfield 28, 3) := by decide +kernel
theorem dX11_clear_13 : decode cX11_clear 13 = .ok (.iload_n 1, 1) := by decide +kernel
theorem dX11_clear_14 : decode cX11_clear 14 = .ok (.aaload, 1) := by decide +kernel
theorem dX11_clear_15 : decode cX11_clear 15 = .ok (.ifnull 7, 3) := by decide +kernel
theorem dX11_clear_18 : decode cX11_clear 18 = .ok (.iconst 1, 1) := by decide +kernel
theorem dX11_clear_19 : decode cX11_clear 19 = .ok (.goto 4, 3) := by decide +kernel
theorem dX11_clear_22 : decode cX11_clear 22 = .ok (.iconst 0, 1) := by decide +kernel
theorem dX11_clear_23 : decode cX11_clear 23 = .ok (.istore_n 2, 1) := by decide +kernel
theorem dX11_clear_24 : decode cX11_clear 24 = .ok (.aload_n 0, 1) := by decide +kernel
theorem dX11_clear_25 : decode cX11_clear 25 = .ok (.getfield 28, 3) := by decide +kernel
theorem dX11_clear_28 : decode cX11_clear 28 = .ok (.iload_n 1, 1) := by decide +kernel
theorem dX11_clear_29 : decode cX11_clear 29 = .ok (.aconst_null, 1) := by decide +kernel
theorem dX11_clear_30 : decode cX11_clear 30 = .ok (.aastore, 1) := by decide +kernel
theorem dX11_clear_31 : decode cX11_clear 31 = .ok (.aload_n 0, 1) := by decide +kernel
theorem dX11_clear_32 : decode cX11_clear 32 = .ok (.iload_n 2, 1) := by decide +kernel
theorem dX11_clear_33 : decode cX11_clear 33 = .ok (.invokevirtual 87, 3) := by decide +kernel
theorem dX11_clear_36 : decode cX11_clear 36 = .ok (.ireturn, 1) := by decide +kernel
theorem dX11_truth_0 : decode cX11_truth 0 = .ok (.iload_n 1, 1) := by decide +kernel
theorem dX11_truth_1 : decode cX11_truth 1 = .ok (.invokestatic 144, 3) := by decide +kernel
theorem dX11_truth_4 : decode cX11_truth 4 = .ok (.ifCond .eq 12, 3) := by decide +kernel
theorem dX11_truth_7 : decode cX11_truth 7 = .ok (.iload_n 2, 1) := by decide +kernel
theorem dX11_truth_8 : decode cX11_truth 8 = .ok (.iconst 0, 1) := by decide +kernel
theorem dX11_truth_9 : decode cX11_truth 9 = .ok (.iconst 2, 1) := by decide +kernel
theorem dX11_truth_10 : decode cX11_truth 10 = .ok (.invokestatic 94, 3) := by decide +kernel
theorem dX11_truth_13 : decode cX11_truth 13 = .ok (.ifCond .ne 5, 3) := by decide +kernel
theorem dX11_truth_16 : decode cX11_truth 16 = .ok (.iconst (-1), 1) := by decide +kernel
theorem dX11_truth_17 : decode cX11_truth 17 = .ok (.ireturn, 1) := by decide +kernel
theorem dX11_truth_18 : decode cX11_truth 18 = .ok (.aload_n 0, 1) := by decide +kernel
theorem dX11_truth_19 : decode cX11_truth 19 = .ok (.getfield 28, 3) := by decide +kernel
theorem dX11_truth_22 : decode cX11_truth 22 = .ok (.iload_n 1, 1) := by decide +kernel
theorem dX11_truth_23 : decode cX11_truth 23 = .ok (.aaload, 1) := by decide +kernel
theorem dX11_truth_24 : decode cX11_truth 24 = .ok (.astore 5, 2) := by decide +kernel
theorem dX11_truth_26 : decode cX11_truth 26 = .ok (.aload 5, 2) := by decide +kernel
theorem dX11_truth_28 : decode cX11_truth 28 = .ok (.ifnonnull 9, 3) := by decide +kernel
theorem dX11_truth_31 : decode cX11_truth 31 = .ok (.aload_n 0, 1) := by decide +kernel
theorem dX11_truth_32 : decode cX11_truth 32 = .ok (.iconst 1, 1) := by decide +kernel
theorem dX11_truth_33 : decode cX11_truth 33 = .ok (.invokevirtual 76, 3) := by decide +kernel
theorem dX11_truth_36 : decode cX11_truth 36 = .ok (.ireturn, 1) := by decide +kernel
theorem dX11_truth_37 : decode cX11_truth 37 = .ok (.aload 5, 2) := by decide +kernel
theorem dX11_truth_39 : decode cX11_truth 39 = .ok (.iload_n 2, 1) := by decide +kernel
theorem dX11_truth_40 : decode cX11_truth 40 = .ok (.invokestatic 156, 3) := by decide +kernel
theorem dX11_truth_43 : decode cX11_truth 43 = .ok (.ifCond .eq 11, 3) := by decide +kernel
theorem dX11_truth_46 : decode cX11_truth 46 = .ok (.aload 5, 2) := by decide +kernel
theorem dX11_truth_48 : decode cX11_truth 48 = .ok (.instanceof 59, 3) := by decide +kernel
theorem dX11_truth_51 : decode cX11_truth 51 = .ok (.ifCond .ne 9, 3) := by decide +kernel
theorem dX11_truth_54 : decode cX11_truth 54 = .ok (.aload_n 0, 1) := by decide +kernel
theorem dX11_truth_55 : decode cX11_truth 55 = .ok (.iconst 3, 1) := by decide +kernel
theorem dX11_truth_56 : decode cX11_truth 56 = .ok (.invokevirtual 76, 3) := by decide +kernel
theorem dX11_truth_59 : decode cX11_truth 59 = .ok (.ireturn, 1) := by decide +kernel
theorem dX11_truth_60 : decode cX11_truth 60 = .ok (.iload_n 3, 1) := by decide +kernel
theorem dX11_truth_61 : decode cX11_truth 61 = .ok (.iconst 0, 1) := by decide +kernel
theorem dX11_truth_62 : decode cX11_truth 62 = .ok (.getstatic 160, 3) := by decide +kernel
theorem dX11_truth_65 : decode cX11_truth 65 = .ok (.iload_n 2, 1) := by decide +kernel
theorem dX11_truth_66 : decode cX11_truth 66 = .ok (.iaload, 1) := by decide +kernel
theorem dX11_truth_67 : decode cX11_truth 67 = .ok (.iconst 1, 1) := by decide +kernel
theorem dX11_truth_68 : decode cX11_truth 68 = .ok (.isub, 1) := by decide +kernel
theorem dX11_truth_69 : decode cX11_truth 69 = .ok (.invokestatic 94, 3) := by decide +kernel
theorem dX11_truth_72 : decode cX11_truth 72 = .ok (.ifCond .ne 9, 3) := by decide +kernel
theorem dX11_truth_75 : decode cX11_truth 75 = .ok (.aload_n 0, 1) := by decide +kernel
theorem dX11_truth_76 : decode cX11_truth 76 = .ok (.iconst 2, 1) := by decide +kernel
theorem dX11_truth_77 : decode cX11_truth 77 = .ok (.invokevirtual 76, 3) := by decide +kernel
theorem dX11_truth_80 : decode cX11_truth 80 = .ok (.ireturn, 1) := by decide +kernel
theorem dX11_truth_81 : decode cX11_truth 81 = .ok (.aload 5, 2) := by decide +kernel
theorem dX11_truth_83 : decode cX11_truth 83 = .ok (.checkcast 59, 3) := by decide +kernel
theorem dX11_truth_86 : decode cX11_truth 86 = .ok (.astore 6, 2) := by decide +kernel
theorem dX11_truth_88 : decode cX11_truth 88 = .ok (.aload 6, 2) := by decide +kernel
theorem dX11_truth_90 : decode cX11_truth 90 = .ok (.iload_n 2, 1) := by decide +kernel
theorem dX11_truth_91 : decode cX11_truth 91 = .ok (.iload_n 3, 1) := by decide +kernel
theorem dX11_truth_92 : decode cX11_truth 92 = .ok (.invokevirtual 163, 3) := by decide +kernel
theorem dX11_truth_95 : decode cX11_truth 95 = .ok (.ifCond .eq 7, 3) := by decide +kernel
theorem dX11_truth_98 : decode cX11_truth 98 = .ok (.iconst 1, 1) := by decide +kernel
theorem dX11_truth_99 : decode cX11_truth 99 = .ok (.goto 4, 3) := by decide +kernel
theorem dX11_truth_102 : decode cX11_truth 102 = .ok (.iconst 0, 1) := by decide +kernel
theorem dX11_truth_103 : decode cX11_truth 103 = .ok (.istore 7, 2) := by decide +kernel
theorem dX11_truth_105 : decode cX11_truth 105 = .ok (.aload 6, 2) := by decide +kernel
theorem dX11_truth_107 : decode cX11_truth 107 = .ok (.iload_n 2, 1) := by decide +kernel
theorem dX11_truth_108 : decode cX11_truth 108 = .ok (.iload_n 3, 1) := by decide +kernel
theorem dX11_truth_109 : decode cX11_truth 109 = .ok (.iload 4, 2) := by decide +kernel
theorem dX11_truth_111 : decode cX11_truth 111 = .ok (.invokevirtual 166, 3) := by decide +kernel
theorem dX11_truth_114 : decode cX11_truth 114 = .ok (.aload_n 0, 1) := by decide +kernel
theorem dX11_truth_115 : decode cX11_truth 115 = .ok (.iload 7, 2) := by decide +kernel
theorem dX11_truth_117 : decode cX11_truth 117 = .ok (.invokevirtual 87, 3) := by decide +kernel
theorem dX11_truth_120 : decode cX11_truth 120 = .ok (.ireturn, 1) := by decide +kernel
theorem dX11_is_0 : decode cX11_is 0 = .ok (.iload_n 1, 1) := by decide +kernel
theorem dX11_is_1 : decode cX11_is 1 = .ok (.invokestatic 144, 3) := by decide +kernel
theorem dX11_is_4 : decode cX11_is 4 = .ok (.ifCond .eq 12, 3) := by decide +kernel
theorem dX11_is_7 : decode cX11_is 7 = .ok (.iload_n 2, 1) := by decide +kernel
theorem dX11_is_8 : decode cX11_is 8 = .ok (.iconst 0, 1) := by decide +kernel
theorem dX11_is_9 : decode cX11_is 9 = .ok (.iconst 4, 1) := by decide +kernel
theorem dX11_is_10 : decode cX11_is 10 = .ok (.invokestatic 94, 3) := by decide +kernel
theorem dX11_is_13 : decode cX11_is 13 = .ok (.ifCond .ne 5, 3) := by decide +kernel
theorem dX11_is_16 : decode cX11_is 16 = .ok (.iconst (-1), 1) := by decide +kernel
theorem dX11_is_17 : decode cX11_is 17 = .ok (.ireturn, 1) := by decide +kernel
theorem dX11_is_18 : decode cX11_is 18 = .ok (.aload_n 0, 1) := by decide +kernel
theorem dX11_is_19 : decode cX11_is 19 = .ok (.aload_n 0, 1) := by decide +kernel
theorem dX11_is_20 : decode cX11_is 20 = .ok (.getfield 28, 3) := by decide +kernel
theorem dX11_is_23 : decode cX11_is 23 = .ok (.iload_n 1, 1) := by decide +kernel
theorem dX11_is_24 : decode cX11_is 24 = .ok (.aaload, 1) := by decide +kernel
theorem dX11_is_25 : decode cX11_is 25 = .ok (.iload_n 2, 1) := by decide +kernel
theorem dX11_is_26 : decode cX11_is 26 = .ok (.invokestatic 156, 3) := by decide +kernel
theorem dX11_is_29 : decode cX11_is 29 = .ok (.ifCond .eq 7, 3) := by decide +kernel
theorem dX11_is_32 : decode cX11_is 32 = .ok (.iconst 1, 1) := by decide +kernel
theorem dX11_is_33 : decode cX11_is 33 = .ok (.goto 4, 3) := by decide +kernel
theorem dX11_is_36 : decode cX11_is 36 = .ok (.iconst 0, 1) := by decide +kernel
theorem dX11_is_37 : decode cX11_is 37 = .ok (.invokevirtual 87, 3) := by decide +kernel
theorem dX11_is_40 : decode cX11_is 40 = .ok (.ireturn, 1) := by decide +kernel
theorem dX11_seat_0 : decode cX11_seat 0 = .ok (.iload_n 1, 1) := by decide +kernel
theorem dX11_seat_1 : decode cX11_seat 1 = .ok (.invokestatic 144, 3) := by decide +kernel
theorem dX11_seat_4 : decode cX11_seat 4 = .ok (.ifCond .eq 10, 3) := by decide +kernel
theorem dX11_seat_7 : decode cX11_seat 7 = .ok (.iload_n 3, 1) := by decide +kernel
theorem dX11_seat_8 : decode cX11_seat 8 = .ok (.invokestatic 144, 3) := by decide +kernel
theorem dX11_seat_11 : decode cX11_seat 11 = .ok (.ifCond .ne 5, 3) := by decide +kernel
theorem dX11_seat_14 : decode cX11_seat 14 = .ok (.iconst (-1), 1) := by decide +kernel
theorem dX11_seat_15 : decode cX11_seat 15 = .ok (.ireturn, 1) := by decide +kernel
theorem dX11_seat_16 : decode cX11_seat 16 = .ok (.aload_n 0, 1) := by decide +kernel
theorem dX11_seat_17 : decode cX11_seat 17 = .ok (.getfield 28, 3) := by decide +kernel
theorem dX11_seat_20 : decode cX11_seat 20 = .ok (.iload_n 1, 1) := by decide +kernel
theorem dX11_seat_21 : decode cX11_seat 21 = .ok (.aaload, 1) := by decide +kernel
theorem dX11_seat_22 : decode cX11_seat 22 = .ok (.astore 4, 2) := by decide +kernel
theorem dX11_seat_24 : decode cX11_seat 24 = .ok (.aload_n 0, 1) := by decide +kernel
theorem dX11_seat_25 : decode cX11_seat 25 = .ok (.getfield 28, 3) := by decide +kernel
theorem dX11_seat_28 : decode cX11_seat 28 = .ok (.iload_n 3, 1) := by decide +kernel
theorem dX11_seat_29 : decode cX11_seat 29 = .ok (.aaload, 1) := by decide +kernel
theorem dX11_seat_30 : decode cX11_seat 30 = .ok (.astore 5, 2) := by decide +kernel
theorem dX11_seat_32 : decode cX11_seat 32 = .ok (.aload 4, 2) := by decide +kernel
theorem dX11_seat_34 : decode cX11_seat 34 = .ok (.instanceof 59, 3) := by decide +kernel
theorem dX11_seat_37 : decode cX11_seat 37 = .ok (.ifCond .ne 11, 3) := by decide +kernel
theorem dX11_seat_40 : decode cX11_seat 40 = .ok (.aload 5, 2) := by decide +kernel
theorem dX11_seat_42 : decode cX11_seat 42 = .ok (.instanceof 151, 3) := by decide +kernel
theorem dX11_seat_45 : decode cX11_seat 45 = .ok (.ifCond .eq 9, 3) := by decide +kernel
theorem dX11_seat_48 : decode cX11_seat 48 = .ok (.aload_n 0, 1) := by decide +kernel
theorem dX11_seat_49 : decode cX11_seat 49 = .ok (.iconst 3, 1) := by decide +kernel
theorem dX11_seat_50 : decode cX11_seat 50 = .ok (.invokevirtual 76, 3) := by decide +kernel
theorem dX11_seat_53 : decode cX11_seat 53 = .ok (.ireturn, 1) := by decide +kernel
theorem dX11_seat_54 : decode cX11_seat 54 = .ok (.aload 4, 2) := by decide +kernel
theorem dX11_seat_56 : decode cX11_seat 56 = .ok (.instanceof 151, 3) := by decide +kernel
theorem dX11_seat_59 : decode cX11_seat 59 = .ok (.ifCond .ne 9, 3) := by decide +kernel
theorem dX11_seat_62 : decode cX11_seat 62 = .ok (.aload_n 0, 1) := by decide +kernel
theorem dX11_seat_63 : decode cX11_seat 63 = .ok (.iconst 1, 1) := by decide +kernel
theorem dX11_seat_64 : decode cX11_seat 64 = .ok (.invokevirtual 76, 3) := by decide +kernel
theorem dX11_seat_67 : decode cX11_seat 67 = .ok (.ireturn, 1) := by decide +kernel
theorem dX11_seat_68 : decode cX11_seat 68 = .ok (.aload 4, 2) := by decide +kernel
theorem dX11_seat_70 : decode cX11_seat 70 = .ok (.checkcast 151, 3) := by decide +kernel
theorem dX11_seat_73 : decode cX11_seat 73 = .ok (.astore 6, 2) := by decide +kernel
theorem dX11_seat_75 : decode cX11_seat 75 = .ok (.iload_n 2, 1) := by decide +kernel
theorem dX11_seat_76 : decode cX11_seat 76 = .ok (.iconst 0, 1) := by decide +kernel
theorem dX11_seat_77 : decode cX11_seat 77 = .ok (.aload 6, 2) := by decide +kernel
theorem dX11_seat_79 : decode cX11_seat 79 = .ok (.getfield 170, 3) := by decide +kernel
theorem dX11_seat_82 : decode cX11_seat 82 = .ok (.arraylength, 1) := by decide +kernel
theorem dX11_seat_83 : decode cX11_seat 83 = .ok (.iconst 1, 1) := by decide +kernel
theorem dX11_seat_84 : decode cX11_seat 84 = .ok (.isub, 1) := by decide +kernel
theorem dX11_seat_85 : decode cX11_seat 85 = .ok (.invokestatic 94, 3) := by decide +kernel
theorem dX11_seat_88 : decode cX11_seat 88 = .ok (.ifCond .ne 9, 3) := by decide +kernel
theorem dX11_seat_91 : decode cX11_seat 91 = .ok (.aload_n 0, 1) := by decide +kernel
theorem dX11_seat_92 : decode cX11_seat 92 = .ok (.iconst 2, 1) := by decide +kernel
theorem dX11_seat_93 : decode cX11_seat 93 = .ok (.invokevirtual 76, 3) := by decide +kernel
theorem dX11_seat_96 : decode cX11_seat 96 = .ok (.ireturn, 1) := by decide +kernel
theorem dX11_seat_97 : decode cX11_seat 97 = .ok (.aload 5, 2) := by decide +kernel
theorem dX11_seat_99 : decode cX11_seat 99 = .ok (.ifnull 19, 3) := by decide +kernel
theorem dX11_seat_102 : decode cX11_seat 102 = .ok (.aload 6, 2) := by decide +kernel
theorem dX11_seat_104 : decode cX11_seat 104 = .ok (.aload 5, 2) := by decide +kernel
theorem dX11_seat_106 : decode cX11_seat 106 = .ok (.invokevirtual 173, 3) := by decide +kernel
theorem dX11_seat_109 : decode cX11_seat 109 = .ok (.ifCond .ne 9, 3) := by decide +kernel
theorem dX11_seat_112 : decode cX11_seat 112 = .ok (.aload_n 0, 1) := by decide +kernel
theorem dX11_seat_113 : decode cX11_seat 113 = .ok (.iconst 4, 1) := by decide +kernel
theorem dX11_seat_114 : decode cX11_seat 114 = .ok (.invokevirtual 76, 3) := by decide +kernel
theorem dX11_seat_117 : decode cX11_seat 117 = .ok (.ireturn, 1) := by decide +kernel
theorem dX11_seat_118 : decode cX11_seat 118 = .ok (.aload 6, 2) := by decide +kernel
theorem dX11_seat_120 : decode cX11_seat 120 = .ok (.getfield 170, 3) := by decide +kernel
theorem dX11_seat_123 : decode cX11_seat 123 = .ok (.iload_n 2, 1) := by decide +kernel
theorem dX11_seat_124 : decode cX11_seat 124 = .ok (.aload 5, 2) := by decide +kernel
theorem dX11_seat_126 : decode cX11_seat 126 = .ok (.instanceof 59, 3) := by decide +kernel
theorem dX11_seat_129 : decode cX11_seat 129 = .ok (.ifCond .eq 11, 3) := by decide +kernel
theorem dX11_seat_132 : decode cX11_seat 132 = .ok (.aload 5, 2) := by decide +kernel
theorem dX11_seat_134 : decode cX11_seat 134 = .ok (.checkcast 59, 3) := by decide +kernel
theorem dX11_seat_137 : decode cX11_seat 137 = .ok (.goto 4, 3) := by decide +kernel
theorem dX11_seat_140 : decode cX11_seat 140 = .ok (.aconst_null, 1) := by decide +kernel
theorem dX11_seat_141 : decode cX11_seat 141 = .ok (.aastore, 1) := by decide +kernel
theorem dX11_seat_142 : decode cX11_seat 142 = .ok (.aload_n 0, 1) := by decide +kernel
theorem dX11_seat_143 : decode cX11_seat 143 = .ok (.iconst 1, 1) := by decide +kernel
theorem dX11_seat_144 : decode cX11_seat 144 = .ok (.invokevirtual 87, 3) := by decide +kernel
theorem dX11_seat_147 : decode cX11_seat 147 = .ok (.ireturn, 1) := by decide +kernel
theorem dX11_seated_0 : decode cX11_seated 0 = .ok (.iload_n 1, 1) := by decide +kernel
theorem dX11_seated_1 : decode cX11_seated 1 = .ok (.invokestatic 144, 3) := by decide +kernel
theorem dX11_seated_4 : decode cX11_seated 4 = .ok (.ifCond .ne 5, 3) := by decide +kernel
theorem dX11_seated_7 : decode cX11_seated 7 = .ok (.iconst (-1), 1) := by decide +kernel
theorem dX11_seated_8 : decode cX11_seated 8 = .ok (.ireturn, 1) := by decide +kernel
theorem dX11_seated_9 : decode cX11_seated 9 = .ok (.aload_n 0, 1) := by decide +kernel
theorem dX11_seated_10 : decode cX11_seated 10 = .ok (.getfield 28, 3) := by decide +kernel
theorem dX11_seated_13 : decode cX11_seated 13 = .ok (.iload_n 1, 1) := by decide +kernel
theorem dX11_seated_14 : decode cX11_seated 14 = .ok (.aaload, 1) := by decide +kernel
theorem dX11_seated_15 : decode cX11_seated 15 = .ok (.ifnonnull 9, 3) := by decide +kernel
theorem dX11_seated_18 : decode cX11_seated 18 = .ok (.aload_n 0, 1) := by decide +kernel
theorem dX11_seated_19 : decode cX11_seated 19 = .ok (.iconst 1, 1) := by decide +kernel
theorem dX11_seated_20 : decode cX11_seated 20 = .ok (.invokevirtual 76, 3) := by decide +kernel
theorem dX11_seated_23 : decode cX11_seated 23 = .ok (.ireturn, 1) := by decide +kernel
theorem dX11_seated_24 : decode cX11_seated 24 = .ok (.aload_n 0, 1) := by decide +kernel
theorem dX11_seated_25 : decode cX11_seated 25 = .ok (.getfield 28, 3) := by decide +kernel
theorem dX11_seated_28 : decode cX11_seated 28 = .ok (.iload_n 1, 1) := by decide +kernel
theorem dX11_seated_29 : decode cX11_seated 29 = .ok (.aaload, 1) := by decide +kernel
theorem dX11_seated_30 : decode cX11_seated 30 = .ok (.instanceof 151, 3) := by decide +kernel
theorem dX11_seated_33 : decode cX11_seated 33 = .ok (.ifCond .ne 9, 3) := by decide +kernel
theorem dX11_seated_36 : decode cX11_seated 36 = .ok (.aload_n 0, 1) := by decide +kernel
theorem dX11_seated_37 : decode cX11_seated 37 = .ok (.iconst 3, 1) := by decide +kernel
theorem dX11_seated_38 : decode cX11_seated 38 = .ok (.invokevirtual 76, 3) := by decide +kernel
theorem dX11_seated_41 : decode cX11_seated 41 = .ok (.ireturn, 1) := by decide +kernel
theorem dX11_seated_42 : decode cX11_seated 42 = .ok (.aload_n 0, 1) := by decide +kernel
theorem dX11_seated_43 : decode cX11_seated 43 = .ok (.getfield 28, 3) := by decide +kernel
theorem dX11_seated_46 : decode cX11_seated 46 = .ok (.iload_n 1, 1) := by decide +kernel
theorem dX11_seated_47 : decode cX11_seated 47 = .ok (.aaload, 1) := by decide +kernel
theorem dX11_seated_48 : decode cX11_seated 48 = .ok (.checkcast 151, 3) := by decide +kernel
theorem dX11_seated_51 : decode cX11_seated 51 = .ok (.astore_n 3, 1) := by decide +kernel
theorem dX11_seated_52 : decode cX11_seated 52 = .ok (.iload_n 2, 1) := by decide +kernel
theorem dX11_seated_53 : decode cX11_seated 53 = .ok (.iconst 0, 1) := by decide +kernel
theorem dX11_seated_54 : decode cX11_seated 54 = .ok (.aload_n 3, 1) := by decide +kernel
theorem dX11_seated_55 : decode cX11_seated 55 = .ok (.getfield 170, 3) := by decide +kernel
theorem dX11_seated_58 : decode cX11_seated 58 = .ok (.arraylength, 1) := by decide +kernel
theorem dX11_seated_59 : decode cX11_seated 59 = .ok (.iconst 1, 1) := by decide +kernel
theorem dX11_seated_60 : decode cX11_seated 60 = .ok (.isub, 1) := by decide +kernel
theorem dX11_seated_61 : decode cX11_seated 61 = .ok (.invokestatic 94, 3) := by decide +kernel
theorem dX11_seated_64 : decode cX11_seated 64 = .ok (.ifCond .ne 9, 3) := by decide +kernel
theorem dX11_seated_67 : decode cX11_seated 67 = .ok (.aload_n 0, 1) := by decide +kernel
theorem dX11_seated_68 : decode cX11_seated 68 = .ok (.iconst 2, 1) := by decide +kernel
theorem dX11_seated_69 : decode cX11_seated 69 = .ok (.invokevirtual 76, 3) := by decide +kernel
theorem dX11_seated_72 : decode cX11_seated 72 = .ok (.ireturn, 1) := by decide +kernel
theorem dX11_seated_73 : decode cX11_seated 73 = .ok (.aload_n 3, 1) := by decide +kernel
theorem dX11_seated_74 : decode cX11_seated 74 = .ok (.getfield 170, 3) := by decide +kernel
theorem dX11_seated_77 : decode cX11_seated 77 = .ok (.iload_n 2, 1) := by decide +kernel
theorem dX11_seated_78 : decode cX11_seated 78 = .ok (.aaload, 1) := by decide +kernel
theorem dX11_seated_79 : decode cX11_seated 79 = .ok (.astore 4, 2) := by decide +kernel
theorem dX11_seated_81 : decode cX11_seated 81 = .ok (.aload_n 0, 1) := by decide +kernel
theorem dX11_seated_82 : decode cX11_seated 82 = .ok (.aload 4, 2) := by decide +kernel
theorem dX11_seated_84 : decode cX11_seated 84 = .ok (.ifnonnull 8, 3) := by decide +kernel
theorem dX11_seated_87 : decode cX11_seated 87 = .ok (.bipush (-2), 2) := by decide +kernel
theorem dX11_seated_89 : decode cX11_seated 89 = .ok (.goto 8, 3) := by decide +kernel
theorem dX11_seated_92 : decode cX11_seated 92 = .ok (.aload 4, 2) := by decide +kernel
theorem dX11_seated_94 : decode cX11_seated 94 = .ok (.invokevirtual 177, 3) := by decide +kernel
theorem dX11_seated_97 : decode cX11_seated 97 = .ok (.invokevirtual 87, 3) := by decide +kernel
theorem dX11_seated_100 : decode cX11_seated 100 = .ok (.ireturn, 1) := by decide +kernel
theorem dX11_strong_0 : decode cX11_strong 0 = .ok (.iload_n 1, 1) := by decide +kernel
theorem dX11_strong_1 : decode cX11_strong 1 = .ok (.iconst 1, 1) := by decide +kernel
theorem dX11_strong_2 : decode cX11_strong 2 = .ok (.bipush 16, 2) := by decide +kernel
theorem dX11_strong_4 : decode cX11_strong 4 = .ok (.invokestatic 94, 3) := by decide +kernel
theorem dX11_strong_7 : decode cX11_strong 7 = .ok (.ifCond .ne 5, 3) := by decide +kernel
theorem dX11_strong_10 : decode cX11_strong 10 = .ok (.iconst (-1), 1) := by decide +kernel
theorem dX11_strong_11 : decode cX11_strong 11 = .ok (.ireturn, 1) := by decide +kernel
theorem dX11_strong_12 : decode cX11_strong 12 = .ok (.aload_n 0, 1) := by decide +kernel
theorem dX11_strong_13 : decode cX11_strong 13 = .ok (.getfield 35, 3) := by decide +kernel
theorem dX11_strong_16 : decode cX11_strong 16 = .ok (.getfield 181, 3) := by decide +kernel
theorem dX11_strong_19 : decode cX11_strong 19 = .ok (.istore_n 2, 1) := by decide +kernel
theorem dX11_strong_20 : decode cX11_strong 20 = .ok (.aload_n 0, 1) := by decide +kernel
theorem dX11_strong_21 : decode cX11_strong 21 = .ok (.getfield 35, 3) := by decide +kernel
theorem dX11_strong_24 : decode cX11_strong 24 = .ok (.iload_n 1, 1) := by decide +kernel
theorem dX11_strong_25 : decode cX11_strong 25 = .ok (.putfield 181, 3) := by decide +kernel
theorem dX11_strong_28 : decode cX11_strong 28 = .ok (.aload_n 0, 1) := by decide +kernel
theorem dX11_strong_29 : decode cX11_strong 29 = .ok (.iload_n 2, 1) := by decide +kernel
theorem dX11_strong_30 : decode cX11_strong 30 = .ok (.invokevirtual 87, 3) := by decide +kernel
theorem dX11_strong_33 : decode cX11_strong 33 = .ok (.ireturn, 1) := by decide +kernel
theorem dX11_key_0 : decode cX11_key 0 = .ok (.iload_n 1, 1) := by decide +kernel
theorem dX11_key_1 : decode cX11_key 1 = .ok (.iconst 0, 1) := by decide +kernel
theorem dX11_key_2 : decode cX11_key 2 = .ok (.sipush 4095, 3) := by decide +kernel
theorem dX11_key_5 : decode cX11_key 5 = .ok (.invokestatic 94, 3) := by decide +kernel
theorem dX11_key_8 : decode cX11_key 8 = .ok (.ifCond .ne 5, 3) := by decide +kernel
theorem dX11_key_11 : decode cX11_key 11 = .ok (.iconst (-1), 1) := by decide +kernel
theorem dX11_key_12 : decode cX11_key 12 = .ok (.ireturn, 1) := by decide +kernel
theorem dX11_key_13 : decode cX11_key 13 = .ok (.aload_n 0, 1) := by decide +kernel
theorem dX11_key_14 : decode cX11_key 14 = .ok (.getfield 44, 3) := by decide +kernel
theorem dX11_key_17 : decode cX11_key 17 = .ok (.getfield 184, 3) := by decide +kernel
theorem dX11_key_20 : decode cX11_key 20 = .ok (.istore_n 2, 1) := by decide +kernel
theorem dX11_key_21 : decode cX11_key 21 = .ok (.aload_n 0, 1) := by decide +kernel
theorem dX11_key_22 : decode cX11_key 22 = .ok (.getfield 44, 3) := by decide +kernel
theorem dX11_key_25 : decode cX11_key 25 = .ok (.iload_n 1, 1) := by decide +kernel
theorem dX11_key_26 : decode cX11_key 26 = .ok (.putfield 184, 3) := by decide +kernel
theorem dX11_key_29 : decode cX11_key 29 = .ok (.aload_n 0, 1) := by decide +kernel
theorem dX11_key_30 : decode cX11_key 30 = .ok (.iload_n 2, 1) := by decide +kernel
theorem dX11_key_31 : decode cX11_key 31 = .ok (.invokevirtual 87, 3) := by decide +kernel
theorem dX11_key_34 : decode cX11_key 34 = .ok (.ireturn, 1) := by decide +kernel
theorem dX11_weight_0 : decode cX11_weight 0 = .ok (.iload_n 1, 1) := by decide +kernel
theorem dX11_weight_1 : decode cX11_weight 1 = .ok (.iconst 0, 1) := by decide +kernel
theorem dX11_weight_2 : decode cX11_weight 2 = .ok (.aload_n 0, 1) := by decide +kernel
theorem dX11_weight_3 : decode cX11_weight 3 = .ok (.getfield 44, 3) := by decide +kernel
theorem dX11_weight_6 : decode cX11_weight 6 = .ok (.getfield 187, 3) := by decide +kernel
theorem dX11_weight_9 : decode cX11_weight 9 = .ok (.arraylength, 1) := by decide +kernel
theorem dX11_weight_10 : decode cX11_weight 10 = .ok (.iconst 1, 1) := by decide +kernel
theorem dX11_weight_11 : decode cX11_weight 11 = .ok (.isub, 1) := by decide +kernel
theorem dX11_weight_12 : decode cX11_weight 12 = .ok (.invokestatic 94, 3) := by decide +kernel
theorem dX11_weight_15 : decode cX11_weight 15 = .ok (.ifCond .eq 13, 3) := by decide +kernel
theorem dX11_weight_18 : decode cX11_weight 18 = .ok (.iload_n 2, 1) := by decide +kernel
theorem dX11_weight_19 : decode cX11_weight 19 = .ok (.iconst 0, 1) := by decide +kernel
theorem dX11_weight_20 : decode cX11_weight 20 = .ok (.bipush 9, 2) := by decide +kernel
theorem dX11_weight_22 : decode cX11_weight 22 = .ok (.invokestatic 94, 3) := by decide +kernel
theorem dX11_weight_25 : decode cX11_weight 25 = .ok (.ifCond .ne 5, 3) := by decide +kernel
theorem dX11_weight_28 : decode cX11_weight 28 = .ok (.iconst (-1), 1) := by decide +kernel
theorem dX11_weight_29 : decode cX11_weight 29 = .ok (.ireturn, 1) := by decide +kernel
theorem dX11_weight_30 : decode cX11_weight 30 = .ok (.aload_n 0, 1) := by decide +kernel
theorem dX11_weight_31 : decode cX11_weight 31 = .ok (.getfield 44, 3) := by decide +kernel
theorem dX11_weight_34 : decode cX11_weight 34 = .ok (.getfield 187, 3) := by decide +kernel
theorem dX11_weight_37 : decode cX11_weight 37 = .ok (.iload_n 1, 1) := by decide +kernel
theorem dX11_weight_38 : decode cX11_weight 38 = .ok (.iaload, 1) := by decide +kernel
theorem dX11_weight_39 : decode cX11_weight 39 = .ok (.istore_n 3, 1) := by decide +kernel
theorem dX11_weight_40 : decode cX11_weight 40 = .ok (.aload_n 0, 1) := by decide +kernel
theorem dX11_weight_41 : decode cX11_weight 41 = .ok (.getfield 44, 3) := by decide +kernel
theorem dX11_weight_44 : decode cX11_weight 44 = .ok (.getfield 187, 3) := by decide +kernel
theorem dX11_weight_47 : decode cX11_weight 47 = .ok (.iload_n 1, 1) := by decide +kernel
theorem dX11_weight_48 : decode cX11_weight 48 = .ok (.iload_n 2, 1) := by decide +kernel
theorem dX11_weight_49 : decode cX11_weight 49 = .ok (.iastore, 1) := by decide +kernel
theorem dX11_weight_50 : decode cX11_weight 50 = .ok (.aload_n 0, 1) := by decide +kernel
theorem dX11_weight_51 : decode cX11_weight 51 = .ok (.iload_n 3, 1) := by decide +kernel
theorem dX11_weight_52 : decode cX11_weight 52 = .ok (.invokevirtual 87, 3) := by decide +kernel
theorem dX11_weight_55 : decode cX11_weight 55 = .ok (.ireturn, 1) := by decide +kernel
theorem dX11_faults_0 : decode cX11_faults 0 = .ok (.iload_n 1, 1) := by decide +kernel
theorem dX11_faults_1 : decode cX11_faults 1 = .ok (.invokestatic 144, 3) := by decide +kernel
theorem dX11_faults_4 : decode cX11_faults 4 = .ok (.ifCond .ne 5, 3) := by decide +kernel
theorem dX11_faults_7 : decode cX11_faults 7 = .ok (.iconst (-1), 1) := by decide +kernel
theorem dX11_faults_8 : decode cX11_faults 8 = .ok (.ireturn, 1) := by decide +kernel
theorem dX11_faults_9 : decode cX11_faults 9 = .ok (.aload_n 0, 1) := by decide +kernel
theorem dX11_faults_10 : decode cX11_faults 10 = .ok (.getfield 35, 3) := by decide +kernel
theorem dX11_faults_13 : decode cX11_faults 13 = .ok (.invokevirtual 190, 3) := by decide +kernel
theorem dX11_faults_16 : decode cX11_faults 16 = .ok (.iconst 0, 1) := by decide +kernel
theorem dX11_faults_17 : decode cX11_faults 17 = .ok (.istore_n 2, 1) := by decide +kernel
theorem dX11_faults_18 : decode cX11_faults 18 = .ok (.iconst 0, 1) := by decide +kernel
theorem dX11_faults_19 : decode cX11_faults 19 = .ok (.istore_n 3, 1) := by decide +kernel
theorem dX11_faults_20 : decode cX11_faults 20 = .ok (.iload_n 3, 1) := by decide +kernel
theorem dX11_faults_21 : decode cX11_faults 21 = .ok (.bipush 6, 2) := by decide +kernel
theorem dX11_faults_23 : decode cX11_faults 23 = .ok (.if_icmp .ge 56, 3) := by decide +kernel
theorem dX11_faults_26 : decode cX11_faults 26 = .ok (.aload_n 0, 1) := by decide +kernel
theorem dX11_faults_27 : decode cX11_faults 27 = .ok (.getfield 11, 3) := by decide +kernel
theorem dX11_faults_30 : decode cX11_faults 30 = .ok (.iload_n 3, 1) := by decide +kernel
theorem dX11_faults_31 : decode cX11_faults 31 = .ok (.aaload, 1) := by decide +kernel
theorem dX11_faults_32 : decode cX11_faults 32 = .ok (.invokestatic 112, 3) := by decide +kernel
theorem dX11_faults_35 : decode cX11_faults 35 = .ok (.istore 4, 2) := by decide +kernel
theorem dX11_faults_37 : decode cX11_faults 37 = .ok (.iload 4, 2) := by decide +kernel
theorem dX11_faults_39 : decode cX11_faults 39 = .ok (.iconst 2, 1) := by decide +kernel
theorem dX11_faults_40 : decode cX11_faults 40 = .ok (.if_icmp .ne 10, 3) := by decide +kernel
theorem dX11_faults_43 : decode cX11_faults 43 = .ok (.aload_n 0, 1) := by decide +kernel
theorem dX11_faults_44 : decode cX11_faults 44 = .ok (.iload 4, 2) := by decide +kernel
theorem dX11_faults_46 : decode cX11_faults 46 = .ok (.invokevirtual 76, 3) := by decide +kernel
theorem dX11_faults_49 : decode cX11_faults 49 = .ok (.ireturn, 1) := by decide +kernel
theorem dX11_faults_50 : decode cX11_faults 50 = .ok (.iload_n 2, 1) := by decide +kernel
theorem dX11_faults_51 : decode cX11_faults 51 = .ok (.iload 4, 2) := by decide +kernel
theorem dX11_faults_53 : decode cX11_faults 53 = .ok (.ifCond .ne 15, 3) := by decide +kernel
theorem dX11_faults_56 : decode cX11_faults 56 = .ok (.aload_n 0, 1) := by decide +kernel
theorem dX11_faults_57 : decode cX11_faults 57 = .ok (.getfield 11, 3) := by decide +kernel
theorem dX11_faults_60 : decode cX11_faults 60 = .ok (.iload_n 3, 1) := by decide +kernel
theorem dX11_faults_61 : decode cX11_faults 61 = .ok (.aaload, 1) := by decide +kernel
theorem dX11_faults_62 : decode cX11_faults 62 = .ok (.getfield 116, 3) := by decide +kernel
theorem dX11_faults_65 : decode cX11_faults 65 = .ok (.goto 4, 3) := by decide +kernel
theorem dX11_faults_68 : decode cX11_faults 68 = .ok (.iconst 0, 1) := by decide +kernel
theorem dX11_faults_69 : decode cX11_faults 69 = .ok (.invokestatic 193, 3) := by decide +kernel
theorem dX11_faults_72 : decode cX11_faults 72 = .ok (.istore_n 2, 1) := by decide +kernel
theorem dX11_faults_73 : decode cX11_faults 73 = .ok (.iinc 3 1, 3) := by decide +kernel
theorem dX11_faults_76 : decode cX11_faults 76 = .ok (.goto (-56), 3) := by decide +kernel
theorem dX11_faults_79 : decode cX11_faults 79 = .ok (.aload_n 0, 1) := by decide +kernel
theorem dX11_faults_80 : decode cX11_faults 80 = .ok (.getfield 28, 3) := by decide +kernel
theorem dX11_faults_83 : decode cX11_faults 83 = .ok (.iload_n 1, 1) := by decide +kernel
theorem dX11_faults_84 : decode cX11_faults 84 = .ok (.aaload, 1) := by decide +kernel
theorem dX11_faults_85 : decode cX11_faults 85 = .ok (.astore_n 3, 1) := by decide +kernel
theorem dX11_faults_86 : decode cX11_faults 86 = .ok (.aload_n 3, 1) := by decide +kernel
theorem dX11_faults_87 : decode cX11_faults 87 = .ok (.ifnonnull 9, 3) := by decide +kernel
theorem dX11_faults_90 : decode cX11_faults 90 = .ok (.aload_n 0, 1) := by decide +kernel
theorem dX11_faults_91 : decode cX11_faults 91 = .ok (.iconst 1, 1) := by decide +kernel
theorem dX11_faults_92 : decode cX11_faults 92 = .ok (.invokevirtual 76, 3) := by decide +kernel
theorem dX11_faults_95 : decode cX11_faults 95 = .ok (.ireturn, 1) := by decide +kernel
theorem dX11_faults_96 : decode cX11_faults 96 = .ok (.aload_n 0, 1) := by decide +kernel
theorem dX11_faults_97 : decode cX11_faults 97 = .ok (.iconst 0, 1) := by decide +kernel
theorem dX11_faults_98 : decode cX11_faults 98 = .ok (.putfield 199, 3) := by decide +kernel
theorem dX11_faults_101 : decode cX11_faults 101 = .ok (.aload_n 0, 1) := by decide +kernel
theorem dX11_faults_102 : decode cX11_faults 102 = .ok (.iconst 0, 1) := by decide +kernel
theorem dX11_faults_103 : decode cX11_faults 103 = .ok (.putfield 202, 3) := by decide +kernel
theorem dX11_faults_106 : decode cX11_faults 106 = .ok (.aload_n 0, 1) := by decide +kernel
theorem dX11_faults_107 : decode cX11_faults 107 = .ok (.invokevirtual 205, 3) := by decide +kernel
theorem dX11_faults_110 : decode cX11_faults 110 = .ok (.iconst 0, 1) := by decide +kernel
theorem dX11_faults_111 : decode cX11_faults 111 = .ok (.istore 4, 2) := by decide +kernel
theorem dX11_faults_113 : decode cX11_faults 113 = .ok (.iload 4, 2) := by decide +kernel
theorem dX11_faults_115 : decode cX11_faults 115 = .ok (.iload_n 2, 1) := by decide +kernel
theorem dX11_faults_116 : decode cX11_faults 116 = .ok (.if_icmp .ge 53, 3) := by decide +kernel
theorem dX11_faults_119 : decode cX11_faults 119 = .ok (.iconst 0, 1) := by decide +kernel
theorem dX11_faults_120 : decode cX11_faults 120 = .ok (.istore 5, 2) := by decide +kernel
theorem dX11_faults_122 : decode cX11_faults 122 = .ok (.iload 5, 2) := by decide +kernel
theorem dX11_faults_124 : decode cX11_faults 124 = .ok (.bipush 6, 2) := by decide +kernel
theorem dX11_faults_126 : decode cX11_faults 126 = .ok (.if_icmp .ge 37, 3) := by decide +kernel
theorem dX11_faults_129 : decode cX11_faults 129 = .ok (.iload 5, 2) := by decide +kernel
theorem dX11_faults_131 : decode cX11_faults 131 = .ok (.istore 6, 2) := by decide +kernel
theorem dX11_faults_133 : decode cX11_faults 133 = .ok (.iload 6, 2) := by decide +kernel
theorem dX11_faults_135 : decode cX11_faults 135 = .ok (.bipush 6, 2) := by decide +kernel
theorem dX11_faults_137 : decode cX11_faults 137 = .ok (.if_icmp .ge 20, 3) := by decide +kernel
theorem dX11_faults_140 : decode cX11_faults 140 = .ok (.aload_n 0, 1) := by decide +kernel
theorem dX11_faults_141 : decode cX11_faults 141 = .ok (.aload_n 3, 1) := by decide +kernel
theorem dX11_faults_142 : decode cX11_faults 142 = .ok (.iload 4, 2) := by decide +kernel
theorem dX11_faults_144 : decode cX11_faults 144 = .ok (.iload 5, 2) := by decide +kernel
theorem dX11_faults_146 : decode cX11_faults 146 = .ok (.iload 6, 2) := by decide +kernel
theorem dX11_faults_148 : decode cX11_faults 148 = .ok (.invokevirtual 208, 3) := by decide +kernel
theorem dX11_faults_151 : decode cX11_faults 151 = .ok (.iinc 6 1, 3) := by decide +kernel
theorem dX11_faults_154 : decode cX11_faults 154 = .ok (.goto (-21), 3) := by decide +kernel
theorem dX11_faults_157 : decode cX11_faults 157 = .ok (.iinc 5 1, 3) := by decide +kernel
theorem dX11_faults_160 : decode cX11_faults 160 = .ok (.goto (-38), 3) := by decide +kernel
theorem dX11_faults_163 : decode cX11_faults 163 = .ok (.iinc 4 1, 3) := by decide +kernel
theorem dX11_faults_166 : decode cX11_faults 166 = .ok (.goto (-53), 3) := by decide +kernel
theorem dX11_faults_169 : decode cX11_faults 169 = .ok (.aload_n 0, 1) := by decide +kernel
theorem dX11_faults_170 : decode cX11_faults 170 = .ok (.aload_n 0, 1) := by decide +kernel
theorem dX11_faults_171 : decode cX11_faults 171 = .ok (.getfield 202, 3) := by decide +kernel
theorem dX11_faults_174 : decode cX11_faults 174 = .ok (.invokevirtual 87, 3) := by decide +kernel
theorem dX11_faults_177 : decode cX11_faults 177 = .ok (.ireturn, 1) := by decide +kernel
theorem dX11_fault_0 : decode cX11_fault 0 = .ok (.iload_n 2, 1) := by decide +kernel
theorem dX11_fault_1 : decode cX11_fault 1 = .ok (.iconst 0, 1) := by decide +kernel
theorem dX11_fault_2 : decode cX11_fault 2 = .ok (.iconst 3, 1) := by decide +kernel
theorem dX11_fault_3 : decode cX11_fault 3 = .ok (.invokestatic 94, 3) := by decide +kernel
theorem dX11_fault_6 : decode cX11_fault 6 = .ok (.ifCond .ne 5, 3) := by decide +kernel
theorem dX11_fault_9 : decode cX11_fault 9 = .ok (.iconst (-1), 1) := by decide +kernel
theorem dX11_fault_10 : decode cX11_fault 10 = .ok (.ireturn, 1) := by decide +kernel
theorem dX11_fault_11 : decode cX11_fault 11 = .ok (.iload_n 1, 1) := by decide +kernel
theorem dX11_fault_12 : decode cX11_fault 12 = .ok (.iconst 0, 1) := by decide +kernel
theorem dX11_fault_13 : decode cX11_fault 13 = .ok (.aload_n 0, 1) := by decide +kernel
theorem dX11_fault_14 : decode cX11_fault 14 = .ok (.getfield 199, 3) := by decide +kernel
theorem dX11_fault_17 : decode cX11_fault 17 = .ok (.iconst 1, 1) := by decide +kernel
theorem dX11_fault_18 : decode cX11_fault 18 = .ok (.isub, 1) := by decide +kernel
theorem dX11_fault_19 : decode cX11_fault 19 = .ok (.invokestatic 94, 3) := by decide +kernel
theorem dX11_fault_22 : decode cX11_fault 22 = .ok (.ifCond .eq 12, 3) := by decide +kernel
theorem dX11_fault_25 : decode cX11_fault 25 = .ok (.aload_n 0, 1) := by decide +kernel
theorem dX11_fault_26 : decode cX11_fault 26 = .ok (.iload_n 1, 1) := by decide +kernel
theorem dX11_fault_27 : decode cX11_fault 27 = .ok (.iload_n 2, 1) := by decide +kernel
theorem dX11_fault_28 : decode cX11_fault 28 = .ok (.invokevirtual 212, 3) := by decide +kernel
theorem dX11_fault_31 : decode cX11_fault 31 = .ok (.goto 5, 3) := by decide +kernel
theorem dX11_fault_34 : decode cX11_fault 34 = .ok (.bipush (-2), 2) := by decide +kernel
theorem dX11_fault_36 : decode cX11_fault 36 = .ok (.ireturn, 1) := by decide +kernel
theorem dX11_mend_0 : decode cX11_mend 0 = .ok (.aload_n 0, 1) := by decide +kernel
theorem dX11_mend_1 : decode cX11_mend 1 = .ok (.getfield 35, 3) := by decide +kernel
theorem dX11_mend_4 : decode cX11_mend 4 = .ok (.invokevirtual 190, 3) := by decide +kernel
theorem dX11_mend_7 : decode cX11_mend 7 = .ok (.iload_n 1, 1) := by decide +kernel
theorem dX11_mend_8 : decode cX11_mend 8 = .ok (.iconst 0, 1) := by decide +kernel
theorem dX11_mend_9 : decode cX11_mend 9 = .ok (.aload_n 0, 1) := by decide +kernel
theorem dX11_mend_10 : decode cX11_mend 10 = .ok (.getfield 199, 3) := by decide +kernel
theorem dX11_mend_13 : decode cX11_mend 13 = .ok (.iconst 1, 1) := by decide +kernel
theorem dX11_mend_14 : decode cX11_mend 14 = .ok (.isub, 1) := by decide +kernel
theorem dX11_mend_15 : decode cX11_mend 15 = .ok (.invokestatic 94, 3) := by decide +kernel
theorem dX11_mend_18 : decode cX11_mend 18 = .ok (.ifCond .ne 10, 3) := by decide +kernel
theorem dX11_mend_21 : decode cX11_mend 21 = .ok (.aload_n 0, 1) := by decide +kernel
theorem dX11_mend_22 : decode cX11_mend 22 = .ok (.bipush (-2), 2) := by decide +kernel
theorem dX11_mend_24 : decode cX11_mend 24 = .ok (.invokevirtual 87, 3) := by decide +kernel
theorem dX11_mend_27 : decode cX11_mend 27 = .ok (.ireturn, 1) := by decide +kernel
theorem dX11_mend_28 : decode cX11_mend 28 = .ok (.aload_n 0, 1) := by decide +kernel
theorem dX11_mend_29 : decode cX11_mend 29 = .ok (.iload_n 1, 1) := by decide +kernel
theorem dX11_mend_30 : decode cX11_mend 30 = .ok (.iconst 2, 1) := by decide +kernel
theorem dX11_mend_31 : decode cX11_mend 31 = .ok (.invokevirtual 212, 3) := by decide +kernel
theorem dX11_mend_34 : decode cX11_mend 34 = .ok (.istore_n 2, 1) := by decide +kernel
theorem dX11_mend_35 : decode cX11_mend 35 = .ok (.aload_n 0, 1) := by decide +kernel
theorem dX11_mend_36 : decode cX11_mend 36 = .ok (.iload_n 1, 1) := by decide +kernel
theorem dX11_mend_37 : decode cX11_mend 37 = .ok (.iconst 3, 1) := by decide +kernel
theorem dX11_mend_38 : decode cX11_mend 38 = .ok (.invokevirtual 212, 3) := by decide +kernel
theorem dX11_mend_41 : decode cX11_mend 41 = .ok (.istore_n 3, 1) := by decide +kernel
theorem dX11_mend_42 : decode cX11_mend 42 = .ok (.aload_n 0, 1) := by decide +kernel
theorem dX11_mend_43 : decode cX11_mend 43 = .ok (.getfield 11, 3) := by decide +kernel
theorem dX11_mend_46 : decode cX11_mend 46 = .ok (.iload_n 2, 1) := by decide +kernel
theorem dX11_mend_47 : decode cX11_mend 47 = .ok (.aaload, 1) := by decide +kernel
theorem dX11_mend_48 : decode cX11_mend 48 = .ok (.invokestatic 112, 3) := by decide +kernel
theorem dX11_mend_51 : decode cX11_mend 51 = .ok (.iconst 2, 1) := by decide +kernel
theorem dX11_mend_52 : decode cX11_mend 52 = .ok (.if_icmp .eq 16, 3) := by decide +kernel
theorem dX11_mend_55 : decode cX11_mend 55 = .ok (.aload_n 0, 1) := by decide +kernel
theorem dX11_mend_56 : decode cX11_mend 56 = .ok (.getfield 11, 3) := by decide +kernel
theorem dX11_mend_59 : decode cX11_mend 59 = .ok (.iload_n 3, 1) := by decide +kernel
theorem dX11_mend_60 : decode cX11_mend 60 = .ok (.aaload, 1) := by decide +kernel
theorem dX11_mend_61 : decode cX11_mend 61 = .ok (.invokestatic 112, 3) := by decide +kernel
theorem dX11_mend_64 : decode cX11_mend 64 = .ok (.iconst 2, 1) := by decide +kernel
theorem dX11_mend_65 : decode cX11_mend 65 = .ok (.if_icmp .ne 9, 3) := by decide +kernel
theorem dX11_mend_68 : decode cX11_mend 68 = .ok (.aload_n 0, 1) := by decide +kernel
theorem dX11_mend_69 : decode cX11_mend 69 = .ok (.iconst 2, 1) := by decide +kernel
theorem dX11_mend_70 : decode cX11_mend 70 = .ok (.invokevirtual 76, 3) := by decide +kernel
theorem dX11_mend_73 : decode cX11_mend 73 = .ok (.ireturn, 1) := by decide +kernel
theorem dX11_mend_74 : decode cX11_mend 74 = .ok (.aload_n 0, 1) := by decide +kernel
theorem dX11_mend_75 : decode cX11_mend 75 = .ok (.getfield 35, 3) := by decide +kernel
theorem dX11_mend_78 : decode cX11_mend 78 = .ok (.aload_n 0, 1) := by decide +kernel
theorem dX11_mend_79 : decode cX11_mend 79 = .ok (.getfield 11, 3) := by decide +kernel
theorem dX11_mend_82 : decode cX11_mend 82 = .ok (.iload_n 2, 1) := by decide +kernel
theorem dX11_mend_83 : decode cX11_mend 83 = .ok (.aaload, 1) := by decide +kernel
theorem dX11_mend_84 : decode cX11_mend 84 = .ok (.aload_n 0, 1) := by decide +kernel
theorem dX11_mend_85 : decode cX11_mend 85 = .ok (.getfield 11, 3) := by decide +kernel
theorem dX11_mend_88 : decode cX11_mend 88 = .ok (.iload_n 3, 1) := by decide +kernel
theorem dX11_mend_89 : decode cX11_mend 89 = .ok (.aaload, 1) := by decide +kernel
theorem dX11_mend_90 : decode cX11_mend 90 = .ok (.aload_n 0, 1) := by decide +kernel
theorem dX11_mend_91 : decode cX11_mend 91 = .ok (.iload_n 1, 1) := by decide +kernel
theorem dX11_mend_92 : decode cX11_mend 92 = .ok (.iconst 1, 1) := by decide +kernel
theorem dX11_mend_93 : decode cX11_mend 93 = .ok (.invokevirtual 212, 3) := by decide +kernel
theorem dX11_mend_96 : decode cX11_mend 96 = .ok (.aload_n 0, 1) := by decide +kernel
theorem dX11_mend_97 : decode cX11_mend 97 = .ok (.getfield 11, 3) := by decide +kernel
theorem dX11_mend_100 : decode cX11_mend 100 = .ok (.iload_n 2, 1) := by decide +kernel
theorem dX11_mend_101 : decode cX11_mend 101 = .ok (.aaload, 1) := by decide +kernel
theorem dX11_mend_102 : decode cX11_mend 102 = .ok (.aload_n 0, 1) := by decide +kernel
theorem dX11_mend_103 : decode cX11_mend 103 = .ok (.getfield 11, 3) := by decide +kernel
theorem dX11_mend_106 : decode cX11_mend 106 = .ok (.iload_n 3, 1) := by decide +kernel
theorem dX11_mend_107 : decode cX11_mend 107 = .ok (.aaload, 1) := by decide +kernel
theorem dX11_mend_108 : decode cX11_mend 108 = .ok (.invokestatic 215, 3) := by decide +kernel
theorem dX11_mend_111 : decode cX11_mend 111 = .ok (.invokevirtual 219, 3) := by decide +kernel
theorem dX11_mend_114 : decode cX11_mend 114 = .ok (.aload_n 0, 1) := by decide +kernel
theorem dX11_mend_115 : decode cX11_mend 115 = .ok (.getfield 61, 3) := by decide +kernel
theorem dX11_mend_118 : decode cX11_mend 118 = .ok (.iload_n 1, 1) := by decide +kernel
theorem dX11_mend_119 : decode cX11_mend 119 = .ok (.aaload, 1) := by decide +kernel
theorem dX11_mend_120 : decode cX11_mend 120 = .ok (.astore 4, 2) := by decide +kernel
theorem dX11_mend_122 : decode cX11_mend 122 = .ok (.aload_n 0, 1) := by decide +kernel
theorem dX11_mend_123 : decode cX11_mend 123 = .ok (.aload_n 0, 1) := by decide +kernel
theorem dX11_mend_124 : decode cX11_mend 124 = .ok (.getfield 35, 3) := by decide +kernel
theorem dX11_mend_127 : decode cX11_mend 127 = .ok (.invokevirtual 223, 3) := by decide +kernel
theorem dX11_mend_130 : decode cX11_mend 130 = .ok (.ifCond .eq 20, 3) := by decide +kernel
theorem dX11_mend_133 : decode cX11_mend 133 = .ok (.aload 4, 2) := by decide +kernel
theorem dX11_mend_135 : decode cX11_mend 135 = .ok (.ifnull 15, 3) := by decide +kernel
theorem dX11_mend_138 : decode cX11_mend 138 = .ok (.aload 4, 2) := by decide +kernel
theorem dX11_mend_140 : decode cX11_mend 140 = .ok (.aload_n 0, 1) := by decide +kernel
theorem dX11_mend_141 : decode cX11_mend 141 = .ok (.getfield 35, 3) := by decide +kernel
theorem dX11_mend_144 : decode cX11_mend 144 = .ok (.invokevirtual 227, 3) := by decide +kernel
theorem dX11_mend_147 : decode cX11_mend 147 = .ok (.goto 5, 3) := by decide +kernel
theorem dX11_mend_150 : decode cX11_mend 150 = .ok (.bipush (-2), 2) := by decide +kernel
theorem dX11_mend_152 : decode cX11_mend 152 = .ok (.invokevirtual 87, 3) := by decide +kernel
theorem dX11_mend_155 : decode cX11_mend 155 = .ok (.ireturn, 1) := by decide +kernel
theorem dX11_canon_0 : decode cX11_canon 0 = .ok (.iload_n 1, 1) := by decide +kernel
theorem dX11_canon_1 : decode cX11_canon 1 = .ok (.invokestatic 72, 3) := by decide +kernel
theorem dX11_canon_4 : decode cX11_canon 4 = .ok (.ifCond .eq 21, 3) := by decide +kernel
theorem dX11_canon_7 : decode cX11_canon 7 = .ok (.iload_n 2, 1) := by decide +kernel
theorem dX11_canon_8 : decode cX11_canon 8 = .ok (.invokestatic 144, 3) := by decide +kernel
theorem dX11_canon_11 : decode cX11_canon 11 = .ok (.ifCond .eq 14, 3) := by decide +kernel
theorem dX11_canon_14 : decode cX11_canon 14 = .ok (.iload_n 3, 1) := by decide +kernel
theorem dX11_canon_15 : decode cX11_canon 15 = .ok (.iload 4, 2) := by decide +kernel
theorem dX11_canon_17 : decode cX11_canon 17 = .ok (.iload 5, 2) := by decide +kernel
theorem dX11_canon_19 : decode cX11_canon 19 = .ok (.invokestatic 231, 3) := by decide +kernel
theorem dX11_canon_22 : decode cX11_canon 22 = .ok (.ifCond .ne 5, 3) := by decide +kernel
theorem dX11_canon_25 : decode cX11_canon 25 = .ok (.iconst (-1), 1) := by decide +kernel
theorem dX11_canon_26 : decode cX11_canon 26 = .ok (.ireturn, 1) := by decide +kernel
theorem dX11_canon_27 : decode cX11_canon 27 = .ok (.aload_n 0, 1) := by decide +kernel
theorem dX11_canon_28 : decode cX11_canon 28 = .ok (.getfield 35, 3) := by decide +kernel
theorem dX11_canon_31 : decode cX11_canon 31 = .ok (.invokevirtual 190, 3) := by decide +kernel
theorem dX11_canon_34 : decode cX11_canon 34 = .ok (.aload_n 0, 1) := by decide +kernel
theorem dX11_canon_35 : decode cX11_canon 35 = .ok (.getfield 11, 3) := by decide +kernel
theorem dX11_canon_38 : decode cX11_canon 38 = .ok (.iload_n 1, 1) := by decide +kernel
theorem dX11_canon_39 : decode cX11_canon 39 = .ok (.aaload, 1) := by decide +kernel
theorem dX11_canon_40 : decode cX11_canon 40 = .ok (.invokestatic 112, 3) := by decide +kernel
theorem dX11_canon_43 : decode cX11_canon 43 = .ok (.istore 6, 2) := by decide +kernel
theorem dX11_canon_45 : decode cX11_canon 45 = .ok (.iload 6, 2) := by decide +kernel
theorem dX11_canon_47 : decode cX11_canon 47 = .ok (.ifCond .eq 10, 3) := by decide +kernel
theorem dX11_canon_50 : decode cX11_canon 50 = .ok (.aload_n 0, 1) := by decide +kernel
theorem dX11_canon_51 : decode cX11_canon 51 = .ok (.iload 6, 2) := by decide +kernel
theorem dX11_canon_53 : decode cX11_canon 53 = .ok (.invokevirtual 76, 3) := by decide +kernel
theorem dX11_canon_56 : decode cX11_canon 56 = .ok (.ireturn, 1) := by decide +kernel
theorem dX11_canon_57 : decode cX11_canon 57 = .ok (.aload_n 0, 1) := by decide +kernel
theorem dX11_canon_58 : decode cX11_canon 58 = .ok (.getfield 28, 3) := by decide +kernel
theorem dX11_canon_61 : decode cX11_canon 61 = .ok (.iload_n 2, 1) := by decide +kernel
theorem dX11_canon_62 : decode cX11_canon 62 = .ok (.aaload, 1) := by decide +kernel
theorem dX11_canon_63 : decode cX11_canon 63 = .ok (.ifnonnull 11, 3) := by decide +kernel
theorem dX11_canon_66 : decode cX11_canon 66 = .ok (.aload_n 0, 1) := by decide +kernel
theorem dX11_canon_67 : decode cX11_canon 67 = .ok (.iconst 1, 1) := by decide +kernel
theorem dX11_canon_68 : decode cX11_canon 68 = .ok (.invokevirtual 76, 3) := by decide +kernel
theorem dX11_canon_71 : decode cX11_canon 71 = .ok (.goto 28, 3) := by decide +kernel
theorem dX11_canon_74 : decode cX11_canon 74 = .ok (.aload_n 0, 1) := by decide +kernel
theorem dX11_canon_75 : decode cX11_canon 75 = .ok (.aload_n 0, 1) := by decide +kernel
theorem dX11_canon_76 : decode cX11_canon 76 = .ok (.aload_n 0, 1) := by decide +kernel
theorem dX11_canon_77 : decode cX11_canon 77 = .ok (.getfield 11, 3) := by decide +kernel
theorem dX11_canon_80 : decode cX11_canon 80 = .ok (.iload_n 1, 1) := by decide +kernel
theorem dX11_canon_81 : decode cX11_canon 81 = .ok (.aaload, 1) := by decide +kernel
theorem dX11_canon_82 : decode cX11_canon 82 = .ok (.aload_n 0, 1) := by decide +kernel
theorem dX11_canon_83 : decode cX11_canon 83 = .ok (.getfield 28, 3) := by decide +kernel
theorem dX11_canon_86 : decode cX11_canon 86 = .ok (.iload_n 2, 1) := by decide +kernel
theorem dX11_canon_87 : decode cX11_canon 87 = .ok (.aaload, 1) := by decide +kernel
theorem dX11_canon_88 : decode cX11_canon 88 = .ok (.iload_n 3, 1) := by decide +kernel
theorem dX11_canon_89 : decode cX11_canon 89 = .ok (.iload 4, 2) := by decide +kernel
theorem dX11_canon_91 : decode cX11_canon 91 = .ok (.iload 5, 2) := by decide +kernel
theorem dX11_canon_93 : decode cX11_canon 93 = .ok (.invokevirtual 234, 3) := by decide +kernel
theorem dX11_canon_96 : decode cX11_canon 96 = .ok (.invokevirtual 87, 3) := by decide +kernel
theorem dX11_canon_99 : decode cX11_canon 99 = .ok (.ireturn, 1) := by decide +kernel
theorem dX11_canons_0 : decode cX11_canons 0 = .ok (.iload_n 1, 1) := by decide +kernel
theorem dX11_canons_1 : decode cX11_canons 1 = .ok (.invokestatic 72, 3) := by decide +kernel
theorem dX11_canons_4 : decode cX11_canons 4 = .ok (.ifCond .eq 20, 3) := by decide +kernel
theorem dX11_canons_7 : decode cX11_canons 7 = .ok (.iload_n 2, 1) := by decide +kernel
theorem dX11_canons_8 : decode cX11_canons 8 = .ok (.invokestatic 144, 3) := by decide +kernel
theorem dX11_canons_11 : decode cX11_canons 11 = .ok (.ifCond .eq 13, 3) := by decide +kernel
theorem dX11_canons_14 : decode cX11_canons 14 = .ok (.iconst 0, 1) := by decide +kernel
theorem dX11_canons_15 : decode cX11_canons 15 = .ok (.iload_n 3, 1) := by decide +kernel
theorem dX11_canons_16 : decode cX11_canons 16 = .ok (.iload 4, 2) := by decide +kernel
theorem dX11_canons_18 : decode cX11_canons 18 = .ok (.invokestatic 231, 3) := by decide +kernel
theorem dX11_canons_21 : decode cX11_canons 21 = .ok (.ifCond .ne 5, 3) := by decide +kernel
theorem dX11_canons_24 : decode cX11_canons 24 = .ok (.iconst (-1), 1) := by decide +kernel
theorem dX11_canons_25 : decode cX11_canons 25 = .ok (.ireturn, 1) := by decide +kernel
theorem dX11_canons_26 : decode cX11_canons 26 = .ok (.aload_n 0, 1) := by decide +kernel
theorem dX11_canons_27 : decode cX11_canons 27 = .ok (.getfield 35, 3) := by decide +kernel
theorem dX11_canons_30 : decode cX11_canons 30 = .ok (.invokevirtual 190, 3) := by decide +kernel
theorem dX11_canons_33 : decode cX11_canons 33 = .ok (.aload_n 0, 1) := by decide +kernel
theorem dX11_canons_34 : decode cX11_canons 34 = .ok (.getfield 11, 3) := by decide +kernel
theorem dX11_canons_37 : decode cX11_canons 37 = .ok (.iload_n 1, 1) := by decide +kernel
theorem dX11_canons_38 : decode cX11_canons 38 = .ok (.aaload, 1) := by decide +kernel
theorem dX11_canons_39 : decode cX11_canons 39 = .ok (.invokestatic 112, 3) := by decide +kernel
theorem dX11_canons_42 : decode cX11_canons 42 = .ok (.istore 5, 2) := by decide +kernel
theorem dX11_canons_44 : decode cX11_canons 44 = .ok (.iload 5, 2) := by decide +kernel
theorem dX11_canons_46 : decode cX11_canons 46 = .ok (.ifCond .eq 10, 3) := by decide +kernel
theorem dX11_canons_49 : decode cX11_canons 49 = .ok (.aload_n 0, 1) := by decide +kernel
theorem dX11_canons_50 : decode cX11_canons 50 = .ok (.iload 5, 2) := by decide +kernel
theorem dX11_canons_52 : decode cX11_canons 52 = .ok (.invokevirtual 76, 3) := by decide +kernel
theorem dX11_canons_55 : decode cX11_canons 55 = .ok (.ireturn, 1) := by decide +kernel
theorem dX11_canons_56 : decode cX11_canons 56 = .ok (.aload_n 0, 1) := by decide +kernel
theorem dX11_canons_57 : decode cX11_canons 57 = .ok (.getfield 28, 3) := by decide +kernel
theorem dX11_canons_60 : decode cX11_canons 60 = .ok (.iload_n 2, 1) := by decide +kernel
theorem dX11_canons_61 : decode cX11_canons 61 = .ok (.aaload, 1) := by decide +kernel
theorem dX11_canons_62 : decode cX11_canons 62 = .ok (.ifnonnull 9, 3) := by decide +kernel
theorem dX11_canons_65 : decode cX11_canons 65 = .ok (.aload_n 0, 1) := by decide +kernel
theorem dX11_canons_66 : decode cX11_canons 66 = .ok (.iconst 1, 1) := by decide +kernel
theorem dX11_canons_67 : decode cX11_canons 67 = .ok (.invokevirtual 76, 3) := by decide +kernel
theorem dX11_canons_70 : decode cX11_canons 70 = .ok (.ireturn, 1) := by decide +kernel
theorem dX11_canons_71 : decode cX11_canons 71 = .ok (.iconst 0, 1) := by decide +kernel
theorem dX11_canons_72 : decode cX11_canons 72 = .ok (.istore 6, 2) := by decide +kernel
theorem dX11_canons_74 : decode cX11_canons 74 = .ok (.iconst 1, 1) := by decide +kernel
theorem dX11_canons_75 : decode cX11_canons 75 = .ok (.istore 7, 2) := by decide +kernel
theorem dX11_canons_77 : decode cX11_canons 77 = .ok (.iload 7, 2) := by decide +kernel
theorem dX11_canons_79 : decode cX11_canons 79 = .ok (.bipush 20, 2) := by decide +kernel
theorem dX11_canons_81 : decode cX11_canons 81 = .ok (.if_icmp .gt 46, 3) := by decide +kernel
theorem dX11_canons_84 : decode cX11_canons 84 = .ok (.aload_n 0, 1) := by decide +kernel
theorem dX11_canons_85 : decode cX11_canons 85 = .ok (.aload_n 0, 1) := by decide +kernel
theorem dX11_canons_86 : decode cX11_canons 86 = .ok (.getfield 11, 3) := by decide +kernel
theorem dX11_canons_89 : decode cX11_canons 89 = .ok (.iload_n 1, 1) := by decide +kernel
theorem dX11_canons_90 : decode cX11_canons 90 = .ok (.aaload, 1) := by decide +kernel
theorem dX11_canons_91 : decode cX11_canons 91 = .ok (.aload_n 0, 1) := by decide +kernel
theorem dX11_canons_92 : decode cX11_canons 92 = .ok (.getfield 28, 3) := by decide +kernel
theorem dX11_canons_95 : decode cX11_canons 95 = .ok (.iload_n 2, 1) := by decide +kernel
theorem dX11_canons_96 : decode cX11_canons 96 = .ok (.aaload, 1) := by decide +kernel
theorem dX11_canons_97 : decode cX11_canons 97 = .ok (.iload 7, 2) := by decide +kernel
theorem dX11_canons_99 : decode cX11_canons 99 = .ok (.iload_n 3, 1) := by decide +kernel
theorem dX11_canons_100 : decode cX11_canons 100 = .ok (.iload 4, 2) := by decide +kernel
theorem dX11_canons_102 : decode cX11_canons 102 = .ok (.invokevirtual 234, 3) := by decide +kernel
theorem dX11_canons_105 : decode cX11_canons 105 = .ok (.bipush (-2), 2) := by decide +kernel
theorem dX11_canons_107 : decode cX11_canons 107 = .ok (.if_icmp .ne 14, 3) := by decide +kernel
theorem dX11_canons_110 : decode cX11_canons 110 = .ok (.iload 6, 2) := by decide +kernel
theorem dX11_canons_112 : decode cX11_canons 112 = .ok (.iconst 1, 1) := by decide +kernel
theorem dX11_canons_113 : decode cX11_canons 113 = .ok (.iload 7, 2) := by decide +kernel
theorem dX11_canons_115 : decode cX11_canons 115 = .ok (.iconst 1, 1) := by decide +kernel
theorem dX11_canons_116 : decode cX11_canons 116 = .ok (.isub, 1) := by decide +kernel
theorem dX11_canons_117 : decode cX11_canons 117 = .ok (.ishl, 1) := by decide +kernel
theorem dX11_canons_118 : decode cX11_canons 118 = .ok (.ior, 1) := by decide +kernel
theorem dX11_canons_119 : decode cX11_canons 119 = .ok (.istore 6, 2) := by decide +kernel
theorem dX11_canons_121 : decode cX11_canons 121 = .ok (.iinc 7 1, 3) := by decide +kernel
theorem dX11_canons_124 : decode cX11_canons 124 = .ok (.goto (-47), 3) := by decide +kernel
theorem dX11_canons_127 : decode cX11_canons 127 = .ok (.aload_n 0, 1) := by decide +kernel
theorem dX11_canons_128 : decode cX11_canons 128 = .ok (.iload 6, 2) := by decide +kernel
theorem dX11_canons_130 : decode cX11_canons 130 = .ok (.invokevirtual 87, 3) := by decide +kernel
theorem dX11_canons_133 : decode cX11_canons 133 = .ok (.ireturn, 1) := by decide +kernel
theorem dX11_follows_0 : decode cX11_follows 0 = .ok (.iload_n 1, 1) := by decide +kernel
theorem dX11_follows_1 : decode cX11_follows 1 = .ok (.invokestatic 72, 3) := by decide +kernel
theorem dX11_follows_4 : decode cX11_follows 4 = .ok (.ifCond .eq 25, 3) := by decide +kernel
theorem dX11_follows_7 : decode cX11_follows 7 = .ok (.iload_n 2, 1) := by decide +kernel
theorem dX11_follows_8 : decode cX11_follows 8 = .ok (.iconst 0, 1) := by decide +kernel
theorem dX11_follows_9 : decode cX11_follows 9 = .ok (.sipush 1000, 3) := by decide +kernel
theorem dX11_follows_12 : decode cX11_follows 12 = .ok (.invokestatic 94, 3) := by decide +kernel
theorem dX11_follows_15 : decode cX11_follows 15 = .ok (.ifCond .eq 14, 3) := by decide +kernel
theorem dX11_follows_18 : decode cX11_follows 18 = .ok (.iload_n 3, 1) := by decide +kernel
theorem dX11_follows_19 : decode cX11_follows 19 = .ok (.iload 4, 2) := by decide +kernel
theorem dX11_follows_21 : decode cX11_follows 21 = .ok (.iload 5, 2) := by decide +kernel
theorem dX11_follows_23 : decode cX11_follows 23 = .ok (.invokestatic 231, 3) := by decide +kernel
theorem dX11_follows_26 : decode cX11_follows 26 = .ok (.ifCond .ne 5, 3) := by decide +kernel
theorem dX11_follows_29 : decode cX11_follows 29 = .ok (.iconst (-1), 1) := by decide +kernel
theorem dX11_follows_30 : decode cX11_follows 30 = .ok (.ireturn, 1) := by decide +kernel
theorem dX11_follows_31 : decode cX11_follows 31 = .ok (.aload_n 0, 1) := by decide +kernel
theorem dX11_follows_32 : decode cX11_follows 32 = .ok (.getfield 11, 3) := by decide +kernel
theorem dX11_follows_35 : decode cX11_follows 35 = .ok (.iload_n 1, 1) := by decide +kernel
theorem dX11_follows_36 : decode cX11_follows 36 = .ok (.aaload, 1) := by decide +kernel
theorem dX11_follows_37 : decode cX11_follows 37 = .ok (.invokestatic 112, 3) := by decide +kernel
theorem dX11_follows_40 : decode cX11_follows 40 = .ok (.istore 6, 2) := by decide +kernel
theorem dX11_follows_42 : decode cX11_follows 42 = .ok (.iload 6, 2) := by decide +kernel
theorem dX11_follows_44 : decode cX11_follows 44 = .ok (.ifCond .ne 25, 3) := by decide +kernel
theorem dX11_follows_47 : decode cX11_follows 47 = .ok (.aload_n 0, 1) := by decide +kernel
theorem dX11_follows_48 : decode cX11_follows 48 = .ok (.aload_n 0, 1) := by decide +kernel
theorem dX11_follows_49 : decode cX11_follows 49 = .ok (.getfield 11, 3) := by decide +kernel
theorem dX11_follows_52 : decode cX11_follows 52 = .ok (.iload_n 1, 1) := by decide +kernel
theorem dX11_follows_53 : decode cX11_follows 53 = .ok (.aaload, 1) := by decide +kernel
theorem dX11_follows_54 : decode cX11_follows 54 = .ok (.iload_n 2, 1) := by decide +kernel
theorem dX11_follows_55 : decode cX11_follows 55 = .ok (.iload_n 3, 1) := by decide +kernel
theorem dX11_follows_56 : decode cX11_follows 56 = .ok (.iload 4, 2) := by decide +kernel
theorem dX11_follows_58 : decode cX11_follows 58 = .ok (.iload 5, 2) := by decide +kernel
theorem dX11_follows_60 : decode cX11_follows 60 = .ok (.invokevirtual 238, 3) := by decide +kernel
theorem dX11_follows_63 : decode cX11_follows 63 = .ok (.invokevirtual 87, 3) := by decide +kernel
theorem dX11_follows_66 : decode cX11_follows 66 = .ok (.goto 9, 3) := by decide +kernel
theorem dX11_follows_69 : decode cX11_follows 69 = .ok (.aload_n 0, 1) := by decide +kernel
theorem dX11_follows_70 : decode cX11_follows 70 = .ok (.iload 6, 2) := by decide +kernel
theorem dX11_follows_72 : decode cX11_follows 72 = .ok (.invokevirtual 76, 3) := by decide +kernel
theorem dX11_follows_75 : decode cX11_follows 75 = .ok (.ireturn, 1) := by decide +kernel
theorem dX11_set_0 : decode cX11_set 0 = .ok (.iload_n 1, 1) := by decide +kernel
theorem dX11_set_1 : decode cX11_set 1 = .ok (.invokestatic 72, 3) := by decide +kernel
theorem dX11_set_4 : decode cX11_set 4 = .ok (.ifCond .eq 28, 3) := by decide +kernel
theorem dX11_set_7 : decode cX11_set 7 = .ok (.iload_n 2, 1) := by decide +kernel
theorem dX11_set_8 : decode cX11_set 8 = .ok (.invokestatic 72, 3) := by decide +kernel
theorem dX11_set_11 : decode cX11_set 11 = .ok (.ifCond .eq 21, 3) := by decide +kernel
theorem dX11_set_14 : decode cX11_set 14 = .ok (.iload_n 3, 1) := by decide +kernel
theorem dX11_set_15 : decode cX11_set 15 = .ok (.invokestatic 144, 3) := by decide +kernel
theorem dX11_set_18 : decode cX11_set 18 = .ok (.ifCond .eq 14, 3) := by decide +kernel
theorem dX11_set_21 : decode cX11_set 21 = .ok (.iload 7, 2) := by decide +kernel
theorem dX11_set_23 : decode cX11_set 23 = .ok (.iconst 0, 1) := by decide +kernel
theorem dX11_set_24 : decode cX11_set 24 = .ok (.bipush 30, 2) := by decide +kernel
theorem dX11_set_26 : decode cX11_set 26 = .ok (.invokestatic 94, 3) := by decide +kernel
theorem dX11_set_29 : decode cX11_set 29 = .ok (.ifCond .ne 5, 3) := by decide +kernel
theorem dX11_set_32 : decode cX11_set 32 = .ok (.iconst (-1), 1) := by decide +kernel
theorem dX11_set_33 : decode cX11_set 33 = .ok (.ireturn, 1) := by decide +kernel
theorem dX11_set_34 : decode cX11_set 34 = .ok (.iload 5, 2) := by decide +kernel
theorem dX11_set_36 : decode cX11_set 36 = .ok (.iconst 1, 1) := by decide +kernel
theorem dX11_set_37 : decode cX11_set 37 = .ok (.bipush 120, 2) := by decide +kernel
theorem dX11_set_39 : decode cX11_set 39 = .ok (.invokestatic 94, 3) := by decide +kernel
theorem dX11_set_42 : decode cX11_set 42 = .ok (.ifCond .eq 25, 3) := by decide +kernel
theorem dX11_set_45 : decode cX11_set 45 = .ok (.iload 6, 2) := by decide +kernel
theorem dX11_set_47 : decode cX11_set 47 = .ok (.iload 5, 2) := by decide +kernel
theorem dX11_set_49 : decode cX11_set 49 = .ok (.bipush 120, 2) := by decide +kernel
theorem dX11_set_51 : decode cX11_set 51 = .ok (.invokestatic 94, 3) := by decide +kernel
theorem dX11_set_54 : decode cX11_set 54 = .ok (.ifCond .eq 13, 3) := by decide +kernel
theorem dX11_set_57 : decode cX11_set 57 = .ok (.iload 6, 2) := by decide +kernel
theorem dX11_set_59 : decode cX11_set 59 = .ok (.iload 5, 2) := by decide +kernel
theorem dX11_set_61 : decode cX11_set 61 = .ok (.isub, 1) := by decide +kernel
theorem dX11_set_62 : decode cX11_set 62 = .ok (.bipush 15, 2) := by decide +kernel
theorem dX11_set_64 : decode cX11_set 64 = .ok (.if_icmp .le 5, 3) := by decide +kernel
theorem dX11_set_67 : decode cX11_set 67 = .ok (.iconst (-1), 1) := by decide +kernel
theorem dX11_set_68 : decode cX11_set 68 = .ok (.ireturn, 1) := by decide +kernel
theorem dX11_set_69 : decode cX11_set 69 = .ok (.aload_n 0, 1) := by decide +kernel
theorem dX11_set_70 : decode cX11_set 70 = .ok (.getfield 11, 3) := by decide +kernel
theorem dX11_set_73 : decode cX11_set 73 = .ok (.iload_n 2, 1) := by decide +kernel
theorem dX11_set_74 : decode cX11_set 74 = .ok (.aaload, 1) := by decide +kernel
theorem dX11_set_75 : decode cX11_set 75 = .ok (.invokestatic 112, 3) := by decide +kernel
theorem dX11_set_78 : decode cX11_set 78 = .ok (.istore 8, 2) := by decide +kernel
theorem dX11_set_80 : decode cX11_set 80 = .ok (.iload 8, 2) := by decide +kernel
theorem dX11_set_82 : decode cX11_set 82 = .ok (.ifCond .eq 10, 3) := by decide +kernel
theorem dX11_set_85 : decode cX11_set 85 = .ok (.aload_n 0, 1) := by decide +kernel
theorem dX11_set_86 : decode cX11_set 86 = .ok (.iload 8, 2) := by decide +kernel
theorem dX11_set_88 : decode cX11_set 88 = .ok (.invokevirtual 76, 3) := by decide +kernel
theorem dX11_set_91 : decode cX11_set 91 = .ok (.ireturn, 1) := by decide +kernel
theorem dX11_set_92 : decode cX11_set 92 = .ok (.aload_n 0, 1) := by decide +kernel
theorem dX11_set_93 : decode cX11_set 93 = .ok (.getfield 44, 3) := by decide +kernel
theorem dX11_set_96 : decode cX11_set 96 = .ok (.aload_n 0, 1) := by decide +kernel
theorem dX11_set_97 : decode cX11_set 97 = .ok (.getfield 11, 3) := by decide +kernel
theorem dX11_set_100 : decode cX11_set 100 = .ok (.iload_n 2, 1) := by decide +kernel
theorem dX11_set_101 : decode cX11_set 101 = .ok (.aaload, 1) := by decide +kernel
theorem dX11_set_102 : decode cX11_set 102 = .ok (.iload 4, 2) := by decide +kernel
theorem dX11_set_104 : decode cX11_set 104 = .ok (.iload 5, 2) := by decide +kernel
theorem dX11_set_106 : decode cX11_set 106 = .ok (.iload 6, 2) := by decide +kernel
theorem dX11_set_108 : decode cX11_set 108 = .ok (.invokevirtual 242, 3) := by decide +kernel
theorem dX11_set_111 : decode cX11_set 111 = .ok (.aload_n 0, 1) := by decide +kernel
theorem dX11_set_112 : decode cX11_set 112 = .ok (.getfield 44, 3) := by decide +kernel
theorem dX11_set_115 : decode cX11_set 115 = .ok (.iload_n 1, 1) := by decide +kernel
theorem dX11_set_116 : decode cX11_set 116 = .ok (.putfield 246, 3) := by decide +kernel
theorem dX11_set_119 : decode cX11_set 119 = .ok (.aload_n 0, 1) := by decide +kernel
theorem dX11_set_120 : decode cX11_set 120 = .ok (.getfield 44, 3) := by decide +kernel
theorem dX11_set_123 : decode cX11_set 123 = .ok (.iload_n 3, 1) := by decide +kernel
theorem dX11_set_124 : decode cX11_set 124 = .ok (.putfield 249, 3) := by decide +kernel
theorem dX11_set_127 : decode cX11_set 127 = .ok (.aload_n 0, 1) := by decide +kernel
theorem dX11_set_128 : decode cX11_set 128 = .ok (.iload 7, 2) := by decide +kernel
theorem dX11_set_130 : decode cX11_set 130 = .ok (.invokevirtual 252, 3) := by decide +kernel
theorem dX11_set_133 : decode cX11_set 133 = .ok (.ireturn, 1) := by decide +kernel
theorem dX11_goOn_0 : decode cX11_goOn 0 = .ok (.iload_n 1, 1) := by decide +kernel
theorem dX11_goOn_1 : decode cX11_goOn 1 = .ok (.iconst 0, 1) := by decide +kernel
theorem dX11_goOn_2 : decode cX11_goOn 2 = .ok (.bipush 30, 2) := by decide +kernel
theorem dX11_goOn_4 : decode cX11_goOn 4 = .ok (.invokestatic 94, 3) := by decide +kernel
theorem dX11_goOn_7 : decode cX11_goOn 7 = .ok (.ifCond .ne 5, 3) := by decide +kernel
theorem dX11_goOn_10 : decode cX11_goOn 10 = .ok (.iconst (-1), 1) := by decide +kernel
theorem dX11_goOn_11 : decode cX11_goOn 11 = .ok (.ireturn, 1) := by decide +kernel
theorem dX11_goOn_12 : decode cX11_goOn 12 = .ok (.aload_n 0, 1) := by decide +kernel
theorem dX11_goOn_13 : decode cX11_goOn 13 = .ok (.getfield 44, 3) := by decide +kernel
theorem dX11_goOn_16 : decode cX11_goOn 16 = .ok (.getfield 255, 3) := by decide +kernel
theorem dX11_goOn_19 : decode cX11_goOn 19 = .ok (.ifCond .eq 21, 3) := by decide +kernel
theorem dX11_goOn_22 : decode cX11_goOn 22 = .ok (.aload_n 0, 1) := by decide +kernel
theorem dX11_goOn_23 : decode cX11_goOn 23 = .ok (.getfield 44, 3) := by decide +kernel
theorem dX11_goOn_26 : decode cX11_goOn 26 = .ok (.getfield 258, 3) := by decide +kernel
theorem dX11_goOn_29 : decode cX11_goOn 29 = .ok (.ifCond .ne 11, 3) := by decide +kernel
theorem dX11_goOn_32 : decode cX11_goOn 32 = .ok (.aload_n 0, 1) := by decide +kernel
theorem dX11_goOn_33 : decode cX11_goOn 33 = .ok (.iload_n 1, 1) := by decide +kernel
theorem dX11_goOn_34 : decode cX11_goOn 34 = .ok (.invokevirtual 252, 3) := by decide +kernel
theorem dX11_goOn_37 : decode cX11_goOn 37 = .ok (.goto 9, 3) := by decide +kernel
theorem dX11_goOn_40 : decode cX11_goOn 40 = .ok (.aload_n 0, 1) := by decide +kernel
theorem dX11_goOn_41 : decode cX11_goOn 41 = .ok (.bipush 7, 2) := by decide +kernel
theorem dX11_goOn_43 : decode cX11_goOn 43 = .ok (.invokevirtual 76, 3) := by decide +kernel
theorem dX11_goOn_46 : decode cX11_goOn 46 = .ok (.ireturn, 1) := by decide +kernel
theorem dX11_least_0 : decode cX11_least 0 = .ok (.aload_n 0, 1) := by decide +kernel
theorem dX11_least_1 : decode cX11_least 1 = .ok (.getfield 44, 3) := by decide +kernel
theorem dX11_least_4 : decode cX11_least 4 = .ok (.invokevirtual 261, 3) := by decide +kernel
theorem dX11_least_7 : decode cX11_least 7 = .ok (.ifCond .eq 23, 3) := by decide +kernel
theorem dX11_least_10 : decode cX11_least 10 = .ok (.aload_n 0, 1) := by decide +kernel
theorem dX11_least_11 : decode cX11_least 11 = .ok (.getfield 44, 3) := by decide +kernel
theorem dX11_least_14 : decode cX11_least 14 = .ok (.invokevirtual 264, 3) := by decide +kernel
theorem dX11_least_17 : decode cX11_least 17 = .ok (.ifCond .eq 13, 3) := by decide +kernel
theorem dX11_least_20 : decode cX11_least 20 = .ok (.aload_n 0, 1) := by decide +kernel
theorem dX11_least_21 : decode cX11_least 21 = .ok (.getfield 44, 3) := by decide +kernel
theorem dX11_least_24 : decode cX11_least 24 = .ok (.invokevirtual 267, 3) := by decide +kernel
theorem dX11_least_27 : decode cX11_least 27 = .ok (.goto 5, 3) := by decide +kernel
theorem dX11_least_30 : decode cX11_least 30 = .ok (.bipush (-2), 2) := by decide +kernel
theorem dX11_least_32 : decode cX11_least 32 = .ok (.ireturn, 1) := by decide +kernel
theorem dX11_many_0 : decode cX11_many 0 = .ok (.aload_n 0, 1) := by decide +kernel
theorem dX11_many_1 : decode cX11_many 1 = .ok (.getfield 44, 3) := by decide +kernel
theorem dX11_many_4 : decode cX11_many 4 = .ok (.invokevirtual 261, 3) := by decide +kernel
theorem dX11_many_7 : decode cX11_many 7 = .ok (.ifCond .eq 13, 3) := by decide +kernel
theorem dX11_many_10 : decode cX11_many 10 = .ok (.aload_n 0, 1) := by decide +kernel
theorem dX11_many_11 : decode cX11_many 11 = .ok (.getfield 44, 3) := by decide +kernel
theorem dX11_many_14 : decode cX11_many 14 = .ok (.invokevirtual 270, 3) := by decide +kernel
theorem dX11_many_17 : decode cX11_many 17 = .ok (.goto 5, 3) := by decide +kernel
theorem dX11_many_20 : decode cX11_many 20 = .ok (.bipush (-2), 2) := by decide +kernel
theorem dX11_many_22 : decode cX11_many 22 = .ok (.ireturn, 1) := by decide +kernel
theorem dX11_row_0 : decode cX11_row 0 = .ok (.aload_n 0, 1) := by decide +kernel
theorem dX11_row_1 : decode cX11_row 1 = .ok (.getfield 44, 3) := by decide +kernel
theorem dX11_row_4 : decode cX11_row 4 = .ok (.getfield 255, 3) := by decide +kernel
theorem dX11_row_7 : decode cX11_row 7 = .ok (.ifCond .ne 6, 3) := by decide +kernel
theorem dX11_row_10 : decode cX11_row 10 = .ok (.bipush (-2), 2) := by decide +kernel
theorem dX11_row_12 : decode cX11_row 12 = .ok (.ireturn, 1) := by decide +kernel
theorem dX11_row_13 : decode cX11_row 13 = .ok (.aload_n 0, 1) := by decide +kernel
theorem dX11_row_14 : decode cX11_row 14 = .ok (.getfield 44, 3) := by decide +kernel
theorem dX11_row_17 : decode cX11_row 17 = .ok (.iload_n 2, 1) := by decide +kernel
theorem dX11_row_18 : decode cX11_row 18 = .ok (.iload_n 3, 1) := by decide +kernel
theorem dX11_row_19 : decode cX11_row 19 = .ok (.invokevirtual 273, 3) := by decide +kernel
theorem dX11_row_22 : decode cX11_row 22 = .ok (.ifCond .ne 5, 3) := by decide +kernel
theorem dX11_row_25 : decode cX11_row 25 = .ok (.iconst (-1), 1) := by decide +kernel
theorem dX11_row_26 : decode cX11_row 26 = .ok (.ireturn, 1) := by decide +kernel
theorem dX11_row_27 : decode cX11_row 27 = .ok (.aload_n 0, 1) := by decide +kernel
theorem dX11_row_28 : decode cX11_row 28 = .ok (.getfield 44, 3) := by decide +kernel
theorem dX11_row_31 : decode cX11_row 31 = .ok (.iload_n 1, 1) := by decide +kernel
theorem dX11_row_32 : decode cX11_row 32 = .ok (.invokevirtual 276, 3) := by decide +kernel
theorem dX11_row_35 : decode cX11_row 35 = .ok (.ifCond .eq 24, 3) := by decide +kernel
theorem dX11_row_38 : decode cX11_row 38 = .ok (.aload_n 0, 1) := by decide +kernel
theorem dX11_row_39 : decode cX11_row 39 = .ok (.getfield 44, 3) := by decide +kernel
theorem dX11_row_42 : decode cX11_row 42 = .ok (.getfield 279, 3) := by decide +kernel
theorem dX11_row_45 : decode cX11_row 45 = .ok (.aload_n 0, 1) := by decide +kernel
theorem dX11_row_46 : decode cX11_row 46 = .ok (.getfield 44, 3) := by decide +kernel
theorem dX11_row_49 : decode cX11_row 49 = .ok (.iload_n 1, 1) := by decide +kernel
theorem dX11_row_50 : decode cX11_row 50 = .ok (.iload_n 2, 1) := by decide +kernel
theorem dX11_row_51 : decode cX11_row 51 = .ok (.iload_n 3, 1) := by decide +kernel
theorem dX11_row_52 : decode cX11_row 52 = .ok (.invokevirtual 282, 3) := by decide +kernel
theorem dX11_row_55 : decode cX11_row 55 = .ok (.iaload, 1) := by decide +kernel
theorem dX11_row_56 : decode cX11_row 56 = .ok (.goto 5, 3) := by decide +kernel
theorem dX11_row_59 : decode cX11_row 59 = .ok (.bipush (-2), 2) := by decide +kernel
theorem dX11_row_61 : decode cX11_row 61 = .ok (.ireturn, 1) := by decide +kernel
theorem dX11_spoil_0 : decode cX11_spoil 0 = .ok (.aload_n 0, 1) := by decide +kernel
theorem dX11_spoil_1 : decode cX11_spoil 1 = .ok (.getfield 44, 3) := by decide +kernel
theorem dX11_spoil_4 : decode cX11_spoil 4 = .ok (.getfield 255, 3) := by decide +kernel
theorem dX11_spoil_7 : decode cX11_spoil 7 = .ok (.ifCond .ne 6, 3) := by decide +kernel
theorem dX11_spoil_10 : decode cX11_spoil 10 = .ok (.bipush (-2), 2) := by decide +kernel
theorem dX11_spoil_12 : decode cX11_spoil 12 = .ok (.ireturn, 1) := by decide +kernel
theorem dX11_spoil_13 : decode cX11_spoil 13 = .ok (.aload_n 0, 1) := by decide +kernel
theorem dX11_spoil_14 : decode cX11_spoil 14 = .ok (.getfield 44, 3) := by decide +kernel
theorem dX11_spoil_17 : decode cX11_spoil 17 = .ok (.iload_n 2, 1) := by decide +kernel
theorem dX11_spoil_18 : decode cX11_spoil 18 = .ok (.iload_n 3, 1) := by decide +kernel
theorem dX11_spoil_19 : decode cX11_spoil 19 = .ok (.invokevirtual 273, 3) := by decide +kernel
theorem dX11_spoil_22 : decode cX11_spoil 22 = .ok (.ifCond .eq 15, 3) := by decide +kernel
theorem dX11_spoil_25 : decode cX11_spoil 25 = .ok (.iload 4, 2) := by decide +kernel
theorem dX11_spoil_27 : decode cX11_spoil 27 = .ok (.iconst 0, 1) := by decide +kernel
theorem dX11_spoil_28 : decode cX11_spoil 28 = .ok (.ldc_w 286, 3) := by decide +kernel
theorem dX11_spoil_31 : decode cX11_spoil 31 = .ok (.invokestatic 94, 3) := by decide +kernel
theorem dX11_spoil_34 : decode cX11_spoil 34 = .ok (.ifCond .ne 5, 3) := by decide +kernel
theorem dX11_spoil_37 : decode cX11_spoil 37 = .ok (.iconst (-1), 1) := by decide +kernel
theorem dX11_spoil_38 : decode cX11_spoil 38 = .ok (.ireturn, 1) := by decide +kernel
theorem dX11_spoil_39 : decode cX11_spoil 39 = .ok (.aload_n 0, 1) := by decide +kernel
theorem dX11_spoil_40 : decode cX11_spoil 40 = .ok (.getfield 44, 3) := by decide +kernel
theorem dX11_spoil_43 : decode cX11_spoil 43 = .ok (.invokevirtual 261, 3) := by decide +kernel
theorem dX11_spoil_46 : decode cX11_spoil 46 = .ok (.ifCond .eq 14, 3) := by decide +kernel
theorem dX11_spoil_49 : decode cX11_spoil 49 = .ok (.aload_n 0, 1) := by decide +kernel
theorem dX11_spoil_50 : decode cX11_spoil 50 = .ok (.getfield 44, 3) := by decide +kernel
theorem dX11_spoil_53 : decode cX11_spoil 53 = .ok (.iload_n 1, 1) := by decide +kernel
theorem dX11_spoil_54 : decode cX11_spoil 54 = .ok (.invokevirtual 276, 3) := by decide +kernel
theorem dX11_spoil_57 : decode cX11_spoil 57 = .ok (.ifCond .ne 6, 3) := by decide +kernel
theorem dX11_spoil_60 : decode cX11_spoil 60 = .ok (.bipush (-2), 2) := by decide +kernel
theorem dX11_spoil_62 : decode cX11_spoil 62 = .ok (.ireturn, 1) := by decide +kernel
theorem dX11_spoil_63 : decode cX11_spoil 63 = .ok (.aload_n 0, 1) := by decide +kernel
theorem dX11_spoil_64 : decode cX11_spoil 64 = .ok (.getfield 44, 3) := by decide +kernel
theorem dX11_spoil_67 : decode cX11_spoil 67 = .ok (.iload_n 1, 1) := by decide +kernel
theorem dX11_spoil_68 : decode cX11_spoil 68 = .ok (.iload_n 2, 1) := by decide +kernel
theorem dX11_spoil_69 : decode cX11_spoil 69 = .ok (.iload_n 3, 1) := by decide +kernel
theorem dX11_spoil_70 : decode cX11_spoil 70 = .ok (.invokevirtual 282, 3) := by decide +kernel
theorem dX11_spoil_73 : decode cX11_spoil 73 = .ok (.istore 5, 2) := by decide +kernel
theorem dX11_spoil_75 : decode cX11_spoil 75 = .ok (.aload_n 0, 1) := by decide +kernel
theorem dX11_spoil_76 : decode cX11_spoil 76 = .ok (.getfield 44, 3) := by decide +kernel
theorem dX11_spoil_79 : decode cX11_spoil 79 = .ok (.getfield 279, 3) := by decide +kernel
theorem dX11_spoil_82 : decode cX11_spoil 82 = .ok (.iload 5, 2) := by decide +kernel
theorem dX11_spoil_84 : decode cX11_spoil 84 = .ok (.iaload, 1) := by decide +kernel
theorem dX11_spoil_85 : decode cX11_spoil 85 = .ok (.istore 6, 2) := by decide +kernel
theorem dX11_spoil_87 : decode cX11_spoil 87 = .ok (.aload_n 0, 1) := by decide +kernel
theorem dX11_spoil_88 : decode cX11_spoil 88 = .ok (.getfield 44, 3) := by decide +kernel
theorem dX11_spoil_91 : decode cX11_spoil 91 = .ok (.getfield 279, 3) := by decide +kernel
theorem dX11_spoil_94 : decode cX11_spoil 94 = .ok (.iload 5, 2) := by decide +kernel
theorem dX11_spoil_96 : decode cX11_spoil 96 = .ok (.iload 4, 2) := by decide +kernel
theorem dX11_spoil_98 : decode cX11_spoil 98 = .ok (.iastore, 1) := by decide +kernel
theorem dX11_spoil_99 : decode cX11_spoil 99 = .ok (.iload 6, 2) := by decide +kernel
theorem dX11_spoil_101 : decode cX11_spoil 101 = .ok (.ireturn, 1) := by decide +kernel
theorem dX11_check_0 : decode cX11_check 0 = .ok (.aload_n 0, 1) := by decide +kernel
theorem dX11_check_1 : decode cX11_check 1 = .ok (.getfield 44, 3) := by decide +kernel
theorem dX11_check_4 : decode cX11_check 4 = .ok (.invokevirtual 261, 3) := by decide +kernel
theorem dX11_check_7 : decode cX11_check 7 = .ok (.ifCond .ne 10, 3) := by decide +kernel
theorem dX11_check_10 : decode cX11_check 10 = .ok (.aload_n 0, 1) := by decide +kernel
theorem dX11_check_11 : decode cX11_check 11 = .ok (.bipush (-2), 2) := by decide +kernel
theorem dX11_check_13 : decode cX11_check 13 = .ok (.invokevirtual 87, 3) := by decide +kernel
theorem dX11_check_16 : decode cX11_check 16 = .ok (.ireturn, 1) := by decide +kernel
theorem dX11_check_17 : decode cX11_check 17 = .ok (.aload_n 0, 1) := by decide +kernel
theorem dX11_check_18 : decode cX11_check 18 = .ok (.getfield 28, 3) := by decide +kernel
theorem dX11_check_21 : decode cX11_check 21 = .ok (.aload_n 0, 1) := by decide +kernel
theorem dX11_check_22 : decode cX11_check 22 = .ok (.getfield 44, 3) := by decide +kernel
theorem dX11_check_25 : decode cX11_check 25 = .ok (.getfield 249, 3) := by decide +kernel
theorem dX11_check_28 : decode cX11_check 28 = .ok (.aaload, 1) := by decide +kernel
theorem dX11_check_29 : decode cX11_check 29 = .ok (.astore_n 1, 1) := by decide +kernel
theorem dX11_check_30 : decode cX11_check 30 = .ok (.aload_n 1, 1) := by decide +kernel
theorem dX11_check_31 : decode cX11_check 31 = .ok (.ifnonnull 11, 3) := by decide +kernel
theorem dX11_check_34 : decode cX11_check 34 = .ok (.aload_n 0, 1) := by decide +kernel
theorem dX11_check_35 : decode cX11_check 35 = .ok (.iconst 1, 1) := by decide +kernel
theorem dX11_check_36 : decode cX11_check 36 = .ok (.invokevirtual 76, 3) := by decide +kernel
theorem dX11_check_39 : decode cX11_check 39 = .ok (.goto 23, 3) := by decide +kernel
theorem dX11_check_42 : decode cX11_check 42 = .ok (.aload_n 0, 1) := by decide +kernel
theorem dX11_check_43 : decode cX11_check 43 = .ok (.aload_n 0, 1) := by decide +kernel
theorem dX11_check_44 : decode cX11_check 44 = .ok (.getfield 44, 3) := by decide +kernel
theorem dX11_check_47 : decode cX11_check 47 = .ok (.aload_n 1, 1) := by decide +kernel
theorem dX11_check_48 : decode cX11_check 48 = .ok (.invokevirtual 287, 3) := by decide +kernel
theorem dX11_check_51 : decode cX11_check 51 = .ok (.ifCond .eq 7, 3) := by decide +kernel
theorem dX11_check_54 : decode cX11_check 54 = .ok (.iconst 1, 1) := by decide +kernel
theorem dX11_check_55 : decode cX11_check 55 = .ok (.goto 4, 3) := by decide +kernel
theorem dX11_check_58 : decode cX11_check 58 = .ok (.iconst 0, 1) := by decide +kernel
theorem dX11_check_59 : decode cX11_check 59 = .ok (.invokevirtual 87, 3) := by decide +kernel
theorem dX11_check_62 : decode cX11_check 62 = .ok (.ireturn, 1) := by decide +kernel
theorem dX11_print_0 : decode cX11_print 0 = .ok (.iload_n 1, 1) := by decide +kernel
theorem dX11_print_1 : decode cX11_print 1 = .ok (.invokestatic 72, 3) := by decide +kernel
theorem dX11_print_4 : decode cX11_print 4 = .ok (.ifCond .ne 5, 3) := by decide +kernel
theorem dX11_print_7 : decode cX11_print 7 = .ok (.iconst (-1), 1) := by decide +kernel
theorem dX11_print_8 : decode cX11_print 8 = .ok (.ireturn, 1) := by decide +kernel
theorem dX11_print_9 : decode cX11_print 9 = .ok (.aload_n 0, 1) := by decide +kernel
theorem dX11_print_10 : decode cX11_print 10 = .ok (.getfield 11, 3) := by decide +kernel
theorem dX11_print_13 : decode cX11_print 13 = .ok (.iload_n 1, 1) := by decide +kernel
theorem dX11_print_14 : decode cX11_print 14 = .ok (.aaload, 1) := by decide +kernel
theorem dX11_print_15 : decode cX11_print 15 = .ok (.invokestatic 112, 3) := by decide +kernel
theorem dX11_print_18 : decode cX11_print 18 = .ok (.istore_n 2, 1) := by decide +kernel
theorem dX11_print_19 : decode cX11_print 19 = .ok (.iload_n 2, 1) := by decide +kernel
theorem dX11_print_20 : decode cX11_print 20 = .ok (.ifCond .eq 9, 3) := by decide +kernel
theorem dX11_print_23 : decode cX11_print 23 = .ok (.aload_n 0, 1) := by decide +kernel
theorem dX11_print_24 : decode cX11_print 24 = .ok (.iload_n 2, 1) := by decide +kernel
theorem dX11_print_25 : decode cX11_print 25 = .ok (.invokevirtual 76, 3) := by decide +kernel
theorem dX11_print_28 : decode cX11_print 28 = .ok (.ireturn, 1) := by decide +kernel
theorem dX11_print_29 : decode cX11_print 29 = .ok (.aload_n 0, 1) := by decide +kernel
theorem dX11_print_30 : decode cX11_print 30 = .ok (.getfield 51, 3) := by decide +kernel
theorem dX11_print_33 : decode cX11_print 33 = .ok (.aload_n 0, 1) := by decide +kernel
theorem dX11_print_34 : decode cX11_print 34 = .ok (.getfield 11, 3) := by decide +kernel
theorem dX11_print_37 : decode cX11_print 37 = .ok (.iload_n 1, 1) := by decide +kernel
theorem dX11_print_38 : decode cX11_print 38 = .ok (.aaload, 1) := by decide +kernel
theorem dX11_print_39 : decode cX11_print 39 = .ok (.invokevirtual 290, 3) := by decide +kernel
theorem dX11_print_42 : decode cX11_print 42 = .ok (.aload_n 0, 1) := by decide +kernel
theorem dX11_print_43 : decode cX11_print 43 = .ok (.aload_n 0, 1) := by decide +kernel
theorem dX11_print_44 : decode cX11_print 44 = .ok (.getfield 51, 3) := by decide +kernel
theorem dX11_print_47 : decode cX11_print 47 = .ok (.getfield 293, 3) := by decide +kernel
theorem dX11_print_50 : decode cX11_print 50 = .ok (.invokevirtual 87, 3) := by decide +kernel
theorem dX11_print_53 : decode cX11_print 53 = .ok (.ireturn, 1) := by decide +kernel
theorem dX11_read_0 : decode cX11_read 0 = .ok (.iload_n 1, 1) := by decide +kernel
theorem dX11_read_1 : decode cX11_read 1 = .ok (.invokestatic 72, 3) := by decide +kernel
theorem dX11_read_4 : decode cX11_read 4 = .ok (.ifCond .ne 5, 3) := by decide +kernel
theorem dX11_read_7 : decode cX11_read 7 = .ok (.iconst (-1), 1) := by decide +kernel
theorem dX11_read_8 : decode cX11_read 8 = .ok (.ireturn, 1) := by decide +kernel
theorem dX11_read_9 : decode cX11_read 9 = .ok (.aload_n 0, 1) := by decide +kernel
theorem dX11_read_10 : decode cX11_read 10 = .ok (.getfield 51, 3) := by decide +kernel
theorem dX11_read_13 : decode cX11_read 13 = .ok (.aload_n 0, 1) := by decide +kernel
theorem dX11_read_14 : decode cX11_read 14 = .ok (.getfield 20, 3) := by decide +kernel
theorem dX11_read_17 : decode cX11_read 17 = .ok (.invokevirtual 296, 3) := by decide +kernel
theorem dX11_read_20 : decode cX11_read 20 = .ok (.istore_n 2, 1) := by decide +kernel
theorem dX11_read_21 : decode cX11_read 21 = .ok (.iload_n 2, 1) := by decide +kernel
theorem dX11_read_22 : decode cX11_read 22 = .ok (.bipush (-2), 2) := by decide +kernel
theorem dX11_read_24 : decode cX11_read 24 = .ok (.if_icmp .eq 12, 3) := by decide +kernel
theorem dX11_read_27 : decode cX11_read 27 = .ok (.aload_n 0, 1) := by decide +kernel
theorem dX11_read_28 : decode cX11_read 28 = .ok (.bipush (-100), 2) := by decide +kernel
theorem dX11_read_30 : decode cX11_read 30 = .ok (.iload_n 2, 1) := by decide +kernel
theorem dX11_read_31 : decode cX11_read 31 = .ok (.isub, 1) := by decide +kernel
theorem dX11_read_32 : decode cX11_read 32 = .ok (.invokevirtual 87, 3) := by decide +kernel
theorem dX11_read_35 : decode cX11_read 35 = .ok (.ireturn, 1) := by decide +kernel
theorem dX11_read_36 : decode cX11_read 36 = .ok (.aload_n 0, 1) := by decide +kernel
theorem dX11_read_37 : decode cX11_read 37 = .ok (.iload_n 1, 1) := by decide +kernel
theorem dX11_read_38 : decode cX11_read 38 = .ok (.invokevirtual 80, 3) := by decide +kernel
theorem dX11_read_41 : decode cX11_read 41 = .ok (.aload_n 0, 1) := by decide +kernel
theorem dX11_read_42 : decode cX11_read 42 = .ok (.getfield 11, 3) := by decide +kernel
theorem dX11_read_45 : decode cX11_read 45 = .ok (.iload_n 1, 1) := by decide +kernel
theorem dX11_read_46 : decode cX11_read 46 = .ok (.aaload, 1) := by decide +kernel
theorem dX11_read_47 : decode cX11_read 47 = .ok (.aload_n 0, 1) := by decide +kernel
theorem dX11_read_48 : decode cX11_read 48 = .ok (.getfield 20, 3) := by decide +kernel
theorem dX11_read_51 : decode cX11_read 51 = .ok (.invokevirtual 140, 3) := by decide +kernel
theorem dX11_read_54 : decode cX11_read 54 = .ok (.aload_n 0, 1) := by decide +kernel
theorem dX11_read_55 : decode cX11_read 55 = .ok (.aload_n 0, 1) := by decide +kernel
theorem dX11_read_56 : decode cX11_read 56 = .ok (.getfield 20, 3) := by decide +kernel
theorem dX11_read_59 : decode cX11_read 59 = .ok (.getfield 109, 3) := by decide +kernel
theorem dX11_read_62 : decode cX11_read 62 = .ok (.iconst 0, 1) := by decide +kernel
theorem dX11_read_63 : decode cX11_read 63 = .ok (.iaload, 1) := by decide +kernel
theorem dX11_read_64 : decode cX11_read 64 = .ok (.invokevirtual 87, 3) := by decide +kernel
theorem dX11_read_67 : decode cX11_read 67 = .ok (.ireturn, 1) := by decide +kernel
theorem dX11_put_0 : decode cX11_put 0 = .ok (.iload_n 1, 1) := by decide +kernel
theorem dX11_put_1 : decode cX11_put 1 = .ok (.iconst 0, 1) := by decide +kernel
theorem dX11_put_2 : decode cX11_put 2 = .ok (.aload_n 0, 1) := by decide +kernel
theorem dX11_put_3 : decode cX11_put 3 = .ok (.getfield 51, 3) := by decide +kernel
theorem dX11_put_6 : decode cX11_put 6 = .ok (.getfield 293, 3) := by decide +kernel
theorem dX11_put_9 : decode cX11_put 9 = .ok (.invokestatic 94, 3) := by decide +kernel
theorem dX11_put_12 : decode cX11_put 12 = .ok (.ifCond .eq 21, 3) := by decide +kernel
theorem dX11_put_15 : decode cX11_put 15 = .ok (.iload_n 1, 1) := by decide +kernel
theorem dX11_put_16 : decode cX11_put 16 = .ok (.sipush 160, 3) := by decide +kernel
theorem dX11_put_19 : decode cX11_put 19 = .ok (.if_icmp .ge 14, 3) := by decide +kernel
theorem dX11_put_22 : decode cX11_put 22 = .ok (.iload_n 2, 1) := by decide +kernel
theorem dX11_put_23 : decode cX11_put 23 = .ok (.bipush 32, 2) := by decide +kernel
theorem dX11_put_25 : decode cX11_put 25 = .ok (.bipush 126, 2) := by decide +kernel
theorem dX11_put_27 : decode cX11_put 27 = .ok (.invokestatic 94, 3) := by decide +kernel
theorem dX11_put_30 : decode cX11_put 30 = .ok (.ifCond .ne 5, 3) := by decide +kernel
theorem dX11_put_33 : decode cX11_put 33 = .ok (.iconst (-1), 1) := by decide +kernel
theorem dX11_put_34 : decode cX11_put 34 = .ok (.ireturn, 1) := by decide +kernel
theorem dX11_put_35 : decode cX11_put 35 = .ok (.aload_n 0, 1) := by decide +kernel
theorem dX11_put_36 : decode cX11_put 36 = .ok (.getfield 51, 3) := by decide +kernel
theorem dX11_put_39 : decode cX11_put 39 = .ok (.getfield 299, 3) := by decide +kernel
theorem dX11_put_42 : decode cX11_put 42 = .ok (.iload_n 1, 1) := by decide +kernel
theorem dX11_put_43 : decode cX11_put 43 = .ok (.iload_n 2, 1) := by decide +kernel
theorem dX11_put_44 : decode cX11_put 44 = .ok (.iastore, 1) := by decide +kernel
theorem dX11_put_45 : decode cX11_put 45 = .ok (.aload_n 0, 1) := by decide +kernel
theorem dX11_put_46 : decode cX11_put 46 = .ok (.getfield 51, 3) := by decide +kernel
theorem dX11_put_49 : decode cX11_put 49 = .ok (.aload_n 0, 1) := by decide +kernel
theorem dX11_put_50 : decode cX11_put 50 = .ok (.getfield 51, 3) := by decide +kernel
theorem dX11_put_53 : decode cX11_put 53 = .ok (.getfield 293, 3) := by decide +kernel
theorem dX11_put_56 : decode cX11_put 56 = .ok (.iload_n 1, 1) := by decide +kernel
theorem dX11_put_57 : decode cX11_put 57 = .ok (.iconst 1, 1) := by decide +kernel
theorem dX11_put_58 : decode cX11_put 58 = .ok (.iadd, 1) := by decide +kernel
theorem dX11_put_59 : decode cX11_put 59 = .ok (.invokestatic 193, 3) := by decide +kernel
theorem dX11_put_62 : decode cX11_put 62 = .ok (.putfield 293, 3) := by decide +kernel
theorem dX11_put_65 : decode cX11_put 65 = .ok (.iconst 1, 1) := by decide +kernel
theorem dX11_put_66 : decode cX11_put 66 = .ok (.ireturn, 1) := by decide +kernel
theorem dX11_cutLine_0 : decode cX11_cutLine 0 = .ok (.iload_n 1, 1) := by decide +kernel
theorem dX11_cutLine_1 : decode cX11_cutLine 1 = .ok (.iconst 0, 1) := by decide +kernel
theorem dX11_cutLine_2 : decode cX11_cutLine 2 = .ok (.aload_n 0, 1) := by decide +kernel
theorem dX11_cutLine_3 : decode cX11_cutLine 3 = .ok (.getfield 51, 3) := by decide +kernel
theorem dX11_cutLine_6 : decode cX11_cutLine 6 = .ok (.getfield 293, 3) := by decide +kernel
theorem dX11_cutLine_9 : decode cX11_cutLine 9 = .ok (.invokestatic 94, 3) := by decide +kernel
theorem dX11_cutLine_12 : decode cX11_cutLine 12 = .ok (.ifCond .ne 5, 3) := by decide +kernel
theorem dX11_cutLine_15 : decode cX11_cutLine 15 = .ok (.iconst (-1), 1) := by decide +kernel
theorem dX11_cutLine_16 : decode cX11_cutLine 16 = .ok (.ireturn, 1) := by decide +kernel
theorem dX11_cutLine_17 : decode cX11_cutLine 17 = .ok (.aload_n 0, 1) := by decide +kernel
theorem dX11_cutLine_18 : decode cX11_cutLine 18 = .ok (.getfield 51, 3) := by decide +kernel
theorem dX11_cutLine_21 : decode cX11_cutLine 21 = .ok (.getfield 293, 3) := by decide +kernel
theorem dX11_cutLine_24 : decode cX11_cutLine 24 = .ok (.istore_n 2, 1) := by decide +kernel
theorem dX11_cutLine_25 : decode cX11_cutLine 25 = .ok (.aload_n 0, 1) := by decide +kernel
theorem dX11_cutLine_26 : decode cX11_cutLine 26 = .ok (.getfield 51, 3) := by decide +kernel
theorem dX11_cutLine_29 : decode cX11_cutLine 29 = .ok (.iload_n 1, 1) := by decide +kernel
theorem dX11_cutLine_30 : decode cX11_cutLine 30 = .ok (.putfield 293, 3) := by decide +kernel
theorem dX11_cutLine_33 : decode cX11_cutLine 33 = .ok (.iload_n 2, 1) := by decide +kernel
theorem dX11_cutLine_34 : decode cX11_cutLine 34 = .ok (.ireturn, 1) := by decide +kernel
theorem dX11_character_0 : decode cX11_character 0 = .ok (.iload_n 1, 1) := by decide +kernel
theorem dX11_character_1 : decode cX11_character 1 = .ok (.iconst 0, 1) := by decide +kernel
theorem dX11_character_2 : decode cX11_character 2 = .ok (.aload_n 0, 1) := by decide +kernel
theorem dX11_character_3 : decode cX11_character 3 = .ok (.getfield 51, 3) := by decide +kernel
theorem dX11_character_6 : decode cX11_character 6 = .ok (.getfield 293, 3) := by decide +kernel
theorem dX11_character_9 : decode cX11_character 9 = .ok (.iconst 1, 1) := by decide +kernel
theorem dX11_character_10 : decode cX11_character 10 = .ok (.isub, 1) := by decide +kernel
theorem dX11_character_11 : decode cX11_character 11 = .ok (.invokestatic 94, 3) := by decide +kernel
theorem dX11_character_14 : decode cX11_character 14 = .ok (.ifCond .eq 15, 3) := by decide +kernel
theorem dX11_character_17 : decode cX11_character 17 = .ok (.aload_n 0, 1) := by decide +kernel
theorem dX11_character_18 : decode cX11_character 18 = .ok (.getfield 51, 3) := by decide +kernel
theorem dX11_character_21 : decode cX11_character 21 = .ok (.getfield 299, 3) := by decide +kernel
theorem dX11_character_24 : decode cX11_character 24 = .ok (.iload_n 1, 1) := by decide +kernel
theorem dX11_character_25 : decode cX11_character 25 = .ok (.iaload, 1) := by decide +kernel
theorem dX11_character_26 : decode cX11_character 26 = .ok (.goto 5, 3) := by decide +kernel
theorem dX11_character_29 : decode cX11_character 29 = .ok (.bipush (-2), 2) := by decide +kernel
theorem dX11_character_31 : decode cX11_character 31 = .ok (.ireturn, 1) := by decide +kernel
theorem dX11_status_0 : decode cX11_status 0 = .ok (.aload_n 0, 1) := by decide +kernel
theorem dX11_status_1 : decode cX11_status 1 = .ok (.getfield 302, 3) := by decide +kernel
theorem dX11_status_4 : decode cX11_status 4 = .ok (.ireturn, 1) := by decide +kernel
theorem dX11_trace_0 : decode cX11_trace 0 = .ok (.iload_n 1, 1) := by decide +kernel
theorem dX11_trace_1 : decode cX11_trace 1 = .ok (.iconst 0, 1) := by decide +kernel
theorem dX11_trace_2 : decode cX11_trace 2 = .ok (.aload_n 0, 1) := by decide +kernel
theorem dX11_trace_3 : decode cX11_trace 3 = .ok (.getfield 35, 3) := by decide +kernel
theorem dX11_trace_6 : decode cX11_trace 6 = .ok (.getfield 305, 3) := by decide +kernel
theorem dX11_trace_9 : decode cX11_trace 9 = .ok (.bipush 60, 2) := by decide +kernel
theorem dX11_trace_11 : decode cX11_trace 11 = .ok (.invokestatic 308, 3) := by decide +kernel
theorem dX11_trace_14 : decode cX11_trace 14 = .ok (.iconst 1, 1) := by decide +kernel
theorem dX11_trace_15 : decode cX11_trace 15 = .ok (.isub, 1) := by decide +kernel
theorem dX11_trace_16 : decode cX11_trace 16 = .ok (.invokestatic 94, 3) := by decide +kernel
theorem dX11_trace_19 : decode cX11_trace 19 = .ok (.ifCond .eq 15, 3) := by decide +kernel
theorem dX11_trace_22 : decode cX11_trace 22 = .ok (.aload_n 0, 1) := by decide +kernel
theorem dX11_trace_23 : decode cX11_trace 23 = .ok (.getfield 35, 3) := by decide +kernel
theorem dX11_trace_26 : decode cX11_trace 26 = .ok (.getfield 311, 3) := by decide +kernel
theorem dX11_trace_29 : decode cX11_trace 29 = .ok (.iload_n 1, 1) := by decide +kernel
theorem dX11_trace_30 : decode cX11_trace 30 = .ok (.iaload, 1) := by decide +kernel
theorem dX11_trace_31 : decode cX11_trace 31 = .ok (.goto 5, 3) := by decide +kernel
theorem dX11_trace_34 : decode cX11_trace 34 = .ok (.bipush (-2), 2) := by decide +kernel
theorem dX11_trace_36 : decode cX11_trace 36 = .ok (.ireturn, 1) := by decide +kernel
theorem dX11_count_0 : decode cX11_count 0 = .ok (.iload_n 1, 1) := by decide +kernel
theorem dX11_count_1 : decode cX11_count 1 = .ok (.tableswitch 104 0 7 #[47, 52, 57, 65, 70, 75, 83, 88], 47) := by decide +kernel
theorem dX11_count_48 : decode cX11_count 48 = .ok (.aload_n 0, 1) := by decide +kernel
theorem dX11_count_49 : decode cX11_count 49 = .ok (.getfield 202, 3) := by decide +kernel
theorem dX11_count_52 : decode cX11_count 52 = .ok (.ireturn, 1) := by decide +kernel
theorem dX11_count_53 : decode cX11_count 53 = .ok (.aload_n 0, 1) := by decide +kernel
theorem dX11_count_54 : decode cX11_count 54 = .ok (.getfield 314, 3) := by decide +kernel
theorem dX11_count_57 : decode cX11_count 57 = .ok (.ireturn, 1) := by decide +kernel
theorem dX11_count_58 : decode cX11_count 58 = .ok (.aload_n 0, 1) := by decide +kernel
theorem dX11_count_59 : decode cX11_count 59 = .ok (.getfield 35, 3) := by decide +kernel
theorem dX11_count_62 : decode cX11_count 62 = .ok (.getfield 305, 3) := by decide +kernel
theorem dX11_count_65 : decode cX11_count 65 = .ok (.ireturn, 1) := by decide +kernel
theorem dX11_count_66 : decode cX11_count 66 = .ok (.aload_n 0, 1) := by decide +kernel
theorem dX11_count_67 : decode cX11_count 67 = .ok (.invokevirtual 317, 3) := by decide +kernel
theorem dX11_count_70 : decode cX11_count 70 = .ok (.ireturn, 1) := by decide +kernel
theorem dX11_count_71 : decode cX11_count 71 = .ok (.aload_n 0, 1) := by decide +kernel
theorem dX11_count_72 : decode cX11_count 72 = .ok (.invokevirtual 320, 3) := by decide +kernel
theorem dX11_count_75 : decode cX11_count 75 = .ok (.ireturn, 1) := by decide +kernel
theorem dX11_count_76 : decode cX11_count 76 = .ok (.aload_n 0, 1) := by decide +kernel
theorem dX11_count_77 : decode cX11_count 77 = .ok (.getfield 44, 3) := by decide +kernel
theorem dX11_count_80 : decode cX11_count 80 = .ok (.getfield 323, 3) := by decide +kernel
theorem dX11_count_83 : decode cX11_count 83 = .ok (.ireturn, 1) := by decide +kernel
theorem dX11_count_84 : decode cX11_count 84 = .ok (.aload_n 0, 1) := by decide +kernel
theorem dX11_count_85 : decode cX11_count 85 = .ok (.getfield 128, 3) := by decide +kernel
theorem dX11_count_88 : decode cX11_count 88 = .ok (.ireturn, 1) := by decide +kernel
theorem dX11_count_89 : decode cX11_count 89 = .ok (.aload_n 0, 1) := by decide +kernel
theorem dX11_count_90 : decode cX11_count 90 = .ok (.getfield 68, 3) := by decide +kernel
theorem dX11_count_93 : decode cX11_count 93 = .ok (.invokestatic 72, 3) := by decide +kernel
theorem dX11_count_96 : decode cX11_count 96 = .ok (.ifCond .eq 7, 3) := by decide +kernel
theorem dX11_count_99 : decode cX11_count 99 = .ok (.iconst 1, 1) := by decide +kernel
theorem dX11_count_100 : decode cX11_count 100 = .ok (.goto 4, 3) := by decide +kernel
theorem dX11_count_103 : decode cX11_count 103 = .ok (.iconst 0, 1) := by decide +kernel
theorem dX11_count_104 : decode cX11_count 104 = .ok (.ireturn, 1) := by decide +kernel
theorem dX11_count_105 : decode cX11_count 105 = .ok (.iconst (-1), 1) := by decide +kernel
theorem dX11_count_106 : decode cX11_count 106 = .ok (.ireturn, 1) := by decide +kernel
theorem dX11_isWithin_0 : decode cX11_isWithin 0 = .ok (.iload_n 0, 1) := by decide +kernel
theorem dX11_isWithin_1 : decode cX11_isWithin 1 = .ok (.iload_n 1, 1) := by decide +kernel
theorem dX11_isWithin_2 : decode cX11_isWithin 2 = .ok (.if_icmp .lt 12, 3) := by decide +kernel
theorem dX11_isWithin_5 : decode cX11_isWithin 5 = .ok (.iload_n 0, 1) := by decide +kernel
theorem dX11_isWithin_6 : decode cX11_isWithin 6 = .ok (.iload_n 2, 1) := by decide +kernel
theorem dX11_isWithin_7 : decode cX11_isWithin 7 = .ok (.if_icmp .gt 7, 3) := by decide +kernel
theorem dX11_isWithin_10 : decode cX11_isWithin 10 = .ok (.iconst 1, 1) := by decide +kernel
theorem dX11_isWithin_11 : decode cX11_isWithin 11 = .ok (.goto 4, 3) := by decide +kernel
theorem dX11_isWithin_14 : decode cX11_isWithin 14 = .ok (.iconst 0, 1) := by decide +kernel
theorem dX11_isWithin_15 : decode cX11_isWithin 15 = .ok (.ireturn, 1) := by decide +kernel
theorem dX11_isVoice_0 : decode cX11_isVoice 0 = .ok (.iload_n 0, 1) := by decide +kernel
theorem dX11_isVoice_1 : decode cX11_isVoice 1 = .ok (.ifCond .lt 13, 3) := by decide +kernel
theorem dX11_isVoice_4 : decode cX11_isVoice 4 = .ok (.iload_n 0, 1) := by decide +kernel
theorem dX11_isVoice_5 : decode cX11_isVoice 5 = .ok (.bipush 6, 2) := by decide +kernel
theorem dX11_isVoice_7 : decode cX11_isVoice 7 = .ok (.if_icmp .ge 7, 3) := by decide +kernel
theorem dX11_isVoice_10 : decode cX11_isVoice 10 = .ok (.iconst 1, 1) := by decide +kernel
theorem dX11_isVoice_11 : decode cX11_isVoice 11 = .ok (.goto 4, 3) := by decide +kernel
theorem dX11_isVoice_14 : decode cX11_isVoice 14 = .ok (.iconst 0, 1) := by decide +kernel
theorem dX11_isVoice_15 : decode cX11_isVoice 15 = .ok (.ireturn, 1) := by decide +kernel
theorem dX11_isRow_0 : decode cX11_isRow 0 = .ok (.iload_n 0, 1) := by decide +kernel
theorem dX11_isRow_1 : decode cX11_isRow 1 = .ok (.ifCond .eq 8, 3) := by decide +kernel
theorem dX11_isRow_4 : decode cX11_isRow 4 = .ok (.iload_n 0, 1) := by decide +kernel
theorem dX11_isRow_5 : decode cX11_isRow 5 = .ok (.iconst 1, 1) := by decide +kernel
theorem dX11_isRow_6 : decode cX11_isRow 6 = .ok (.if_icmp .ne 7, 3) := by decide +kernel
theorem dX11_isRow_9 : decode cX11_isRow 9 = .ok (.iconst 1, 1) := by decide +kernel
theorem dX11_isRow_10 : decode cX11_isRow 10 = .ok (.goto 4, 3) := by decide +kernel
theorem dX11_isRow_13 : decode cX11_isRow 13 = .ok (.iconst 0, 1) := by decide +kernel
theorem dX11_isRow_14 : decode cX11_isRow 14 = .ok (.ireturn, 1) := by decide +kernel
theorem dX11_isPlace_0 : decode cX11_isPlace 0 = .ok (.iload_n 0, 1) := by decide +kernel
theorem dX11_isPlace_1 : decode cX11_isPlace 1 = .ok (.ifCond .lt 13, 3) := by decide +kernel
theorem dX11_isPlace_4 : decode cX11_isPlace 4 = .ok (.iload_n 0, 1) := by decide +kernel
theorem dX11_isPlace_5 : decode cX11_isPlace 5 = .ok (.bipush 16, 2) := by decide +kernel
theorem dX11_isPlace_7 : decode cX11_isPlace 7 = .ok (.if_icmp .ge 7, 3) := by decide +kernel
theorem dX11_isPlace_10 : decode cX11_isPlace 10 = .ok (.iconst 1, 1) := by decide +kernel
theorem dX11_isPlace_11 : decode cX11_isPlace 11 = .ok (.goto 4, 3) := by decide +kernel
theorem dX11_isPlace_14 : decode cX11_isPlace 14 = .ok (.iconst 0, 1) := by decide +kernel
theorem dX11_isPlace_15 : decode cX11_isPlace 15 = .ok (.ireturn, 1) := by decide +kernel
theorem dX11_isFollower_0 : decode cX11_isFollower 0 = .ok (.iload_n 0, 1) := by decide +kernel
theorem dX11_isFollower_1 : decode cX11_isFollower 1 = .ok (.iconst 0, 1) := by decide +kernel
theorem dX11_isFollower_2 : decode cX11_isFollower 2 = .ok (.bipush 60, 2) := by decide +kernel
theorem dX11_isFollower_4 : decode cX11_isFollower 4 = .ok (.invokestatic 94, 3) := by decide +kernel
theorem dX11_isFollower_7 : decode cX11_isFollower 7 = .ok (.ifCond .eq 27, 3) := by decide +kernel
theorem dX11_isFollower_10 : decode cX11_isFollower 10 = .ok (.iload_n 1, 1) := by decide +kernel
theorem dX11_isFollower_11 : decode cX11_isFollower 11 = .ok (.bipush (-60), 2) := by decide +kernel
theorem dX11_isFollower_13 : decode cX11_isFollower 13 = .ok (.bipush 60, 2) := by decide +kernel
theorem dX11_isFollower_15 : decode cX11_isFollower 15 = .ok (.invokestatic 94, 3) := by decide +kernel
theorem dX11_isFollower_18 : decode cX11_isFollower 18 = .ok (.ifCond .eq 16, 3) := by decide +kernel
theorem dX11_isFollower_21 : decode cX11_isFollower 21 = .ok (.iload_n 2, 1) := by decide +kernel
theorem dX11_isFollower_22 : decode cX11_isFollower 22 = .ok (.iconst 0, 1) := by decide +kernel
theorem dX11_isFollower_23 : decode cX11_isFollower 23 = .ok (.iconst 2, 1) := by decide +kernel
theorem dX11_isFollower_24 : decode cX11_isFollower 24 = .ok (.invokestatic 94, 3) := by decide +kernel
theorem dX11_isFollower_27 : decode cX11_isFollower 27 = .ok (.ifCond .eq 7, 3) := by decide +kernel
theorem dX11_isFollower_30 : decode cX11_isFollower 30 = .ok (.iconst 1, 1) := by decide +kernel
theorem dX11_isFollower_31 : decode cX11_isFollower 31 = .ok (.goto 4, 3) := by decide +kernel
theorem dX11_isFollower_34 : decode cX11_isFollower 34 = .ok (.iconst 0, 1) := by decide +kernel
theorem dX11_isFollower_35 : decode cX11_isFollower 35 = .ok (.ireturn, 1) := by decide +kernel
theorem dX11_finding_0 : decode cX11_finding 0 = .ok (.aload_n 0, 1) := by decide +kernel
theorem dX11_finding_1 : decode cX11_finding 1 = .ok (.iload_n 1, 1) := by decide +kernel
theorem dX11_finding_2 : decode cX11_finding 2 = .ok (.putfield 302, 3) := by decide +kernel
theorem dX11_finding_5 : decode cX11_finding 5 = .ok (.aload_n 0, 1) := by decide +kernel
theorem dX11_finding_6 : decode cX11_finding 6 = .ok (.dup, 1) := by decide +kernel
theorem dX11_finding_7 : decode cX11_finding 7 = .ok (.getfield 314, 3) := by decide +kernel
theorem dX11_finding_10 : decode cX11_finding 10 = .ok (.iconst 1, 1) := by decide +kernel
theorem dX11_finding_11 : decode cX11_finding 11 = .ok (.iadd, 1) := by decide +kernel
theorem dX11_finding_12 : decode cX11_finding 12 = .ok (.putfield 314, 3) := by decide +kernel
theorem dX11_finding_15 : decode cX11_finding 15 = .ok (.bipush (-10), 2) := by decide +kernel
theorem dX11_finding_17 : decode cX11_finding 17 = .ok (.iload_n 1, 1) := by decide +kernel
theorem dX11_finding_18 : decode cX11_finding 18 = .ok (.isub, 1) := by decide +kernel
theorem dX11_finding_19 : decode cX11_finding 19 = .ok (.ireturn, 1) := by decide +kernel
theorem dX11_fine_0 : decode cX11_fine 0 = .ok (.aload_n 0, 1) := by decide +kernel
theorem dX11_fine_1 : decode cX11_fine 1 = .ok (.iconst 0, 1) := by decide +kernel
theorem dX11_fine_2 : decode cX11_fine 2 = .ok (.putfield 302, 3) := by decide +kernel
theorem dX11_fine_5 : decode cX11_fine 5 = .ok (.iload_n 1, 1) := by decide +kernel
theorem dX11_fine_6 : decode cX11_fine 6 = .ok (.ireturn, 1) := by decide +kernel
theorem dX11_keep_0 : decode cX11_keep 0 = .ok (.aload_n 0, 1) := by decide +kernel
theorem dX11_keep_1 : decode cX11_keep 1 = .ok (.getfield 16, 3) := by decide +kernel
theorem dX11_keep_4 : decode cX11_keep 4 = .ok (.aload_n 0, 1) := by decide +kernel
theorem dX11_keep_5 : decode cX11_keep 5 = .ok (.getfield 11, 3) := by decide +kernel
theorem dX11_keep_8 : decode cX11_keep 8 = .ok (.iload_n 1, 1) := by decide +kernel
theorem dX11_keep_9 : decode cX11_keep 9 = .ok (.aaload, 1) := by decide +kernel
theorem dX11_keep_10 : decode cX11_keep 10 = .ok (.invokevirtual 140, 3) := by decide +kernel
theorem dX11_keep_13 : decode cX11_keep 13 = .ok (.aload_n 0, 1) := by decide +kernel
theorem dX11_keep_14 : decode cX11_keep 14 = .ok (.iload_n 1, 1) := by decide +kernel
theorem dX11_keep_15 : decode cX11_keep 15 = .ok (.putfield 68, 3) := by decide +kernel
theorem dX11_keep_18 : decode cX11_keep 18 = .ok (.return_, 1) := by decide +kernel
theorem dX11_goThrough_0 : decode cX11_goThrough 0 = .ok (.aload_n 0, 1) := by decide +kernel
theorem dX11_goThrough_1 : decode cX11_goThrough 1 = .ok (.getfield 90, 3) := by decide +kernel
theorem dX11_goThrough_4 : decode cX11_goThrough 4 = .ok (.ifCond .ne 5, 3) := by decide +kernel
theorem dX11_goThrough_7 : decode cX11_goThrough 7 = .ok (.iconst 1, 1) := by decide +kernel
theorem dX11_goThrough_8 : decode cX11_goThrough 8 = .ok (.ireturn, 1) := by decide +kernel
theorem dX11_goThrough_9 : decode cX11_goThrough 9 = .ok (.aload_n 0, 1) := by decide +kernel
theorem dX11_goThrough_10 : decode cX11_goThrough 10 = .ok (.invokevirtual 326, 3) := by decide +kernel
theorem dX11_goThrough_13 : decode cX11_goThrough 13 = .ok (.ifCond .eq 7, 3) := by decide +kernel
theorem dX11_goThrough_16 : decode cX11_goThrough 16 = .ok (.iconst 0, 1) := by decide +kernel
theorem dX11_goThrough_17 : decode cX11_goThrough 17 = .ok (.goto 4, 3) := by decide +kernel
theorem dX11_goThrough_20 : decode cX11_goThrough 20 = .ok (.iconst 2, 1) := by decide +kernel
theorem dX11_goThrough_21 : decode cX11_goThrough 21 = .ok (.ireturn, 1) := by decide +kernel
theorem dX11_voicesThere_0 : decode cX11_voicesThere 0 = .ok (.iconst 0, 1) := by decide +kernel
theorem dX11_voicesThere_1 : decode cX11_voicesThere 1 = .ok (.istore_n 1, 1) := by decide +kernel
theorem dX11_voicesThere_2 : decode cX11_voicesThere 2 = .ok (.iconst 0, 1) := by decide +kernel
theorem dX11_voicesThere_3 : decode cX11_voicesThere 3 = .ok (.istore_n 2, 1) := by decide +kernel
theorem dX11_voicesThere_4 : decode cX11_voicesThere 4 = .ok (.iload_n 2, 1) := by decide +kernel
theorem dX11_voicesThere_5 : decode cX11_voicesThere 5 = .ok (.bipush 6, 2) := by decide +kernel
theorem dX11_voicesThere_7 : decode cX11_voicesThere 7 = .ok (.if_icmp .ge 29, 3) := by decide +kernel
theorem dX11_voicesThere_10 : decode cX11_voicesThere 10 = .ok (.iload_n 1, 1) := by decide +kernel
theorem dX11_voicesThere_11 : decode cX11_voicesThere 11 = .ok (.aload_n 0, 1) := by decide +kernel
theorem dX11_voicesThere_12 : decode cX11_voicesThere 12 = .ok (.getfield 11, 3) := by decide +kernel
theorem dX11_voicesThere_15 : decode cX11_voicesThere 15 = .ok (.iload_n 2, 1) := by decide +kernel
theorem dX11_voicesThere_16 : decode cX11_voicesThere 16 = .ok (.aaload, 1) := by decide +kernel
theorem dX11_voicesThere_17 : decode cX11_voicesThere 17 = .ok (.getfield 90, 3) := by decide +kernel
theorem dX11_voicesThere_20 : decode cX11_voicesThere 20 = .ok (.ifCond .eq 7, 3) := by decide +kernel
theorem dX11_voicesThere_23 : decode cX11_voicesThere 23 = .ok (.iconst 1, 1) := by decide +kernel
theorem dX11_voicesThere_24 : decode cX11_voicesThere 24 = .ok (.goto 4, 3) := by decide +kernel
theorem dX11_voicesThere_27 : decode cX11_voicesThere 27 = .ok (.iconst 0, 1) := by decide +kernel
theorem dX11_voicesThere_28 : decode cX11_voicesThere 28 = .ok (.iadd, 1) := by decide +kernel
theorem dX11_voicesThere_29 : decode cX11_voicesThere 29 = .ok (.istore_n 1, 1) := by decide +kernel
theorem dX11_voicesThere_30 : decode cX11_voicesThere 30 = .ok (.iinc 2 1, 3) := by decide +kernel
theorem dX11_voicesThere_33 : decode cX11_voicesThere 33 = .ok (.goto (-29), 3) := by decide +kernel
theorem dX11_voicesThere_36 : decode cX11_voicesThere 36 = .ok (.iload_n 1, 1) := by decide +kernel
theorem dX11_voicesThere_37 : decode cX11_voicesThere 37 = .ok (.ireturn, 1) := by decide +kernel
theorem dX11_placesTaken_0 : decode cX11_placesTaken 0 = .ok (.iconst 0, 1) := by decide +kernel
theorem dX11_placesTaken_1 : decode cX11_placesTaken 1 = .ok (.istore_n 1, 1) := by decide +kernel
theorem dX11_placesTaken_2 : decode cX11_placesTaken 2 = .ok (.iconst 0, 1) := by decide +kernel
theorem dX11_placesTaken_3 : decode cX11_placesTaken 3 = .ok (.istore_n 2, 1) := by decide +kernel
theorem dX11_placesTaken_4 : decode cX11_placesTaken 4 = .ok (.iload_n 2, 1) := by decide +kernel
theorem dX11_placesTaken_5 : decode cX11_placesTaken 5 = .ok (.bipush 16, 2) := by decide +kernel
theorem dX11_placesTaken_7 : decode cX11_placesTaken 7 = .ok (.if_icmp .ge 26, 3) := by decide +kernel
theorem dX11_placesTaken_10 : decode cX11_placesTaken 10 = .ok (.iload_n 1, 1) := by decide +kernel
theorem dX11_placesTaken_11 : decode cX11_placesTaken 11 = .ok (.aload_n 0, 1) := by decide +kernel
theorem dX11_placesTaken_12 : decode cX11_placesTaken 12 = .ok (.getfield 28, 3) := by decide +kernel
theorem dX11_placesTaken_15 : decode cX11_placesTaken 15 = .ok (.iload_n 2, 1) := by decide +kernel
theorem dX11_placesTaken_16 : decode cX11_placesTaken 16 = .ok (.aaload, 1) := by decide +kernel
theorem dX11_placesTaken_17 : decode cX11_placesTaken 17 = .ok (.ifnull 7, 3) := by decide +kernel
theorem dX11_placesTaken_20 : decode cX11_placesTaken 20 = .ok (.iconst 1, 1) := by decide +kernel
theorem dX11_placesTaken_21 : decode cX11_placesTaken 21 = .ok (.goto 4, 3) := by decide +kernel
theorem dX11_placesTaken_24 : decode cX11_placesTaken 24 = .ok (.iconst 0, 1) := by decide +kernel
theorem dX11_placesTaken_25 : decode cX11_placesTaken 25 = .ok (.iadd, 1) := by decide +kernel
theorem dX11_placesTaken_26 : decode cX11_placesTaken 26 = .ok (.istore_n 1, 1) := by decide +kernel
theorem dX11_placesTaken_27 : decode cX11_placesTaken 27 = .ok (.iinc 2 1, 3) := by decide +kernel
theorem dX11_placesTaken_30 : decode cX11_placesTaken 30 = .ok (.goto (-26), 3) := by decide +kernel
theorem dX11_placesTaken_33 : decode cX11_placesTaken 33 = .ok (.iload_n 1, 1) := by decide +kernel
theorem dX11_placesTaken_34 : decode cX11_placesTaken 34 = .ok (.ireturn, 1) := by decide +kernel
theorem dX11_newRule_0 : decode cX11_newRule 0 = .ok (.iload_n 0, 1) := by decide +kernel
theorem dX11_newRule_1 : decode cX11_newRule 1 = .ok (.tableswitch 51 1 3 #[27, 35, 43], 27) := by decide +kernel
theorem dX11_newRule_28 : decode cX11_newRule 28 = .ok (.new 329, 3) := by decide +kernel
theorem dX11_newRule_31 : decode cX11_newRule 31 = .ok (.dup, 1) := by decide +kernel
theorem dX11_newRule_32 : decode cX11_newRule 32 = .ok (.invokespecial 331, 3) := by decide +kernel
theorem dX11_newRule_35 : decode cX11_newRule 35 = .ok (.areturn, 1) := by decide +kernel
theorem dX11_newRule_36 : decode cX11_newRule 36 = .ok (.new 332, 3) := by decide +kernel
theorem dX11_newRule_39 : decode cX11_newRule 39 = .ok (.dup, 1) := by decide +kernel
theorem dX11_newRule_40 : decode cX11_newRule 40 = .ok (.invokespecial 334, 3) := by decide +kernel
theorem dX11_newRule_43 : decode cX11_newRule 43 = .ok (.areturn, 1) := by decide +kernel
theorem dX11_newRule_44 : decode cX11_newRule 44 = .ok (.new 335, 3) := by decide +kernel
theorem dX11_newRule_47 : decode cX11_newRule 47 = .ok (.dup, 1) := by decide +kernel
theorem dX11_newRule_48 : decode cX11_newRule 48 = .ok (.invokespecial 337, 3) := by decide +kernel
theorem dX11_newRule_51 : decode cX11_newRule 51 = .ok (.areturn, 1) := by decide +kernel
theorem dX11_newRule_52 : decode cX11_newRule 52 = .ok (.new 338, 3) := by decide +kernel
theorem dX11_newRule_55 : decode cX11_newRule 55 = .ok (.dup, 1) := by decide +kernel
theorem dX11_newRule_56 : decode cX11_newRule 56 = .ok (.invokespecial 340, 3) := by decide +kernel
theorem dX11_newRule_59 : decode cX11_newRule 59 = .ok (.areturn, 1) := by decide +kernel
theorem dX11_standsAs_0 : decode cX11_standsAs 0 = .ok (.iload_n 1, 1) := by decide +kernel
theorem dX11_standsAs_1 : decode cX11_standsAs 1 = .ok (.tableswitch 51 0 3 #[31, 36, 41, 46], 31) := by decide +kernel
theorem dX11_standsAs_32 : decode cX11_standsAs 32 = .ok (.aload_n 0, 1) := by decide +kernel
theorem dX11_standsAs_33 : decode cX11_standsAs 33 = .ok (.instanceof 338, 3) := by decide +kernel
theorem dX11_standsAs_36 : decode cX11_standsAs 36 = .ok (.ireturn, 1) := by decide +kernel
theorem dX11_standsAs_37 : decode cX11_standsAs 37 = .ok (.aload_n 0, 1) := by decide +kernel
theorem dX11_standsAs_38 : decode cX11_standsAs 38 = .ok (.instanceof 329, 3) := by decide +kernel
theorem dX11_standsAs_41 : decode cX11_standsAs 41 = .ok (.ireturn, 1) := by decide +kernel
theorem dX11_standsAs_42 : decode cX11_standsAs 42 = .ok (.aload_n 0, 1) := by decide +kernel
theorem dX11_standsAs_43 : decode cX11_standsAs 43 = .ok (.instanceof 332, 3) := by decide +kernel
theorem dX11_standsAs_46 : decode cX11_standsAs 46 = .ok (.ireturn, 1) := by decide +kernel
theorem dX11_standsAs_47 : decode cX11_standsAs 47 = .ok (.aload_n 0, 1) := by decide +kernel
theorem dX11_standsAs_48 : decode cX11_standsAs 48 = .ok (.instanceof 335, 3) := by decide +kernel
theorem dX11_standsAs_51 : decode cX11_standsAs 51 = .ok (.ireturn, 1) := by decide +kernel
theorem dX11_standsAs_52 : decode cX11_standsAs 52 = .ok (.aload_n 0, 1) := by decide +kernel
theorem dX11_standsAs_53 : decode cX11_standsAs 53 = .ok (.instanceof 151, 3) := by decide +kernel
theorem dX11_standsAs_56 : decode cX11_standsAs 56 = .ok (.ireturn, 1) := by decide +kernel
theorem dX10_init_0 : decode cX10_init 0 = .ok (.aload_n 0, 1) := by decide +kernel
theorem dX10_init_1 : decode cX10_init 1 = .ok (.invokespecial 3, 3) := by decide +kernel
theorem dX10_init_4 : decode cX10_init 4 = .ok (.aload_n 0, 1) := by decide +kernel
theorem dX10_init_5 : decode cX10_init 5 = .ok (.iconst 2, 1) := by decide +kernel
theorem dX10_init_6 : decode cX10_init 6 = .ok (.bipush 24, 2) := by decide +kernel
theorem dX10_init_8 : decode cX10_init 8 = .ok (.multianewarray 9 2, 4) := by decide +kernel
theorem dX10_init_12 : decode cX10_init 12 = .ok (.putfield 11, 3) := by decide +kernel
theorem dX10_init_15 : decode cX10_init 15 = .ok (.aload_n 0, 1) := by decide +kernel
theorem dX10_init_16 : decode cX10_init 16 = .ok (.iconst 2, 1) := by decide +kernel
theorem dX10_init_17 : decode cX10_init 17 = .ok (.newarray .int, 2) := by decide +kernel
theorem dX10_init_19 : decode cX10_init 19 = .ok (.putfield 16, 3) := by decide +kernel
theorem dX10_init_22 : decode cX10_init 22 = .ok (.aload_n 0, 1) := by decide +kernel
theorem dX10_init_23 : decode cX10_init 23 = .ok (.sipush 192, 3) := by decide +kernel
theorem dX10_init_26 : decode cX10_init 26 = .ok (.newarray .int, 2) := by decide +kernel
theorem dX10_init_28 : decode cX10_init 28 = .ok (.putfield 20, 3) := by decide +kernel
theorem dX10_init_31 : decode cX10_init 31 = .ok (.return_, 1) := by decide +kernel
theorem dX10_renew_0 : decode cX10_renew 0 = .ok (.aload_n 0, 1) := by decide +kernel
theorem dX10_renew_1 : decode cX10_renew 1 = .ok (.iconst 1, 1) := by decide +kernel
theorem dX10_renew_2 : decode cX10_renew 2 = .ok (.putfield 23, 3) := by decide +kernel
theorem dX10_renew_5 : decode cX10_renew 5 = .ok (.aload_n 0, 1) := by decide +kernel
theorem dX10_renew_6 : decode cX10_renew 6 = .ok (.getfield 16, 3) := by decide +kernel
theorem dX10_renew_9 : decode cX10_renew 9 = .ok (.iconst 0, 1) := by decide +kernel
theorem dX10_renew_10 : decode cX10_renew 10 = .ok (.iload_n 1, 1) := by decide +kernel
theorem dX10_renew_11 : decode cX10_renew 11 = .ok (.iastore, 1) := by decide +kernel
theorem dX10_renew_12 : decode cX10_renew 12 = .ok (.aload_n 0, 1) := by decide +kernel
theorem dX10_renew_13 : decode cX10_renew 13 = .ok (.getfield 16, 3) := by decide +kernel
theorem dX10_renew_16 : decode cX10_renew 16 = .ok (.iconst 1, 1) := by decide +kernel
theorem dX10_renew_17 : decode cX10_renew 17 = .ok (.iload_n 1, 1) := by decide +kernel
theorem dX10_renew_18 : decode cX10_renew 18 = .ok (.iastore, 1) := by decide +kernel
theorem dX10_renew_19 : decode cX10_renew 19 = .ok (.aload_n 0, 1) := by decide +kernel
theorem dX10_renew_20 : decode cX10_renew 20 = .ok (.getfield 11, 3) := by decide +kernel
theorem dX10_renew_23 : decode cX10_renew 23 = .ok (.iconst 0, 1) := by decide +kernel
theorem dX10_renew_24 : decode cX10_renew 24 = .ok (.aaload, 1) := by decide +kernel
theorem dX10_renew_25 : decode cX10_renew 25 = .ok (.iconst 0, 1) := by decide +kernel
theorem dX10_renew_26 : decode cX10_renew 26 = .ok (.invokestatic 27, 3) := by decide +kernel
theorem dX10_renew_29 : decode cX10_renew 29 = .ok (.aload_n 0, 1) := by decide +kernel
theorem dX10_renew_30 : decode cX10_renew 30 = .ok (.getfield 11, 3) := by decide +kernel
theorem dX10_renew_33 : decode cX10_renew 33 = .ok (.iconst 1, 1) := by decide +kernel
theorem dX10_renew_34 : decode cX10_renew 34 = .ok (.aaload, 1) := by decide +kernel
theorem dX10_renew_35 : decode cX10_renew 35 = .ok (.iconst 1, 1) := by decide +kernel
theorem dX10_renew_36 : decode cX10_renew 36 = .ok (.invokestatic 27, 3) := by decide +kernel
theorem dX10_renew_39 : decode cX10_renew 39 = .ok (.return_, 1) := by decide +kernel
theorem dX10_becomeAs_0 : decode cX10_becomeAs 0 = .ok (.aload_n 0, 1) := by decide +kernel
theorem dX10_becomeAs_1 : decode cX10_becomeAs 1 = .ok (.aload_n 1, 1) := by decide +kernel
theorem dX10_becomeAs_2 : decode cX10_becomeAs 2 = .ok (.getfield 23, 3) := by decide +kernel
theorem dX10_becomeAs_5 : decode cX10_becomeAs 5 = .ok (.putfield 23, 3) := by decide +kernel
theorem dX10_becomeAs_8 : decode cX10_becomeAs 8 = .ok (.iconst 0, 1) := by decide +kernel
theorem dX10_becomeAs_9 : decode cX10_becomeAs 9 = .ok (.istore_n 2, 1) := by decide +kernel
theorem dX10_becomeAs_10 : decode cX10_becomeAs 10 = .ok (.iload_n 2, 1) := by decide +kernel
theorem dX10_becomeAs_11 : decode cX10_becomeAs 11 = .ok (.iconst 1, 1) := by decide +kernel
theorem dX10_becomeAs_12 : decode cX10_becomeAs 12 = .ok (.if_icmp .gt 40, 3) := by decide +kernel
theorem dX10_becomeAs_15 : decode cX10_becomeAs 15 = .ok (.aload_n 0, 1) := by decide +kernel
theorem dX10_becomeAs_16 : decode cX10_becomeAs 16 = .ok (.getfield 16, 3) := by decide +kernel
theorem dX10_becomeAs_19 : decode cX10_becomeAs 19 = .ok (.iload_n 2, 1) := by decide +kernel
theorem dX10_becomeAs_20 : decode cX10_becomeAs 20 = .ok (.aload_n 1, 1) := by decide +kernel
theorem dX10_becomeAs_21 : decode cX10_becomeAs 21 = .ok (.getfield 16, 3) := by decide +kernel
theorem dX10_becomeAs_24 : decode cX10_becomeAs 24 = .ok (.iload_n 2, 1) := by decide +kernel
theorem dX10_becomeAs_25 : decode cX10_becomeAs 25 = .ok (.iaload, 1) := by decide +kernel
theorem dX10_becomeAs_26 : decode cX10_becomeAs 26 = .ok (.iastore, 1) := by decide +kernel
theorem dX10_becomeAs_27 : decode cX10_becomeAs 27 = .ok (.aload_n 1, 1) := by decide +kernel
theorem dX10_becomeAs_28 : decode cX10_becomeAs 28 = .ok (.getfield 11, 3) := by decide +kernel
theorem dX10_becomeAs_31 : decode cX10_becomeAs 31 = .ok (.iload_n 2, 1) := by decide +kernel
theorem dX10_becomeAs_32 : decode cX10_becomeAs 32 = .ok (.aaload, 1) := by decide +kernel
theorem dX10_becomeAs_33 : decode cX10_becomeAs 33 = .ok (.iconst 0, 1) := by decide +kernel
theorem dX10_becomeAs_34 : decode cX10_becomeAs 34 = .ok (.aload_n 0, 1) := by decide +kernel
theorem dX10_becomeAs_35 : decode cX10_becomeAs 35 = .ok (.getfield 11, 3) := by decide +kernel
theorem dX10_becomeAs_38 : decode cX10_becomeAs 38 = .ok (.iload_n 2, 1) := by decide +kernel
theorem dX10_becomeAs_39 : decode cX10_becomeAs 39 = .ok (.aaload, 1) := by decide +kernel
theorem dX10_becomeAs_40 : decode cX10_becomeAs 40 = .ok (.iconst 0, 1) := by decide +kernel
theorem dX10_becomeAs_41 : decode cX10_becomeAs 41 = .ok (.bipush 24, 2) := by decide +kernel
theorem dX10_becomeAs_43 : decode cX10_becomeAs 43 = .ok (.invokestatic 33, 3) := by decide +kernel
theorem dX10_becomeAs_46 : decode cX10_becomeAs 46 = .ok (.iinc 2 1, 3) := by decide +kernel
theorem dX10_becomeAs_49 : decode cX10_becomeAs 49 = .ok (.goto (-39), 3) := by decide +kernel
theorem dX10_becomeAs_52 : decode cX10_becomeAs 52 = .ok (.return_, 1) := by decide +kernel
theorem dX5_init_0 : decode cX5_init 0 = .ok (.aload_n 0, 1) := by decide +kernel
theorem dX5_init_1 : decode cX5_init 1 = .ok (.invokespecial 3, 3) := by decide +kernel
theorem dX5_init_4 : decode cX5_init 4 = .ok (.aload_n 0, 1) := by decide +kernel
theorem dX5_init_5 : decode cX5_init 5 = .ok (.bipush 60, 2) := by decide +kernel
theorem dX5_init_7 : decode cX5_init 7 = .ok (.newarray .int, 2) := by decide +kernel
theorem dX5_init_9 : decode cX5_init 9 = .ok (.putfield 9, 3) := by decide +kernel
theorem dX5_init_12 : decode cX5_init 12 = .ok (.aload_n 0, 1) := by decide +kernel
theorem dX5_init_13 : decode cX5_init 13 = .ok (.iconst 4, 1) := by decide +kernel
theorem dX5_init_14 : decode cX5_init 14 = .ok (.putfield 15, 3) := by decide +kernel
theorem dX5_init_17 : decode cX5_init 17 = .ok (.return_, 1) := by decide +kernel
theorem dX5_openTrace_0 : decode cX5_openTrace 0 = .ok (.aload_n 0, 1) := by decide +kernel
theorem dX5_openTrace_1 : decode cX5_openTrace 1 = .ok (.iconst 0, 1) := by decide +kernel
theorem dX5_openTrace_2 : decode cX5_openTrace 2 = .ok (.putfield 19, 3) := by decide +kernel
theorem dX5_openTrace_5 : decode cX5_openTrace 5 = .ok (.aload_n 0, 1) := by decide +kernel
theorem dX5_openTrace_6 : decode cX5_openTrace 6 = .ok (.iconst 1, 1) := by decide +kernel
theorem dX5_openTrace_7 : decode cX5_openTrace 7 = .ok (.putfield 22, 3) := by decide +kernel
theorem dX5_openTrace_10 : decode cX5_openTrace 10 = .ok (.return_, 1) := by decide +kernel
theorem dX1_init_0 : decode cX1_init 0 = .ok (.aload_n 0, 1) := by decide +kernel
theorem dX1_init_1 : decode cX1_init 1 = .ok (.invokespecial 3, 3) := by decide +kernel
theorem dX1_init_4 : decode cX1_init 4 = .ok (.aload_n 0, 1) := by decide +kernel
theorem dX1_init_5 : decode cX1_init 5 = .ok (.iconst 3, 1) := by decide +kernel
theorem dX1_init_6 : decode cX1_init 6 = .ok (.newarray .int, 2) := by decide +kernel
theorem dX1_init_8 : decode cX1_init 8 = .ok (.dup, 1) := by decide +kernel
theorem dX1_init_9 : decode cX1_init 9 = .ok (.iconst 0, 1) := by decide +kernel
theorem dX1_init_10 : decode cX1_init 10 = .ok (.iconst 1, 1) := by decide +kernel
theorem dX1_init_11 : decode cX1_init 11 = .ok (.iastore, 1) := by decide +kernel
theorem dX1_init_12 : decode cX1_init 12 = .ok (.dup, 1) := by decide +kernel
theorem dX1_init_13 : decode cX1_init 13 = .ok (.iconst 1, 1) := by decide +kernel
theorem dX1_init_14 : decode cX1_init 14 = .ok (.iconst 1, 1) := by decide +kernel
theorem dX1_init_15 : decode cX1_init 15 = .ok (.iastore, 1) := by decide +kernel
theorem dX1_init_16 : decode cX1_init 16 = .ok (.dup, 1) := by decide +kernel
theorem dX1_init_17 : decode cX1_init 17 = .ok (.iconst 2, 1) := by decide +kernel
theorem dX1_init_18 : decode cX1_init 18 = .ok (.iconst 1, 1) := by decide +kernel
theorem dX1_init_19 : decode cX1_init 19 = .ok (.iastore, 1) := by decide +kernel
theorem dX1_init_20 : decode cX1_init 20 = .ok (.putfield 9, 3) := by decide +kernel
theorem dX1_init_23 : decode cX1_init 23 = .ok (.aload_n 0, 1) := by decide +kernel
theorem dX1_init_24 : decode cX1_init 24 = .ok (.sipush 4095, 3) := by decide +kernel
theorem dX1_init_27 : decode cX1_init 27 = .ok (.putfield 15, 3) := by decide +kernel
theorem dX1_init_30 : decode cX1_init 30 = .ok (.aload_n 0, 1) := by decide +kernel
theorem dX1_init_31 : decode cX1_init 31 = .ok (.iconst 1, 1) := by decide +kernel
theorem dX1_init_32 : decode cX1_init 32 = .ok (.putfield 19, 3) := by decide +kernel
theorem dX1_init_35 : decode cX1_init 35 = .ok (.aload_n 0, 1) := by decide +kernel
theorem dX1_init_36 : decode cX1_init 36 = .ok (.iconst 1, 1) := by decide +kernel
theorem dX1_init_37 : decode cX1_init 37 = .ok (.putfield 22, 3) := by decide +kernel
theorem dX1_init_40 : decode cX1_init 40 = .ok (.aload_n 0, 1) := by decide +kernel
theorem dX1_init_41 : decode cX1_init 41 = .ok (.new 25, 3) := by decide +kernel
theorem dX1_init_44 : decode cX1_init 44 = .ok (.dup, 1) := by decide +kernel
theorem dX1_init_45 : decode cX1_init 45 = .ok (.invokespecial 27, 3) := by decide +kernel
theorem dX1_init_48 : decode cX1_init 48 = .ok (.putfield 28, 3) := by decide +kernel
theorem dX1_init_51 : decode cX1_init 51 = .ok (.aload_n 0, 1) := by decide +kernel
theorem dX1_init_52 : decode cX1_init 52 = .ok (.bipush 24, 2) := by decide +kernel
theorem dX1_init_54 : decode cX1_init 54 = .ok (.newarray .int, 2) := by decide +kernel
theorem dX1_init_56 : decode cX1_init 56 = .ok (.putfield 32, 3) := by decide +kernel
theorem dX1_init_59 : decode cX1_init 59 = .ok (.aload_n 0, 1) := by decide +kernel
theorem dX1_init_60 : decode cX1_init 60 = .ok (.sipush 1248, 3) := by decide +kernel
theorem dX1_init_63 : decode cX1_init 63 = .ok (.newarray .int, 2) := by decide +kernel
theorem dX1_init_65 : decode cX1_init 65 = .ok (.putfield 35, 3) := by decide +kernel
theorem dX1_init_68 : decode cX1_init 68 = .ok (.aload_n 0, 1) := by decide +kernel
theorem dX1_init_69 : decode cX1_init 69 = .ok (.sipush 1248, 3) := by decide +kernel
theorem dX1_init_72 : decode cX1_init 72 = .ok (.newarray .int, 2) := by decide +kernel
theorem dX1_init_74 : decode cX1_init 74 = .ok (.putfield 38, 3) := by decide +kernel
theorem dX1_init_77 : decode cX1_init 77 = .ok (.aload_n 0, 1) := by decide +kernel
theorem dX1_init_78 : decode cX1_init 78 = .ok (.sipush 1248, 3) := by decide +kernel
theorem dX1_init_81 : decode cX1_init 81 = .ok (.newarray .int, 2) := by decide +kernel
theorem dX1_init_83 : decode cX1_init 83 = .ok (.putfield 41, 3) := by decide +kernel
theorem dX1_init_86 : decode cX1_init 86 = .ok (.aload_n 0, 1) := by decide +kernel
theorem dX1_init_87 : decode cX1_init 87 = .ok (.aload_n 1, 1) := by decide +kernel
theorem dX1_init_88 : decode cX1_init 88 = .ok (.putfield 44, 3) := by decide +kernel
theorem dX1_init_91 : decode cX1_init 91 = .ok (.return_, 1) := by decide +kernel
theorem dX1_isWorked_0 : decode cX1_isWorked 0 = .ok (.aload_n 0, 1) := by decide +kernel
theorem dX1_isWorked_1 : decode cX1_isWorked 1 = .ok (.getfield 56, 3) := by decide +kernel
theorem dX1_isWorked_4 : decode cX1_isWorked 4 = .ok (.ifCond .eq 18, 3) := by decide +kernel
theorem dX1_isWorked_7 : decode cX1_isWorked 7 = .ok (.aload_n 0, 1) := by decide +kernel
theorem dX1_isWorked_8 : decode cX1_isWorked 8 = .ok (.getfield 62, 3) := by decide +kernel
theorem dX1_isWorked_11 : decode cX1_isWorked 11 = .ok (.aload_n 0, 1) := by decide +kernel
theorem dX1_isWorked_12 : decode cX1_isWorked 12 = .ok (.invokevirtual 65, 3) := by decide +kernel
theorem dX1_isWorked_15 : decode cX1_isWorked 15 = .ok (.if_icmp .ne 7, 3) := by decide +kernel
theorem dX1_isWorked_18 : decode cX1_isWorked 18 = .ok (.iconst 1, 1) := by decide +kernel
theorem dX1_isWorked_19 : decode cX1_isWorked 19 = .ok (.goto 4, 3) := by decide +kernel
theorem dX1_isWorked_22 : decode cX1_isWorked 22 = .ok (.iconst 0, 1) := by decide +kernel
theorem dX1_isWorked_23 : decode cX1_isWorked 23 = .ok (.ireturn, 1) := by decide +kernel
theorem dX4_init_0 : decode cX4_init 0 = .ok (.aload_n 0, 1) := by decide +kernel
theorem dX4_init_1 : decode cX4_init 1 = .ok (.invokespecial 3, 3) := by decide +kernel
theorem dX4_init_4 : decode cX4_init 4 = .ok (.aload_n 0, 1) := by decide +kernel
theorem dX4_init_5 : decode cX4_init 5 = .ok (.sipush 160, 3) := by decide +kernel
theorem dX4_init_8 : decode cX4_init 8 = .ok (.newarray .int, 2) := by decide +kernel
theorem dX4_init_10 : decode cX4_init 10 = .ok (.putfield 9, 3) := by decide +kernel
theorem dX4_init_13 : decode cX4_init 13 = .ok (.return_, 1) := by decide +kernel
theorem dX4_wrongPlace_0 : decode cX4_wrongPlace 0 = .ok (.aload_n 1, 1) := by decide +kernel
theorem dX4_wrongPlace_1 : decode cX4_wrongPlace 1 = .ok (.iconst 0, 1) := by decide +kernel
theorem dX4_wrongPlace_2 : decode cX4_wrongPlace 2 = .ok (.invokevirtual 35, 3) := by decide +kernel
theorem dX4_wrongPlace_5 : decode cX4_wrongPlace 5 = .ok (.aload_n 0, 1) := by decide +kernel
theorem dX4_wrongPlace_6 : decode cX4_wrongPlace 6 = .ok (.iconst 0, 1) := by decide +kernel
theorem dX4_wrongPlace_7 : decode cX4_wrongPlace 7 = .ok (.putfield 38, 3) := by decide +kernel
theorem dX4_wrongPlace_10 : decode cX4_wrongPlace 10 = .ok (.iconst 0, 1) := by decide +kernel
theorem dX4_wrongPlace_11 : decode cX4_wrongPlace 11 = .ok (.istore_n 2, 1) := by decide +kernel
theorem dX4_wrongPlace_12 : decode cX4_wrongPlace 12 = .ok (.iload_n 2, 1) := by decide +kernel
theorem dX4_wrongPlace_13 : decode cX4_wrongPlace 13 = .ok (.bipush 24, 2) := by decide +kernel
theorem dX4_wrongPlace_15 : decode cX4_wrongPlace 15 = .ok (.if_icmp .ge 175, 3) := by decide +kernel
theorem dX4_wrongPlace_18 : decode cX4_wrongPlace 18 = .ok (.aload_n 0, 1) := by decide +kernel
theorem dX4_wrongPlace_19 : decode cX4_wrongPlace 19 = .ok (.getfield 15, 3) := by decide +kernel
theorem dX4_wrongPlace_22 : decode cX4_wrongPlace 22 = .ok (.ifCond .le 168, 3) := by decide +kernel
theorem dX4_wrongPlace_25 : decode cX4_wrongPlace 25 = .ok (.aload_n 0, 1) := by decide +kernel
theorem dX4_wrongPlace_26 : decode cX4_wrongPlace 26 = .ok (.getfield 38, 3) := by decide +kernel
theorem dX4_wrongPlace_29 : decode cX4_wrongPlace 29 = .ok (.istore_n 3, 1) := by decide +kernel
theorem dX4_wrongPlace_30 : decode cX4_wrongPlace 30 = .ok (.aload_n 0, 1) := by decide +kernel
theorem dX4_wrongPlace_31 : decode cX4_wrongPlace 31 = .ok (.invokevirtual 41, 3) := by decide +kernel
theorem dX4_wrongPlace_34 : decode cX4_wrongPlace 34 = .ok (.istore 4, 2) := by decide +kernel
theorem dX4_wrongPlace_36 : decode cX4_wrongPlace 36 = .ok (.iload 4, 2) := by decide +kernel
theorem dX4_wrongPlace_38 : decode cX4_wrongPlace 38 = .ok (.ifCond .ge 5, 3) := by decide +kernel
theorem dX4_wrongPlace_41 : decode cX4_wrongPlace 41 = .ok (.iload_n 3, 1) := by decide +kernel
theorem dX4_wrongPlace_42 : decode cX4_wrongPlace 42 = .ok (.ireturn, 1) := by decide +kernel
theorem dX4_wrongPlace_43 : decode cX4_wrongPlace 43 = .ok (.aload_n 0, 1) := by decide +kernel
theorem dX4_wrongPlace_44 : decode cX4_wrongPlace 44 = .ok (.invokevirtual 45, 3) := by decide +kernel
theorem dX4_wrongPlace_47 : decode cX4_wrongPlace 47 = .ok (.bipush 58, 2) := by decide +kernel
theorem dX4_wrongPlace_49 : decode cX4_wrongPlace 49 = .ok (.if_icmp .eq 8, 3) := by decide +kernel
theorem dX4_wrongPlace_52 : decode cX4_wrongPlace 52 = .ok (.aload_n 0, 1) := by decide +kernel
theorem dX4_wrongPlace_53 : decode cX4_wrongPlace 53 = .ok (.getfield 38, 3) := by decide +kernel
theorem dX4_wrongPlace_56 : decode cX4_wrongPlace 56 = .ok (.ireturn, 1) := by decide +kernel
theorem dX4_wrongPlace_57 : decode cX4_wrongPlace 57 = .ok (.aload_n 0, 1) := by decide +kernel
theorem dX4_wrongPlace_58 : decode cX4_wrongPlace 58 = .ok (.dup, 1) := by decide +kernel
theorem dX4_wrongPlace_59 : decode cX4_wrongPlace 59 = .ok (.getfield 38, 3) := by decide +kernel
theorem dX4_wrongPlace_62 : decode cX4_wrongPlace 62 = .ok (.iconst 1, 1) := by decide +kernel
theorem dX4_wrongPlace_63 : decode cX4_wrongPlace 63 = .ok (.iadd, 1) := by decide +kernel
theorem dX4_wrongPlace_64 : decode cX4_wrongPlace 64 = .ok (.putfield 38, 3) := by decide +kernel
theorem dX4_wrongPlace_67 : decode cX4_wrongPlace 67 = .ok (.aload_n 0, 1) := by decide +kernel
theorem dX4_wrongPlace_68 : decode cX4_wrongPlace 68 = .ok (.invokevirtual 45, 3) := by decide +kernel
theorem dX4_wrongPlace_71 : decode cX4_wrongPlace 71 = .ok (.bipush 48, 2) := by decide +kernel
theorem dX4_wrongPlace_73 : decode cX4_wrongPlace 73 = .ok (.isub, 1) := by decide +kernel
theorem dX4_wrongPlace_74 : decode cX4_wrongPlace 74 = .ok (.istore 5, 2) := by decide +kernel
theorem dX4_wrongPlace_76 : decode cX4_wrongPlace 76 = .ok (.iload 5, 2) := by decide +kernel
theorem dX4_wrongPlace_78 : decode cX4_wrongPlace 78 = .ok (.iconst 0, 1) := by decide +kernel
theorem dX4_wrongPlace_79 : decode cX4_wrongPlace 79 = .ok (.bipush 8, 2) := by decide +kernel
theorem dX4_wrongPlace_81 : decode cX4_wrongPlace 81 = .ok (.invokestatic 48, 3) := by decide +kernel
theorem dX4_wrongPlace_84 : decode cX4_wrongPlace 84 = .ok (.ifCond .ne 8, 3) := by decide +kernel
theorem dX4_wrongPlace_87 : decode cX4_wrongPlace 87 = .ok (.aload_n 0, 1) := by decide +kernel
theorem dX4_wrongPlace_88 : decode cX4_wrongPlace 88 = .ok (.getfield 38, 3) := by decide +kernel
theorem dX4_wrongPlace_91 : decode cX4_wrongPlace 91 = .ok (.ireturn, 1) := by decide +kernel
theorem dX4_wrongPlace_92 : decode cX4_wrongPlace 92 = .ok (.aload_n 0, 1) := by decide +kernel
theorem dX4_wrongPlace_93 : decode cX4_wrongPlace 93 = .ok (.dup, 1) := by decide +kernel
theorem dX4_wrongPlace_94 : decode cX4_wrongPlace 94 = .ok (.getfield 38, 3) := by decide +kernel
theorem dX4_wrongPlace_97 : decode cX4_wrongPlace 97 = .ok (.iconst 1, 1) := by decide +kernel
theorem dX4_wrongPlace_98 : decode cX4_wrongPlace 98 = .ok (.iadd, 1) := by decide +kernel
theorem dX4_wrongPlace_99 : decode cX4_wrongPlace 99 = .ok (.putfield 38, 3) := by decide +kernel
theorem dX4_wrongPlace_102 : decode cX4_wrongPlace 102 = .ok (.aload_n 1, 1) := by decide +kernel
theorem dX4_wrongPlace_103 : decode cX4_wrongPlace 103 = .ok (.getfield 28, 3) := by decide +kernel
theorem dX4_wrongPlace_106 : decode cX4_wrongPlace 106 = .ok (.iconst 0, 1) := by decide +kernel
theorem dX4_wrongPlace_107 : decode cX4_wrongPlace 107 = .ok (.aaload, 1) := by decide +kernel
theorem dX4_wrongPlace_108 : decode cX4_wrongPlace 108 = .ok (.iload_n 2, 1) := by decide +kernel
theorem dX4_wrongPlace_109 : decode cX4_wrongPlace 109 = .ok (.iload 4, 2) := by decide +kernel
theorem dX4_wrongPlace_111 : decode cX4_wrongPlace 111 = .ok (.iastore, 1) := by decide +kernel
theorem dX4_wrongPlace_112 : decode cX4_wrongPlace 112 = .ok (.aload_n 1, 1) := by decide +kernel
theorem dX4_wrongPlace_113 : decode cX4_wrongPlace 113 = .ok (.getfield 28, 3) := by decide +kernel
theorem dX4_wrongPlace_116 : decode cX4_wrongPlace 116 = .ok (.iconst 1, 1) := by decide +kernel
theorem dX4_wrongPlace_117 : decode cX4_wrongPlace 117 = .ok (.aaload, 1) := by decide +kernel
theorem dX4_wrongPlace_118 : decode cX4_wrongPlace 118 = .ok (.iload_n 2, 1) := by decide +kernel
theorem dX4_wrongPlace_119 : decode cX4_wrongPlace 119 = .ok (.iload 5, 2) := by decide +kernel
theorem dX4_wrongPlace_121 : decode cX4_wrongPlace 121 = .ok (.iastore, 1) := by decide +kernel
theorem dX4_wrongPlace_122 : decode cX4_wrongPlace 122 = .ok (.aload_n 1, 1) := by decide +kernel
theorem dX4_wrongPlace_123 : decode cX4_wrongPlace 123 = .ok (.getfield 19, 3) := by decide +kernel
theorem dX4_wrongPlace_126 : decode cX4_wrongPlace 126 = .ok (.iconst 0, 1) := by decide +kernel
theorem dX4_wrongPlace_127 : decode cX4_wrongPlace 127 = .ok (.iload_n 2, 1) := by decide +kernel
theorem dX4_wrongPlace_128 : decode cX4_wrongPlace 128 = .ok (.iconst 1, 1) := by decide +kernel
theorem dX4_wrongPlace_129 : decode cX4_wrongPlace 129 = .ok (.iadd, 1) := by decide +kernel
theorem dX4_wrongPlace_130 : decode cX4_wrongPlace 130 = .ok (.iastore, 1) := by decide +kernel
theorem dX4_wrongPlace_131 : decode cX4_wrongPlace 131 = .ok (.aload_n 1, 1) := by decide +kernel
theorem dX4_wrongPlace_132 : decode cX4_wrongPlace 132 = .ok (.getfield 19, 3) := by decide +kernel
theorem dX4_wrongPlace_135 : decode cX4_wrongPlace 135 = .ok (.iconst 1, 1) := by decide +kernel
theorem dX4_wrongPlace_136 : decode cX4_wrongPlace 136 = .ok (.iload_n 2, 1) := by decide +kernel
theorem dX4_wrongPlace_137 : decode cX4_wrongPlace 137 = .ok (.iconst 1, 1) := by decide +kernel
theorem dX4_wrongPlace_138 : decode cX4_wrongPlace 138 = .ok (.iadd, 1) := by decide +kernel
theorem dX4_wrongPlace_139 : decode cX4_wrongPlace 139 = .ok (.iastore, 1) := by decide +kernel
theorem dX4_wrongPlace_140 : decode cX4_wrongPlace 140 = .ok (.aload_n 0, 1) := by decide +kernel
theorem dX4_wrongPlace_141 : decode cX4_wrongPlace 141 = .ok (.getfield 38, 3) := by decide +kernel
theorem dX4_wrongPlace_144 : decode cX4_wrongPlace 144 = .ok (.aload_n 0, 1) := by decide +kernel
theorem dX4_wrongPlace_145 : decode cX4_wrongPlace 145 = .ok (.getfield 15, 3) := by decide +kernel
theorem dX4_wrongPlace_148 : decode cX4_wrongPlace 148 = .ok (.if_icmp .ne 6, 3) := by decide +kernel
theorem dX4_wrongPlace_151 : decode cX4_wrongPlace 151 = .ok (.bipush (-2), 2) := by decide +kernel
theorem dX4_wrongPlace_153 : decode cX4_wrongPlace 153 = .ok (.ireturn, 1) := by decide +kernel
theorem dX4_wrongPlace_154 : decode cX4_wrongPlace 154 = .ok (.aload_n 0, 1) := by decide +kernel
theorem dX4_wrongPlace_155 : decode cX4_wrongPlace 155 = .ok (.invokevirtual 45, 3) := by decide +kernel
theorem dX4_wrongPlace_158 : decode cX4_wrongPlace 158 = .ok (.bipush 32, 2) := by decide +kernel
theorem dX4_wrongPlace_160 : decode cX4_wrongPlace 160 = .ok (.if_icmp .ne 9, 3) := by decide +kernel
theorem dX4_wrongPlace_163 : decode cX4_wrongPlace 163 = .ok (.iload_n 2, 1) := by decide +kernel
theorem dX4_wrongPlace_164 : decode cX4_wrongPlace 164 = .ok (.bipush 23, 2) := by decide +kernel
theorem dX4_wrongPlace_166 : decode cX4_wrongPlace 166 = .ok (.if_icmp .ne 8, 3) := by decide +kernel
theorem dX4_wrongPlace_169 : decode cX4_wrongPlace 169 = .ok (.aload_n 0, 1) := by decide +kernel
theorem dX4_wrongPlace_170 : decode cX4_wrongPlace 170 = .ok (.getfield 38, 3) := by decide +kernel
theorem dX4_wrongPlace_173 : decode cX4_wrongPlace 173 = .ok (.ireturn, 1) := by decide +kernel
theorem dX4_wrongPlace_174 : decode cX4_wrongPlace 174 = .ok (.aload_n 0, 1) := by decide +kernel
theorem dX4_wrongPlace_175 : decode cX4_wrongPlace 175 = .ok (.dup, 1) := by decide +kernel
theorem dX4_wrongPlace_176 : decode cX4_wrongPlace 176 = .ok (.getfield 38, 3) := by decide +kernel
theorem dX4_wrongPlace_179 : decode cX4_wrongPlace 179 = .ok (.iconst 1, 1) := by decide +kernel
theorem dX4_wrongPlace_180 : decode cX4_wrongPlace 180 = .ok (.iadd, 1) := by decide +kernel
theorem dX4_wrongPlace_181 : decode cX4_wrongPlace 181 = .ok (.putfield 38, 3) := by decide +kernel
theorem dX4_wrongPlace_184 : decode cX4_wrongPlace 184 = .ok (.iinc 2 1, 3) := by decide +kernel
theorem dX4_wrongPlace_187 : decode cX4_wrongPlace 187 = .ok (.goto (-175), 3) := by decide +kernel
theorem dX4_wrongPlace_190 : decode cX4_wrongPlace 190 = .ok (.bipush (-2), 2) := by decide +kernel
theorem dX4_wrongPlace_192 : decode cX4_wrongPlace 192 = .ok (.ireturn, 1) := by decide +kernel
theorem dX9_init_0 : decode cX9_init 0 = .ok (.aload_n 0, 1) := by decide +kernel
theorem dX9_init_1 : decode cX9_init 1 = .ok (.invokespecial 1, 3) := by decide +kernel
theorem dX9_init_4 : decode cX9_init 4 = .ok (.return_, 1) := by decide +kernel
theorem dX7_init_0 : decode cX7_init 0 = .ok (.aload_n 0, 1) := by decide +kernel
theorem dX7_init_1 : decode cX7_init 1 = .ok (.invokespecial 3, 3) := by decide +kernel
theorem dX7_init_4 : decode cX7_init 4 = .ok (.aload_n 0, 1) := by decide +kernel
theorem dX7_init_5 : decode cX7_init 5 = .ok (.iconst 3, 1) := by decide +kernel
theorem dX7_init_6 : decode cX7_init 6 = .ok (.newarray .long, 2) := by decide +kernel
theorem dX7_init_8 : decode cX7_init 8 = .ok (.putfield 9, 3) := by decide +kernel
theorem dX7_init_11 : decode cX7_init 11 = .ok (.return_, 1) := by decide +kernel
theorem dX2_init_0 : decode cX2_init 0 = .ok (.aload_n 0, 1) := by decide +kernel
theorem dX2_init_1 : decode cX2_init 1 = .ok (.invokespecial 3, 3) := by decide +kernel
theorem dX2_init_4 : decode cX2_init 4 = .ok (.return_, 1) := by decide +kernel
theorem dX6_init_0 : decode cX6_init 0 = .ok (.aload_n 0, 1) := by decide +kernel
theorem dX6_init_1 : decode cX6_init 1 = .ok (.invokespecial 3, 3) := by decide +kernel
theorem dX6_init_4 : decode cX6_init 4 = .ok (.return_, 1) := by decide +kernel
theorem dX0_init_0 : decode cX0_init 0 = .ok (.aload_n 0, 1) := by decide +kernel
theorem dX0_init_1 : decode cX0_init 1 = .ok (.invokespecial 3, 3) := by decide +kernel
theorem dX0_init_4 : decode cX0_init 4 = .ok (.return_, 1) := by decide +kernel
theorem dX3_init_0 : decode cX3_init 0 = .ok (.aload_n 0, 1) := by decide +kernel
theorem dX3_init_1 : decode cX3_init 1 = .ok (.invokespecial 3, 3) := by decide +kernel
theorem dX3_init_4 : decode cX3_init 4 = .ok (.return_, 1) := by decide +kernel
theorem dX8_init_0 : decode cX8_init 0 = .ok (.aload_n 0, 1) := by decide +kernel
theorem dX8_init_1 : decode cX8_init 1 = .ok (.invokespecial 1, 3) := by decide +kernel
theorem dX8_init_4 : decode cX8_init 4 = .ok (.aload_n 0, 1) := by decide +kernel
theorem dX8_init_5 : decode cX8_init 5 = .ok (.iload_n 1, 1) := by decide +kernel
theorem dX8_init_6 : decode cX8_init 6 = .ok (.putfield 7, 3) := by decide +kernel
theorem dX8_init_9 : decode cX8_init 9 = .ok (.aload_n 0, 1) := by decide +kernel
theorem dX8_init_10 : decode cX8_init 10 = .ok (.iload_n 2, 1) := by decide +kernel
theorem dX8_init_11 : decode cX8_init 11 = .ok (.anewarray 13, 3) := by decide +kernel
theorem dX8_init_14 : decode cX8_init 14 = .ok (.putfield 15, 3) := by decide +kernel
theorem dX8_init_17 : decode cX8_init 17 = .ok (.return_, 1) := by decide +kernel
theorem dJ7_fill_53178_0 : decode cJ7_fill_53178 0 = .ok (.iconst 0, 1) := by decide +kernel
theorem dJ7_fill_53178_1 : decode cJ7_fill_53178 1 = .ok (.istore_n 2, 1) := by decide +kernel
theorem dJ7_fill_53178_2 : decode cJ7_fill_53178 2 = .ok (.aload_n 0, 1) := by decide +kernel
theorem dJ7_fill_53178_3 : decode cJ7_fill_53178 3 = .ok (.arraylength, 1) := by decide +kernel
theorem dJ7_fill_53178_4 : decode cJ7_fill_53178 4 = .ok (.istore_n 3, 1) := by decide +kernel
theorem dJ7_fill_53178_5 : decode cJ7_fill_53178 5 = .ok (.iload_n 2, 1) := by decide +kernel
theorem dJ7_fill_53178_6 : decode cJ7_fill_53178 6 = .ok (.iload_n 3, 1) := by decide +kernel
theorem dJ7_fill_53178_7 : decode cJ7_fill_53178 7 = .ok (.if_icmp .ge 13, 3) := by decide +kernel
theorem dJ7_fill_53178_10 : decode cJ7_fill_53178 10 = .ok (.aload_n 0, 1) := by decide +kernel
theorem dJ7_fill_53178_11 : decode cJ7_fill_53178 11 = .ok (.iload_n 2, 1) := by decide +kernel
theorem dJ7_fill_53178_12 : decode cJ7_fill_53178 12 = .ok (.iload_n 1, 1) := by decide +kernel
theorem dJ7_fill_53178_13 : decode cJ7_fill_53178 13 = .ok (.iastore, 1) := by decide +kernel
theorem dJ7_fill_53178_14 : decode cJ7_fill_53178 14 = .ok (.iinc 2 1, 3) := by decide +kernel
theorem dJ7_fill_53178_17 : decode cJ7_fill_53178 17 = .ok (.goto (-12), 3) := by decide +kernel
theorem dJ7_fill_53178_20 : decode cJ7_fill_53178 20 = .ok (.return_, 1) := by decide +kernel
end
section
theorem dX12_init_0 : decode cX12_init 0 = .ok (.aload_n 0, 1) := by decide +kernel
theorem dX12_init_1 : decode cX12_init 1 = .ok (.invokespecial 1, 3) := by decide +kernel
theorem dX12_init_4 : decode cX12_init 4 = .ok (.aload_n 0, 1) := by decide +kernel
theorem dX12_init_5 : decode cX12_init 5 = .ok (.bipush 6, 2) := by decide +kernel
theorem dX12_init_7 : decode cX12_init 7 = .ok (.newarray .boolean, 2) := by decide +kernel
theorem dX12_init_9 : decode cX12_init 9 = .ok (.putfield 9, 3) := by decide +kernel
theorem dX12_init_12 : decode cX12_init 12 = .ok (.aload_n 0, 1) := by decide +kernel
theorem dX12_init_13 : decode cX12_init 13 = .ok (.bipush 12, 2) := by decide +kernel
theorem dX12_init_15 : decode cX12_init 15 = .ok (.newarray .int, 2) := by decide +kernel
theorem dX12_init_17 : decode cX12_init 17 = .ok (.putfield 13, 3) := by decide +kernel
theorem dX12_init_20 : decode cX12_init 20 = .ok (.aload_n 0, 1) := by decide +kernel
theorem dX12_init_21 : decode cX12_init 21 = .ok (.sipush 288, 3) := by decide +kernel
theorem dX12_init_24 : decode cX12_init 24 = .ok (.newarray .int, 2) := by decide +kernel
theorem dX12_init_26 : decode cX12_init 26 = .ok (.putfield 17, 3) := by decide +kernel
theorem dX12_init_29 : decode cX12_init 29 = .ok (.aload_n 0, 1) := by decide +kernel
theorem dX12_init_30 : decode cX12_init 30 = .ok (.iconst 2, 1) := by decide +kernel
theorem dX12_init_31 : decode cX12_init 31 = .ok (.newarray .int, 2) := by decide +kernel
theorem dX12_init_33 : decode cX12_init 33 = .ok (.putfield 20, 3) := by decide +kernel
theorem dX12_init_36 : decode cX12_init 36 = .ok (.aload_n 0, 1) := by decide +kernel
theorem dX12_init_37 : decode cX12_init 37 = .ok (.bipush 48, 2) := by decide +kernel
theorem dX12_init_39 : decode cX12_init 39 = .ok (.newarray .int, 2) := by decide +kernel
theorem dX12_init_41 : decode cX12_init 41 = .ok (.putfield 23, 3) := by decide +kernel
theorem dX12_init_44 : decode cX12_init 44 = .ok (.aload_n 0, 1) := by decide +kernel
theorem dX12_init_45 : decode cX12_init 45 = .ok (.sipush 1728, 3) := by decide +kernel
theorem dX12_init_48 : decode cX12_init 48 = .ok (.newarray .int, 2) := by decide +kernel
theorem dX12_init_50 : decode cX12_init 50 = .ok (.putfield 26, 3) := by decide +kernel
theorem dX12_init_53 : decode cX12_init 53 = .ok (.aload_n 0, 1) := by decide +kernel
theorem dX12_init_54 : decode cX12_init 54 = .ok (.bipush 9, 2) := by decide +kernel
theorem dX12_init_56 : decode cX12_init 56 = .ok (.newarray .int, 2) := by decide +kernel
theorem dX12_init_58 : decode cX12_init 58 = .ok (.putfield 29, 3) := by decide +kernel
theorem dX12_init_61 : decode cX12_init 61 = .ok (.aload_n 0, 1) := by decide +kernel
theorem dX12_init_62 : decode cX12_init 62 = .ok (.sipush 520, 3) := by decide +kernel
theorem dX12_init_65 : decode cX12_init 65 = .ok (.newarray .int, 2) := by decide +kernel
theorem dX12_init_67 : decode cX12_init 67 = .ok (.putfield 32, 3) := by decide +kernel
theorem dX12_init_70 : decode cX12_init 70 = .ok (.aload_n 0, 1) := by decide +kernel
theorem dX12_init_71 : decode cX12_init 71 = .ok (.sipush 6240, 3) := by decide +kernel
theorem dX12_init_74 : decode cX12_init 74 = .ok (.newarray .boolean, 2) := by decide +kernel
theorem dX12_init_76 : decode cX12_init 76 = .ok (.putfield 35, 3) := by decide +kernel
theorem dX12_init_79 : decode cX12_init 79 = .ok (.aload_n 0, 1) := by decide +kernel
theorem dX12_init_80 : decode cX12_init 80 = .ok (.sipush 24960, 3) := by decide +kernel
theorem dX12_init_83 : decode cX12_init 83 = .ok (.newarray .boolean, 2) := by decide +kernel
theorem dX12_init_85 : decode cX12_init 85 = .ok (.putfield 38, 3) := by decide +kernel
theorem dX12_init_88 : decode cX12_init 88 = .ok (.aload_n 0, 1) := by decide +kernel
theorem dX12_init_89 : decode cX12_init 89 = .ok (.sipush 13000, 3) := by decide +kernel
theorem dX12_init_92 : decode cX12_init 92 = .ok (.newarray .boolean, 2) := by decide +kernel
theorem dX12_init_94 : decode cX12_init 94 = .ok (.putfield 41, 3) := by decide +kernel
theorem dX12_init_97 : decode cX12_init 97 = .ok (.aload_n 0, 1) := by decide +kernel
theorem dX12_init_98 : decode cX12_init 98 = .ok (.sipush 520, 3) := by decide +kernel
theorem dX12_init_101 : decode cX12_init 101 = .ok (.newarray .int, 2) := by decide +kernel
theorem dX12_init_103 : decode cX12_init 103 = .ok (.putfield 44, 3) := by decide +kernel
theorem dX12_init_106 : decode cX12_init 106 = .ok (.aload_n 0, 1) := by decide +kernel
theorem dX12_init_107 : decode cX12_init 107 = .ok (.sipush 520, 3) := by decide +kernel
theorem dX12_init_110 : decode cX12_init 110 = .ok (.newarray .int, 2) := by decide +kernel
theorem dX12_init_112 : decode cX12_init 112 = .ok (.putfield 47, 3) := by decide +kernel
theorem dX12_init_115 : decode cX12_init 115 = .ok (.aload_n 0, 1) := by decide +kernel
theorem dX12_init_116 : decode cX12_init 116 = .ok (.sipush 4160, 3) := by decide +kernel
theorem dX12_init_119 : decode cX12_init 119 = .ok (.newarray .int, 2) := by decide +kernel
theorem dX12_init_121 : decode cX12_init 121 = .ok (.putfield 50, 3) := by decide +kernel
theorem dX12_init_124 : decode cX12_init 124 = .ok (.aload_n 0, 1) := by decide +kernel
theorem dX12_init_125 : decode cX12_init 125 = .ok (.bipush 16, 2) := by decide +kernel
theorem dX12_init_127 : decode cX12_init 127 = .ok (.newarray .int, 2) := by decide +kernel
theorem dX12_init_129 : decode cX12_init 129 = .ok (.putfield 53, 3) := by decide +kernel
theorem dX12_init_132 : decode cX12_init 132 = .ok (.aload_n 0, 1) := by decide +kernel
theorem dX12_init_133 : decode cX12_init 133 = .ok (.bipush 16, 2) := by decide +kernel
theorem dX12_init_135 : decode cX12_init 135 = .ok (.newarray .int, 2) := by decide +kernel
theorem dX12_init_137 : decode cX12_init 137 = .ok (.putfield 56, 3) := by decide +kernel
theorem dX12_init_140 : decode cX12_init 140 = .ok (.aload_n 0, 1) := by decide +kernel
theorem dX12_init_141 : decode cX12_init 141 = .ok (.iconst 4, 1) := by decide +kernel
theorem dX12_init_142 : decode cX12_init 142 = .ok (.putfield 59, 3) := by decide +kernel
theorem dX12_init_145 : decode cX12_init 145 = .ok (.aload_n 0, 1) := by decide +kernel
theorem dX12_init_146 : decode cX12_init 146 = .ok (.sipush 4095, 3) := by decide +kernel
theorem dX12_init_149 : decode cX12_init 149 = .ok (.putfield 63, 3) := by decide +kernel
theorem dX12_init_152 : decode cX12_init 152 = .ok (.aload_n 0, 1) := by decide +kernel
theorem dX12_init_153 : decode cX12_init 153 = .ok (.iconst 3, 1) := by decide +kernel
theorem dX12_init_154 : decode cX12_init 154 = .ok (.newarray .int, 2) := by decide +kernel
theorem dX12_init_156 : decode cX12_init 156 = .ok (.dup, 1) := by decide +kernel
theorem dX12_init_157 : decode cX12_init 157 = .ok (.iconst 0, 1) := by decide +kernel
theorem dX12_init_158 : decode cX12_init 158 = .ok (.iconst 1, 1) := by decide +kernel
theorem dX12_init_159 : decode cX12_init 159 = .ok (.iastore, 1) := by decide +kernel
theorem dX12_init_160 : decode cX12_init 160 = .ok (.dup, 1) := by decide +kernel
theorem dX12_init_161 : decode cX12_init 161 = .ok (.iconst 1, 1) := by decide +kernel
theorem dX12_init_162 : decode cX12_init 162 = .ok (.iconst 1, 1) := by decide +kernel
theorem dX12_init_163 : decode cX12_init 163 = .ok (.iastore, 1) := by decide +kernel
theorem dX12_init_164 : decode cX12_init 164 = .ok (.dup, 1) := by decide +kernel
theorem dX12_init_165 : decode cX12_init 165 = .ok (.iconst 2, 1) := by decide +kernel
theorem dX12_init_166 : decode cX12_init 166 = .ok (.iconst 1, 1) := by decide +kernel
theorem dX12_init_167 : decode cX12_init 167 = .ok (.iastore, 1) := by decide +kernel
theorem dX12_init_168 : decode cX12_init 168 = .ok (.putfield 66, 3) := by decide +kernel
theorem dX12_init_171 : decode cX12_init 171 = .ok (.aload_n 0, 1) := by decide +kernel
theorem dX12_init_172 : decode cX12_init 172 = .ok (.bipush 60, 2) := by decide +kernel
theorem dX12_init_174 : decode cX12_init 174 = .ok (.newarray .int, 2) := by decide +kernel
theorem dX12_init_176 : decode cX12_init 176 = .ok (.putfield 69, 3) := by decide +kernel
theorem dX12_init_179 : decode cX12_init 179 = .ok (.aload_n 0, 1) := by decide +kernel
theorem dX12_init_180 : decode cX12_init 180 = .ok (.sipush 200, 3) := by decide +kernel
theorem dX12_init_183 : decode cX12_init 183 = .ok (.newarray .int, 2) := by decide +kernel
theorem dX12_init_185 : decode cX12_init 185 = .ok (.putfield 72, 3) := by decide +kernel
theorem dX12_init_188 : decode cX12_init 188 = .ok (.aload_n 0, 1) := by decide +kernel
theorem dX12_init_189 : decode cX12_init 189 = .ok (.sipush 200, 3) := by decide +kernel
theorem dX12_init_192 : decode cX12_init 192 = .ok (.newarray .int, 2) := by decide +kernel
theorem dX12_init_194 : decode cX12_init 194 = .ok (.putfield 75, 3) := by decide +kernel
theorem dX12_init_197 : decode cX12_init 197 = .ok (.aload_n 0, 1) := by decide +kernel
theorem dX12_init_198 : decode cX12_init 198 = .ok (.sipush 200, 3) := by decide +kernel
theorem dX12_init_201 : decode cX12_init 201 = .ok (.newarray .int, 2) := by decide +kernel
theorem dX12_init_203 : decode cX12_init 203 = .ok (.putfield 78, 3) := by decide +kernel
theorem dX12_init_206 : decode cX12_init 206 = .ok (.aload_n 0, 1) := by decide +kernel
theorem dX12_init_207 : decode cX12_init 207 = .ok (.sipush 200, 3) := by decide +kernel
theorem dX12_init_210 : decode cX12_init 210 = .ok (.newarray .int, 2) := by decide +kernel
theorem dX12_init_212 : decode cX12_init 212 = .ok (.putfield 81, 3) := by decide +kernel
theorem dX12_init_215 : decode cX12_init 215 = .ok (.aload_n 0, 1) := by decide +kernel
theorem dX12_init_216 : decode cX12_init 216 = .ok (.sipush 200, 3) := by decide +kernel
theorem dX12_init_219 : decode cX12_init 219 = .ok (.newarray .int, 2) := by decide +kernel
theorem dX12_init_221 : decode cX12_init 221 = .ok (.putfield 84, 3) := by decide +kernel
theorem dX12_init_224 : decode cX12_init 224 = .ok (.aload_n 0, 1) := by decide +kernel
theorem dX12_init_225 : decode cX12_init 225 = .ok (.sipush 160, 3) := by decide +kernel
theorem dX12_init_228 : decode cX12_init 228 = .ok (.newarray .int, 2) := by decide +kernel
theorem dX12_init_230 : decode cX12_init 230 = .ok (.putfield 87, 3) := by decide +kernel
theorem dX12_init_233 : decode cX12_init 233 = .ok (.aload_n 0, 1) := by decide +kernel
theorem dX12_init_234 : decode cX12_init 234 = .ok (.bipush 24, 2) := by decide +kernel
theorem dX12_init_236 : decode cX12_init 236 = .ok (.newarray .int, 2) := by decide +kernel
theorem dX12_init_238 : decode cX12_init 238 = .ok (.putfield 90, 3) := by decide +kernel
theorem dX12_init_241 : decode cX12_init 241 = .ok (.aload_n 0, 1) := by decide +kernel
theorem dX12_init_242 : decode cX12_init 242 = .ok (.bipush 36, 2) := by decide +kernel
theorem dX12_init_244 : decode cX12_init 244 = .ok (.newarray .int, 2) := by decide +kernel
theorem dX12_init_246 : decode cX12_init 246 = .ok (.putfield 93, 3) := by decide +kernel
theorem dX12_init_249 : decode cX12_init 249 = .ok (.aload_n 0, 1) := by decide +kernel
theorem dX12_init_250 : decode cX12_init 250 = .ok (.bipush 24, 2) := by decide +kernel
theorem dX12_init_252 : decode cX12_init 252 = .ok (.newarray .int, 2) := by decide +kernel
theorem dX12_init_254 : decode cX12_init 254 = .ok (.putfield 96, 3) := by decide +kernel
theorem dX12_init_257 : decode cX12_init 257 = .ok (.aload_n 0, 1) := by decide +kernel
theorem dX12_init_258 : decode cX12_init 258 = .ok (.bipush 24, 2) := by decide +kernel
theorem dX12_init_260 : decode cX12_init 260 = .ok (.newarray .int, 2) := by decide +kernel
theorem dX12_init_262 : decode cX12_init 262 = .ok (.putfield 99, 3) := by decide +kernel
theorem dX12_init_265 : decode cX12_init 265 = .ok (.aload_n 0, 1) := by decide +kernel
theorem dX12_init_266 : decode cX12_init 266 = .ok (.bipush 24, 2) := by decide +kernel
theorem dX12_init_268 : decode cX12_init 268 = .ok (.newarray .int, 2) := by decide +kernel
theorem dX12_init_270 : decode cX12_init 270 = .ok (.putfield 102, 3) := by decide +kernel
theorem dX12_init_273 : decode cX12_init 273 = .ok (.aload_n 0, 1) := by decide +kernel
theorem dX12_init_274 : decode cX12_init 274 = .ok (.sipush 1152, 3) := by decide +kernel
theorem dX12_init_277 : decode cX12_init 277 = .ok (.newarray .int, 2) := by decide +kernel
theorem dX12_init_279 : decode cX12_init 279 = .ok (.putfield 105, 3) := by decide +kernel
theorem dX12_init_282 : decode cX12_init 282 = .ok (.aload_n 0, 1) := by decide +kernel
theorem dX12_init_283 : decode cX12_init 283 = .ok (.sipush 1152, 3) := by decide +kernel
theorem dX12_init_286 : decode cX12_init 286 = .ok (.newarray .int, 2) := by decide +kernel
theorem dX12_init_288 : decode cX12_init 288 = .ok (.putfield 108, 3) := by decide +kernel
theorem dX12_init_291 : decode cX12_init 291 = .ok (.aload_n 0, 1) := by decide +kernel
theorem dX12_init_292 : decode cX12_init 292 = .ok (.sipush 1152, 3) := by decide +kernel
theorem dX12_init_295 : decode cX12_init 295 = .ok (.newarray .int, 2) := by decide +kernel
theorem dX12_init_297 : decode cX12_init 297 = .ok (.putfield 111, 3) := by decide +kernel
theorem dX12_init_300 : decode cX12_init 300 = .ok (.aload_n 0, 1) := by decide +kernel
theorem dX12_init_301 : decode cX12_init 301 = .ok (.sipush 256, 3) := by decide +kernel
theorem dX12_init_304 : decode cX12_init 304 = .ok (.newarray .boolean, 2) := by decide +kernel
theorem dX12_init_306 : decode cX12_init 306 = .ok (.putfield 114, 3) := by decide +kernel
theorem dX12_init_309 : decode cX12_init 309 = .ok (.aload_n 0, 1) := by decide +kernel
theorem dX12_init_310 : decode cX12_init 310 = .ok (.bipush 24, 2) := by decide +kernel
theorem dX12_init_312 : decode cX12_init 312 = .ok (.newarray .int, 2) := by decide +kernel
theorem dX12_init_314 : decode cX12_init 314 = .ok (.putfield 117, 3) := by decide +kernel
theorem dX12_init_317 : decode cX12_init 317 = .ok (.aload_n 0, 1) := by decide +kernel
theorem dX12_init_318 : decode cX12_init 318 = .ok (.bipush 24, 2) := by decide +kernel
theorem dX12_init_320 : decode cX12_init 320 = .ok (.newarray .int, 2) := by decide +kernel
theorem dX12_init_322 : decode cX12_init 322 = .ok (.putfield 120, 3) := by decide +kernel
theorem dX12_init_325 : decode cX12_init 325 = .ok (.aload_n 0, 1) := by decide +kernel
theorem dX12_init_326 : decode cX12_init 326 = .ok (.bipush 24, 2) := by decide +kernel
theorem dX12_init_328 : decode cX12_init 328 = .ok (.newarray .int, 2) := by decide +kernel
theorem dX12_init_330 : decode cX12_init 330 = .ok (.putfield 123, 3) := by decide +kernel
theorem dX12_init_333 : decode cX12_init 333 = .ok (.aload_n 0, 1) := by decide +kernel
theorem dX12_init_334 : decode cX12_init 334 = .ok (.iconst 0, 1) := by decide +kernel
theorem dX12_init_335 : decode cX12_init 335 = .ok (.putfield 126, 3) := by decide +kernel
theorem dX12_init_338 : decode cX12_init 338 = .ok (.return_, 1) := by decide +kernel
theorem dX12_in_0 : decode cX12_in 0 = .ok (.iload_n 0, 1) := by decide +kernel
theorem dX12_in_1 : decode cX12_in 1 = .ok (.iload_n 1, 1) := by decide +kernel
theorem dX12_in_2 : decode cX12_in 2 = .ok (.if_icmp .lt 12, 3) := by decide +kernel
theorem dX12_in_5 : decode cX12_in 5 = .ok (.iload_n 0, 1) := by decide +kernel
theorem dX12_in_6 : decode cX12_in 6 = .ok (.iload_n 2, 1) := by decide +kernel
theorem dX12_in_7 : decode cX12_in 7 = .ok (.if_icmp .gt 7, 3) := by decide +kernel
theorem dX12_in_10 : decode cX12_in 10 = .ok (.iconst 1, 1) := by decide +kernel
theorem dX12_in_11 : decode cX12_in 11 = .ok (.goto 4, 3) := by decide +kernel
theorem dX12_in_14 : decode cX12_in 14 = .ok (.iconst 0, 1) := by decide +kernel
theorem dX12_in_15 : decode cX12_in 15 = .ok (.ireturn, 1) := by decide +kernel
theorem dX12_isVoice_0 : decode cX12_isVoice 0 = .ok (.iload_n 0, 1) := by decide +kernel
theorem dX12_isVoice_1 : decode cX12_isVoice 1 = .ok (.iconst 0, 1) := by decide +kernel
theorem dX12_isVoice_2 : decode cX12_isVoice 2 = .ok (.iconst 5, 1) := by decide +kernel
theorem dX12_isVoice_3 : decode cX12_isVoice 3 = .ok (.invokestatic 129, 3) := by decide +kernel
theorem dX12_isVoice_6 : decode cX12_isVoice 6 = .ok (.ireturn, 1) := by decide +kernel
theorem dX12_isPlace_0 : decode cX12_isPlace 0 = .ok (.iload_n 0, 1) := by decide +kernel
theorem dX12_isPlace_1 : decode cX12_isPlace 1 = .ok (.iconst 0, 1) := by decide +kernel
theorem dX12_isPlace_2 : decode cX12_isPlace 2 = .ok (.bipush 15, 2) := by decide +kernel
theorem dX12_isPlace_4 : decode cX12_isPlace 4 = .ok (.invokestatic 129, 3) := by decide +kernel
theorem dX12_isPlace_7 : decode cX12_isPlace 7 = .ok (.ireturn, 1) := by decide +kernel
theorem dX12_finds_0 : decode cX12_finds 0 = .ok (.aload_n 0, 1) := by decide +kernel
theorem dX12_finds_1 : decode cX12_finds 1 = .ok (.iload_n 1, 1) := by decide +kernel
theorem dX12_finds_2 : decode cX12_finds 2 = .ok (.putfield 126, 3) := by decide +kernel
theorem dX12_finds_5 : decode cX12_finds 5 = .ok (.aload_n 0, 1) := by decide +kernel
theorem dX12_finds_6 : decode cX12_finds 6 = .ok (.dup, 1) := by decide +kernel
theorem dX12_finds_7 : decode cX12_finds 7 = .ok (.getfield 133, 3) := by decide +kernel
theorem dX12_finds_10 : decode cX12_finds 10 = .ok (.iconst 1, 1) := by decide +kernel
theorem dX12_finds_11 : decode cX12_finds 11 = .ok (.iadd, 1) := by decide +kernel
theorem dX12_finds_12 : decode cX12_finds 12 = .ok (.putfield 133, 3) := by decide +kernel
theorem dX12_finds_15 : decode cX12_finds 15 = .ok (.bipush (-10), 2) := by decide +kernel
theorem dX12_finds_17 : decode cX12_finds 17 = .ok (.iload_n 1, 1) := by decide +kernel
theorem dX12_finds_18 : decode cX12_finds 18 = .ok (.isub, 1) := by decide +kernel
theorem dX12_finds_19 : decode cX12_finds 19 = .ok (.ireturn, 1) := by decide +kernel
theorem dX12_keep_0 : decode cX12_keep 0 = .ok (.aload_n 0, 1) := by decide +kernel
theorem dX12_keep_1 : decode cX12_keep 1 = .ok (.iconst 1, 1) := by decide +kernel
theorem dX12_keep_2 : decode cX12_keep 2 = .ok (.putfield 136, 3) := by decide +kernel
theorem dX12_keep_5 : decode cX12_keep 5 = .ok (.aload_n 0, 1) := by decide +kernel
theorem dX12_keep_6 : decode cX12_keep 6 = .ok (.iload_n 1, 1) := by decide +kernel
theorem dX12_keep_7 : decode cX12_keep 7 = .ok (.putfield 140, 3) := by decide +kernel
theorem dX12_keep_10 : decode cX12_keep 10 = .ok (.aload_n 0, 1) := by decide +kernel
theorem dX12_keep_11 : decode cX12_keep 11 = .ok (.aload_n 0, 1) := by decide +kernel
theorem dX12_keep_12 : decode cX12_keep 12 = .ok (.getfield 9, 3) := by decide +kernel
theorem dX12_keep_15 : decode cX12_keep 15 = .ok (.iload_n 1, 1) := by decide +kernel
theorem dX12_keep_16 : decode cX12_keep 16 = .ok (.baload, 1) := by decide +kernel
theorem dX12_keep_17 : decode cX12_keep 17 = .ok (.putfield 143, 3) := by decide +kernel
theorem dX12_keep_20 : decode cX12_keep 20 = .ok (.iconst 0, 1) := by decide +kernel
theorem dX12_keep_21 : decode cX12_keep 21 = .ok (.istore_n 2, 1) := by decide +kernel
theorem dX12_keep_22 : decode cX12_keep 22 = .ok (.iload_n 2, 1) := by decide +kernel
theorem dX12_keep_23 : decode cX12_keep 23 = .ok (.iconst 2, 1) := by decide +kernel
theorem dX12_keep_24 : decode cX12_keep 24 = .ok (.if_icmp .ge 65, 3) := by decide +kernel
theorem dX12_keep_27 : decode cX12_keep 27 = .ok (.aload_n 0, 1) := by decide +kernel
theorem dX12_keep_28 : decode cX12_keep 28 = .ok (.getfield 20, 3) := by decide +kernel
theorem dX12_keep_31 : decode cX12_keep 31 = .ok (.iload_n 2, 1) := by decide +kernel
theorem dX12_keep_32 : decode cX12_keep 32 = .ok (.aload_n 0, 1) := by decide +kernel
theorem dX12_keep_33 : decode cX12_keep 33 = .ok (.getfield 13, 3) := by decide +kernel
theorem dX12_keep_36 : decode cX12_keep 36 = .ok (.iconst 2, 1) := by decide +kernel
theorem dX12_keep_37 : decode cX12_keep 37 = .ok (.iload_n 1, 1) := by decide +kernel
theorem dX12_keep_38 : decode cX12_keep 38 = .ok (.imul, 1) := by decide +kernel
theorem dX12_keep_39 : decode cX12_keep 39 = .ok (.iload_n 2, 1) := by decide +kernel
theorem dX12_keep_40 : decode cX12_keep 40 = .ok (.iadd, 1) := by decide +kernel
theorem dX12_keep_41 : decode cX12_keep 41 = .ok (.iaload, 1) := by decide +kernel
theorem dX12_keep_42 : decode cX12_keep 42 = .ok (.iastore, 1) := by decide +kernel
theorem dX12_keep_43 : decode cX12_keep 43 = .ok (.iconst 0, 1) := by decide +kernel
theorem dX12_keep_44 : decode cX12_keep 44 = .ok (.istore_n 3, 1) := by decide +kernel
theorem dX12_keep_45 : decode cX12_keep 45 = .ok (.iload_n 3, 1) := by decide +kernel
theorem dX12_keep_46 : decode cX12_keep 46 = .ok (.bipush 24, 2) := by decide +kernel
theorem dX12_keep_48 : decode cX12_keep 48 = .ok (.if_icmp .ge 35, 3) := by decide +kernel
theorem dX12_keep_51 : decode cX12_keep 51 = .ok (.aload_n 0, 1) := by decide +kernel
theorem dX12_keep_52 : decode cX12_keep 52 = .ok (.getfield 23, 3) := by decide +kernel
theorem dX12_keep_55 : decode cX12_keep 55 = .ok (.bipush 24, 2) := by decide +kernel
theorem dX12_keep_57 : decode cX12_keep 57 = .ok (.iload_n 2, 1) := by decide +kernel
theorem dX12_keep_58 : decode cX12_keep 58 = .ok (.imul, 1) := by decide +kernel
theorem dX12_keep_59 : decode cX12_keep 59 = .ok (.iload_n 3, 1) := by decide +kernel
theorem dX12_keep_60 : decode cX12_keep 60 = .ok (.iadd, 1) := by decide +kernel
theorem dX12_keep_61 : decode cX12_keep 61 = .ok (.aload_n 0, 1) := by decide +kernel
theorem dX12_keep_62 : decode cX12_keep 62 = .ok (.getfield 17, 3) := by decide +kernel
theorem dX12_keep_65 : decode cX12_keep 65 = .ok (.bipush 24, 2) := by decide +kernel
theorem dX12_keep_67 : decode cX12_keep 67 = .ok (.iconst 2, 1) := by decide +kernel
theorem dX12_keep_68 : decode cX12_keep 68 = .ok (.iload_n 1, 1) := by decide +kernel
theorem dX12_keep_69 : decode cX12_keep 69 = .ok (.imul, 1) := by decide +kernel
theorem dX12_keep_70 : decode cX12_keep 70 = .ok (.iload_n 2, 1) := by decide +kernel
theorem dX12_keep_71 : decode cX12_keep 71 = .ok (.iadd, 1) := by decide +kernel
theorem dX12_keep_72 : decode cX12_keep 72 = .ok (.imul, 1) := by decide +kernel
theorem dX12_keep_73 : decode cX12_keep 73 = .ok (.iload_n 3, 1) := by decide +kernel
theorem dX12_keep_74 : decode cX12_keep 74 = .ok (.iadd, 1) := by decide +kernel
theorem dX12_keep_75 : decode cX12_keep 75 = .ok (.iaload, 1) := by decide +kernel
theorem dX12_keep_76 : decode cX12_keep 76 = .ok (.iastore, 1) := by decide +kernel
theorem dX12_keep_77 : decode cX12_keep 77 = .ok (.iinc 3 1, 3) := by decide +kernel
theorem dX12_keep_80 : decode cX12_keep 80 = .ok (.goto (-35), 3) := by decide +kernel
theorem dX12_keep_83 : decode cX12_keep 83 = .ok (.iinc 2 1, 3) := by decide +kernel
theorem dX12_keep_86 : decode cX12_keep 86 = .ok (.goto (-64), 3) := by decide +kernel
theorem dX12_keep_89 : decode cX12_keep 89 = .ok (.return_, 1) := by decide +kernel
theorem dX12_against_0 : decode cX12_against 0 = .ok (.aload_n 0, 1) := by decide +kernel
theorem dX12_against_1 : decode cX12_against 1 = .ok (.getfield 9, 3) := by decide +kernel
theorem dX12_against_4 : decode cX12_against 4 = .ok (.iload_n 1, 1) := by decide +kernel
theorem dX12_against_5 : decode cX12_against 5 = .ok (.baload, 1) := by decide +kernel
theorem dX12_against_6 : decode cX12_against 6 = .ok (.ifCond .ne 7, 3) := by decide +kernel
theorem dX12_against_9 : decode cX12_against 9 = .ok (.iconst 1, 1) := by decide +kernel
theorem dX12_against_10 : decode cX12_against 10 = .ok (.goto 29, 3) := by decide +kernel
theorem dX12_against_13 : decode cX12_against 13 = .ok (.aload_n 0, 1) := by decide +kernel
theorem dX12_against_14 : decode cX12_against 14 = .ok (.getfield 13, 3) := by decide +kernel
theorem dX12_against_17 : decode cX12_against 17 = .ok (.iconst 2, 1) := by decide +kernel
theorem dX12_against_18 : decode cX12_against 18 = .ok (.iload_n 1, 1) := by decide +kernel
theorem dX12_against_19 : decode cX12_against 19 = .ok (.imul, 1) := by decide +kernel
theorem dX12_against_20 : decode cX12_against 20 = .ok (.iaload, 1) := by decide +kernel
theorem dX12_against_21 : decode cX12_against 21 = .ok (.aload_n 0, 1) := by decide +kernel
theorem dX12_against_22 : decode cX12_against 22 = .ok (.getfield 13, 3) := by decide +kernel
theorem dX12_against_25 : decode cX12_against 25 = .ok (.iconst 2, 1) := by decide +kernel
theorem dX12_against_26 : decode cX12_against 26 = .ok (.iload_n 1, 1) := by decide +kernel
theorem dX12_against_27 : decode cX12_against 27 = .ok (.imul, 1) := by decide +kernel
theorem dX12_against_28 : decode cX12_against 28 = .ok (.iconst 1, 1) := by decide +kernel
theorem dX12_against_29 : decode cX12_against 29 = .ok (.iadd, 1) := by decide +kernel
theorem dX12_against_30 : decode cX12_against 30 = .ok (.iaload, 1) := by decide +kernel
theorem dX12_against_31 : decode cX12_against 31 = .ok (.if_icmp .le 7, 3) := by decide +kernel
theorem dX12_against_34 : decode cX12_against 34 = .ok (.iconst 2, 1) := by decide +kernel
theorem dX12_against_35 : decode cX12_against 35 = .ok (.goto 4, 3) := by decide +kernel
theorem dX12_against_38 : decode cX12_against 38 = .ok (.iconst 0, 1) := by decide +kernel
theorem dX12_against_39 : decode cX12_against 39 = .ok (.ireturn, 1) := by decide +kernel
theorem dX12_againstCanon_0 : decode cX12_againstCanon 0 = .ok (.aload_n 0, 1) := by decide +kernel
theorem dX12_againstCanon_1 : decode cX12_againstCanon 1 = .ok (.iload_n 1, 1) := by decide +kernel
theorem dX12_againstCanon_2 : decode cX12_againstCanon 2 = .ok (.invokevirtual 165, 3) := by decide +kernel
theorem dX12_againstCanon_5 : decode cX12_againstCanon 5 = .ok (.istore_n 3, 1) := by decide +kernel
theorem dX12_againstCanon_6 : decode cX12_againstCanon 6 = .ok (.iload_n 3, 1) := by decide +kernel
theorem dX12_againstCanon_7 : decode cX12_againstCanon 7 = .ok (.ifCond .le 7, 3) := by decide +kernel
theorem dX12_againstCanon_10 : decode cX12_againstCanon 10 = .ok (.iload_n 3, 1) := by decide +kernel
theorem dX12_againstCanon_11 : decode cX12_againstCanon 11 = .ok (.goto 17, 3) := by decide +kernel
theorem dX12_againstCanon_14 : decode cX12_againstCanon 14 = .ok (.aload_n 0, 1) := by decide +kernel
theorem dX12_againstCanon_15 : decode cX12_againstCanon 15 = .ok (.getfield 53, 3) := by decide +kernel
theorem dX12_againstCanon_18 : decode cX12_againstCanon 18 = .ok (.iload_n 2, 1) := by decide +kernel
theorem dX12_againstCanon_19 : decode cX12_againstCanon 19 = .ok (.iaload, 1) := by decide +kernel
theorem dX12_againstCanon_20 : decode cX12_againstCanon 20 = .ok (.ifCond .ne 7, 3) := by decide +kernel
theorem dX12_againstCanon_23 : decode cX12_againstCanon 23 = .ok (.iconst 1, 1) := by decide +kernel
theorem dX12_againstCanon_24 : decode cX12_againstCanon 24 = .ok (.goto 4, 3) := by decide +kernel
theorem dX12_againstCanon_27 : decode cX12_againstCanon 27 = .ok (.iconst 0, 1) := by decide +kernel
theorem dX12_againstCanon_28 : decode cX12_againstCanon 28 = .ok (.ireturn, 1) := by decide +kernel
theorem dX12_beginTrace_0 : decode cX12_beginTrace 0 = .ok (.aload_n 0, 1) := by decide +kernel
theorem dX12_beginTrace_1 : decode cX12_beginTrace 1 = .ok (.iconst 0, 1) := by decide +kernel
theorem dX12_beginTrace_2 : decode cX12_beginTrace 2 = .ok (.putfield 198, 3) := by decide +kernel
theorem dX12_beginTrace_5 : decode cX12_beginTrace 5 = .ok (.aload_n 0, 1) := by decide +kernel
theorem dX12_beginTrace_6 : decode cX12_beginTrace 6 = .ok (.iconst 1, 1) := by decide +kernel
theorem dX12_beginTrace_7 : decode cX12_beginTrace 7 = .ok (.putfield 201, 3) := by decide +kernel
theorem dX12_beginTrace_10 : decode cX12_beginTrace 10 = .ok (.return_, 1) := by decide +kernel
theorem dX12_wrongIn_0 : decode cX12_wrongIn 0 = .ok (.aload_n 0, 1) := by decide +kernel
theorem dX12_wrongIn_1 : decode cX12_wrongIn 1 = .ok (.iconst 0, 1) := by decide +kernel
theorem dX12_wrongIn_2 : decode cX12_wrongIn 2 = .ok (.putfield 388, 3) := by decide +kernel
theorem dX12_wrongIn_5 : decode cX12_wrongIn 5 = .ok (.iconst 0, 1) := by decide +kernel
theorem dX12_wrongIn_6 : decode cX12_wrongIn 6 = .ok (.istore_n 1, 1) := by decide +kernel
theorem dX12_wrongIn_7 : decode cX12_wrongIn 7 = .ok (.aload_n 0, 1) := by decide +kernel
theorem dX12_wrongIn_8 : decode cX12_wrongIn 8 = .ok (.getfield 382, 3) := by decide +kernel
theorem dX12_wrongIn_11 : decode cX12_wrongIn 11 = .ok (.ifCond .le 7, 3) := by decide +kernel
theorem dX12_wrongIn_14 : decode cX12_wrongIn 14 = .ok (.iconst 1, 1) := by decide +kernel
theorem dX12_wrongIn_15 : decode cX12_wrongIn 15 = .ok (.goto 4, 3) := by decide +kernel
theorem dX12_wrongIn_18 : decode cX12_wrongIn 18 = .ok (.iconst 0, 1) := by decide +kernel
theorem dX12_wrongIn_19 : decode cX12_wrongIn 19 = .ok (.istore_n 2, 1) := by decide +kernel
theorem dX12_wrongIn_20 : decode cX12_wrongIn 20 = .ok (.iload_n 2, 1) := by decide +kernel
theorem dX12_wrongIn_21 : decode cX12_wrongIn 21 = .ok (.ifCond .eq 220, 3) := by decide +kernel
theorem dX12_wrongIn_24 : decode cX12_wrongIn 24 = .ok (.iconst 0, 1) := by decide +kernel
theorem dX12_wrongIn_25 : decode cX12_wrongIn 25 = .ok (.istore_n 3, 1) := by decide +kernel
theorem dX12_wrongIn_26 : decode cX12_wrongIn 26 = .ok (.iload_n 1, 1) := by decide +kernel
theorem dX12_wrongIn_27 : decode cX12_wrongIn 27 = .ok (.istore 4, 2) := by decide +kernel
theorem dX12_wrongIn_29 : decode cX12_wrongIn 29 = .ok (.aload_n 0, 1) := by decide +kernel
theorem dX12_wrongIn_30 : decode cX12_wrongIn 30 = .ok (.iload_n 1, 1) := by decide +kernel
theorem dX12_wrongIn_31 : decode cX12_wrongIn 31 = .ok (.invokevirtual 391, 3) := by decide +kernel
theorem dX12_wrongIn_34 : decode cX12_wrongIn 34 = .ok (.bipush 82, 2) := by decide +kernel
theorem dX12_wrongIn_36 : decode cX12_wrongIn 36 = .ok (.if_icmp .ne 9, 3) := by decide +kernel
theorem dX12_wrongIn_39 : decode cX12_wrongIn 39 = .ok (.iinc 4 1, 3) := by decide +kernel
theorem dX12_wrongIn_42 : decode cX12_wrongIn 42 = .ok (.goto 72, 3) := by decide +kernel
theorem dX12_wrongIn_45 : decode cX12_wrongIn 45 = .ok (.aload_n 0, 1) := by decide +kernel
theorem dX12_wrongIn_46 : decode cX12_wrongIn 46 = .ok (.iload 4, 2) := by decide +kernel
theorem dX12_wrongIn_48 : decode cX12_wrongIn 48 = .ok (.invokevirtual 391, 3) := by decide +kernel
theorem dX12_wrongIn_51 : decode cX12_wrongIn 51 = .ok (.bipush 48, 2) := by decide +kernel
theorem dX12_wrongIn_53 : decode cX12_wrongIn 53 = .ok (.bipush 57, 2) := by decide +kernel
theorem dX12_wrongIn_55 : decode cX12_wrongIn 55 = .ok (.invokestatic 129, 3) := by decide +kernel
theorem dX12_wrongIn_58 : decode cX12_wrongIn 58 = .ok (.ifCond .eq 38, 3) := by decide +kernel
theorem dX12_wrongIn_61 : decode cX12_wrongIn 61 = .ok (.iload 4, 2) := by decide +kernel
theorem dX12_wrongIn_63 : decode cX12_wrongIn 63 = .ok (.iload_n 1, 1) := by decide +kernel
theorem dX12_wrongIn_64 : decode cX12_wrongIn 64 = .ok (.isub, 1) := by decide +kernel
theorem dX12_wrongIn_65 : decode cX12_wrongIn 65 = .ok (.iconst 3, 1) := by decide +kernel
theorem dX12_wrongIn_66 : decode cX12_wrongIn 66 = .ok (.if_icmp .ge 20, 3) := by decide +kernel
theorem dX12_wrongIn_69 : decode cX12_wrongIn 69 = .ok (.bipush 10, 2) := by decide +kernel
theorem dX12_wrongIn_71 : decode cX12_wrongIn 71 = .ok (.iload_n 3, 1) := by decide +kernel
theorem dX12_wrongIn_72 : decode cX12_wrongIn 72 = .ok (.imul, 1) := by decide +kernel
theorem dX12_wrongIn_73 : decode cX12_wrongIn 73 = .ok (.aload_n 0, 1) := by decide +kernel
theorem dX12_wrongIn_74 : decode cX12_wrongIn 74 = .ok (.iload 4, 2) := by decide +kernel
theorem dX12_wrongIn_76 : decode cX12_wrongIn 76 = .ok (.invokevirtual 391, 3) := by decide +kernel
theorem dX12_wrongIn_79 : decode cX12_wrongIn 79 = .ok (.iadd, 1) := by decide +kernel
theorem dX12_wrongIn_80 : decode cX12_wrongIn 80 = .ok (.bipush 48, 2) := by decide +kernel
theorem dX12_wrongIn_82 : decode cX12_wrongIn 82 = .ok (.isub, 1) := by decide +kernel
theorem dX12_wrongIn_83 : decode cX12_wrongIn 83 = .ok (.goto 6, 3) := by decide +kernel
theorem dX12_wrongIn_86 : decode cX12_wrongIn 86 = .ok (.sipush 1000, 3) := by decide +kernel
theorem dX12_wrongIn_89 : decode cX12_wrongIn 89 = .ok (.istore_n 3, 1) := by decide +kernel
theorem dX12_wrongIn_90 : decode cX12_wrongIn 90 = .ok (.iinc 4 1, 3) := by decide +kernel
theorem dX12_wrongIn_93 : decode cX12_wrongIn 93 = .ok (.goto (-48), 3) := by decide +kernel
theorem dX12_wrongIn_96 : decode cX12_wrongIn 96 = .ok (.iload_n 3, 1) := by decide +kernel
theorem dX12_wrongIn_97 : decode cX12_wrongIn 97 = .ok (.iconst 1, 1) := by decide +kernel
theorem dX12_wrongIn_98 : decode cX12_wrongIn 98 = .ok (.bipush 120, 2) := by decide +kernel
theorem dX12_wrongIn_100 : decode cX12_wrongIn 100 = .ok (.invokestatic 129, 3) := by decide +kernel
theorem dX12_wrongIn_103 : decode cX12_wrongIn 103 = .ok (.ifCond .eq 9, 3) := by decide +kernel
theorem dX12_wrongIn_106 : decode cX12_wrongIn 106 = .ok (.iload 4, 2) := by decide +kernel
theorem dX12_wrongIn_108 : decode cX12_wrongIn 108 = .ok (.iload_n 1, 1) := by decide +kernel
theorem dX12_wrongIn_109 : decode cX12_wrongIn 109 = .ok (.if_icmp .ne 5, 3) := by decide +kernel
theorem dX12_wrongIn_112 : decode cX12_wrongIn 112 = .ok (.iload_n 1, 1) := by decide +kernel
theorem dX12_wrongIn_113 : decode cX12_wrongIn 113 = .ok (.ireturn, 1) := by decide +kernel
theorem dX12_wrongIn_114 : decode cX12_wrongIn 114 = .ok (.aload_n 0, 1) := by decide +kernel
theorem dX12_wrongIn_115 : decode cX12_wrongIn 115 = .ok (.iload 4, 2) := by decide +kernel
theorem dX12_wrongIn_117 : decode cX12_wrongIn 117 = .ok (.invokevirtual 391, 3) := by decide +kernel
theorem dX12_wrongIn_120 : decode cX12_wrongIn 120 = .ok (.bipush 58, 2) := by decide +kernel
theorem dX12_wrongIn_122 : decode cX12_wrongIn 122 = .ok (.if_icmp .eq 6, 3) := by decide +kernel
theorem dX12_wrongIn_125 : decode cX12_wrongIn 125 = .ok (.iload 4, 2) := by decide +kernel
theorem dX12_wrongIn_127 : decode cX12_wrongIn 127 = .ok (.ireturn, 1) := by decide +kernel
theorem dX12_wrongIn_128 : decode cX12_wrongIn 128 = .ok (.aload_n 0, 1) := by decide +kernel
theorem dX12_wrongIn_129 : decode cX12_wrongIn 129 = .ok (.iload 4, 2) := by decide +kernel
theorem dX12_wrongIn_131 : decode cX12_wrongIn 131 = .ok (.iconst 1, 1) := by decide +kernel
theorem dX12_wrongIn_132 : decode cX12_wrongIn 132 = .ok (.iadd, 1) := by decide +kernel
theorem dX12_wrongIn_133 : decode cX12_wrongIn 133 = .ok (.invokevirtual 391, 3) := by decide +kernel
theorem dX12_wrongIn_136 : decode cX12_wrongIn 136 = .ok (.bipush 48, 2) := by decide +kernel
theorem dX12_wrongIn_138 : decode cX12_wrongIn 138 = .ok (.bipush 56, 2) := by decide +kernel
theorem dX12_wrongIn_140 : decode cX12_wrongIn 140 = .ok (.invokestatic 129, 3) := by decide +kernel
theorem dX12_wrongIn_143 : decode cX12_wrongIn 143 = .ok (.ifCond .ne 8, 3) := by decide +kernel
theorem dX12_wrongIn_146 : decode cX12_wrongIn 146 = .ok (.iload 4, 2) := by decide +kernel
theorem dX12_wrongIn_148 : decode cX12_wrongIn 148 = .ok (.iconst 1, 1) := by decide +kernel
theorem dX12_wrongIn_149 : decode cX12_wrongIn 149 = .ok (.iadd, 1) := by decide +kernel
theorem dX12_wrongIn_150 : decode cX12_wrongIn 150 = .ok (.ireturn, 1) := by decide +kernel
theorem dX12_wrongIn_151 : decode cX12_wrongIn 151 = .ok (.aload_n 0, 1) := by decide +kernel
theorem dX12_wrongIn_152 : decode cX12_wrongIn 152 = .ok (.getfield 120, 3) := by decide +kernel
theorem dX12_wrongIn_155 : decode cX12_wrongIn 155 = .ok (.aload_n 0, 1) := by decide +kernel
theorem dX12_wrongIn_156 : decode cX12_wrongIn 156 = .ok (.getfield 388, 3) := by decide +kernel
theorem dX12_wrongIn_159 : decode cX12_wrongIn 159 = .ok (.iload_n 3, 1) := by decide +kernel
theorem dX12_wrongIn_160 : decode cX12_wrongIn 160 = .ok (.iastore, 1) := by decide +kernel
theorem dX12_wrongIn_161 : decode cX12_wrongIn 161 = .ok (.aload_n 0, 1) := by decide +kernel
theorem dX12_wrongIn_162 : decode cX12_wrongIn 162 = .ok (.getfield 123, 3) := by decide +kernel
theorem dX12_wrongIn_165 : decode cX12_wrongIn 165 = .ok (.aload_n 0, 1) := by decide +kernel
theorem dX12_wrongIn_166 : decode cX12_wrongIn 166 = .ok (.getfield 388, 3) := by decide +kernel
theorem dX12_wrongIn_169 : decode cX12_wrongIn 169 = .ok (.aload_n 0, 1) := by decide +kernel
theorem dX12_wrongIn_170 : decode cX12_wrongIn 170 = .ok (.iload 4, 2) := by decide +kernel
theorem dX12_wrongIn_172 : decode cX12_wrongIn 172 = .ok (.iconst 1, 1) := by decide +kernel
theorem dX12_wrongIn_173 : decode cX12_wrongIn 173 = .ok (.iadd, 1) := by decide +kernel
theorem dX12_wrongIn_174 : decode cX12_wrongIn 174 = .ok (.invokevirtual 391, 3) := by decide +kernel
theorem dX12_wrongIn_177 : decode cX12_wrongIn 177 = .ok (.bipush 48, 2) := by decide +kernel
theorem dX12_wrongIn_179 : decode cX12_wrongIn 179 = .ok (.isub, 1) := by decide +kernel
theorem dX12_wrongIn_180 : decode cX12_wrongIn 180 = .ok (.iastore, 1) := by decide +kernel
theorem dX12_wrongIn_181 : decode cX12_wrongIn 181 = .ok (.aload_n 0, 1) := by decide +kernel
theorem dX12_wrongIn_182 : decode cX12_wrongIn 182 = .ok (.dup, 1) := by decide +kernel
theorem dX12_wrongIn_183 : decode cX12_wrongIn 183 = .ok (.getfield 388, 3) := by decide +kernel
theorem dX12_wrongIn_186 : decode cX12_wrongIn 186 = .ok (.iconst 1, 1) := by decide +kernel
theorem dX12_wrongIn_187 : decode cX12_wrongIn 187 = .ok (.iadd, 1) := by decide +kernel
theorem dX12_wrongIn_188 : decode cX12_wrongIn 188 = .ok (.putfield 388, 3) := by decide +kernel
theorem dX12_wrongIn_191 : decode cX12_wrongIn 191 = .ok (.iload 4, 2) := by decide +kernel
theorem dX12_wrongIn_193 : decode cX12_wrongIn 193 = .ok (.iconst 2, 1) := by decide +kernel
theorem dX12_wrongIn_194 : decode cX12_wrongIn 194 = .ok (.iadd, 1) := by decide +kernel
theorem dX12_wrongIn_195 : decode cX12_wrongIn 195 = .ok (.istore_n 1, 1) := by decide +kernel
theorem dX12_wrongIn_196 : decode cX12_wrongIn 196 = .ok (.iload_n 1, 1) := by decide +kernel
theorem dX12_wrongIn_197 : decode cX12_wrongIn 197 = .ok (.aload_n 0, 1) := by decide +kernel
theorem dX12_wrongIn_198 : decode cX12_wrongIn 198 = .ok (.getfield 382, 3) := by decide +kernel
theorem dX12_wrongIn_201 : decode cX12_wrongIn 201 = .ok (.if_icmp .ge 7, 3) := by decide +kernel
theorem dX12_wrongIn_204 : decode cX12_wrongIn 204 = .ok (.iconst 1, 1) := by decide +kernel
theorem dX12_wrongIn_205 : decode cX12_wrongIn 205 = .ok (.goto 4, 3) := by decide +kernel
theorem dX12_wrongIn_208 : decode cX12_wrongIn 208 = .ok (.iconst 0, 1) := by decide +kernel
theorem dX12_wrongIn_209 : decode cX12_wrongIn 209 = .ok (.istore_n 2, 1) := by decide +kernel
theorem dX12_wrongIn_210 : decode cX12_wrongIn 210 = .ok (.iload_n 2, 1) := by decide +kernel
theorem dX12_wrongIn_211 : decode cX12_wrongIn 211 = .ok (.ifCond .eq 24, 3) := by decide +kernel
theorem dX12_wrongIn_214 : decode cX12_wrongIn 214 = .ok (.aload_n 0, 1) := by decide +kernel
theorem dX12_wrongIn_215 : decode cX12_wrongIn 215 = .ok (.iload_n 1, 1) := by decide +kernel
theorem dX12_wrongIn_216 : decode cX12_wrongIn 216 = .ok (.invokevirtual 391, 3) := by decide +kernel
theorem dX12_wrongIn_219 : decode cX12_wrongIn 219 = .ok (.bipush 32, 2) := by decide +kernel
theorem dX12_wrongIn_221 : decode cX12_wrongIn 221 = .ok (.if_icmp .ne 12, 3) := by decide +kernel
theorem dX12_wrongIn_224 : decode cX12_wrongIn 224 = .ok (.aload_n 0, 1) := by decide +kernel
theorem dX12_wrongIn_225 : decode cX12_wrongIn 225 = .ok (.getfield 388, 3) := by decide +kernel
theorem dX12_wrongIn_228 : decode cX12_wrongIn 228 = .ok (.bipush 24, 2) := by decide +kernel
theorem dX12_wrongIn_230 : decode cX12_wrongIn 230 = .ok (.if_icmp .ne 5, 3) := by decide +kernel
theorem dX12_wrongIn_233 : decode cX12_wrongIn 233 = .ok (.iload_n 1, 1) := by decide +kernel
theorem dX12_wrongIn_234 : decode cX12_wrongIn 234 = .ok (.ireturn, 1) := by decide +kernel
theorem dX12_wrongIn_235 : decode cX12_wrongIn 235 = .ok (.iinc 1 1, 3) := by decide +kernel
theorem dX12_wrongIn_238 : decode cX12_wrongIn 238 = .ok (.goto (-218), 3) := by decide +kernel
theorem dX12_wrongIn_241 : decode cX12_wrongIn 241 = .ok (.iconst (-1), 1) := by decide +kernel
theorem dX12_wrongIn_242 : decode cX12_wrongIn 242 = .ok (.ireturn, 1) := by decide +kernel
theorem dX12_voice_0 : decode cX12_voice 0 = .ok (.iload_n 1, 1) := by decide +kernel
theorem dX12_voice_1 : decode cX12_voice 1 = .ok (.invokestatic 153, 3) := by decide +kernel
theorem dX12_voice_4 : decode cX12_voice 4 = .ok (.ifCond .eq 9, 3) := by decide +kernel
theorem dX12_voice_7 : decode cX12_voice 7 = .ok (.iload_n 2, 1) := by decide +kernel
theorem dX12_voice_8 : decode cX12_voice 8 = .ok (.bipush 24, 2) := by decide +kernel
theorem dX12_voice_10 : decode cX12_voice 10 = .ok (.if_icmp .le 5, 3) := by decide +kernel
theorem dX12_voice_13 : decode cX12_voice 13 = .ok (.iconst (-1), 1) := by decide +kernel
theorem dX12_voice_14 : decode cX12_voice 14 = .ok (.ireturn, 1) := by decide +kernel
theorem dX12_voice_15 : decode cX12_voice 15 = .ok (.aload_n 0, 1) := by decide +kernel
theorem dX12_voice_16 : decode cX12_voice 16 = .ok (.iconst 0, 1) := by decide +kernel
theorem dX12_voice_17 : decode cX12_voice 17 = .ok (.putfield 126, 3) := by decide +kernel
theorem dX12_voice_20 : decode cX12_voice 20 = .ok (.iload_n 2, 1) := by decide +kernel
theorem dX12_voice_21 : decode cX12_voice 21 = .ok (.ifCond .ge 9, 3) := by decide +kernel
theorem dX12_voice_24 : decode cX12_voice 24 = .ok (.aload_n 0, 1) := by decide +kernel
theorem dX12_voice_25 : decode cX12_voice 25 = .ok (.iconst 5, 1) := by decide +kernel
theorem dX12_voice_26 : decode cX12_voice 26 = .ok (.invokevirtual 157, 3) := by decide +kernel
theorem dX12_voice_29 : decode cX12_voice 29 = .ok (.ireturn, 1) := by decide +kernel
theorem dX12_voice_30 : decode cX12_voice 30 = .ok (.aload_n 0, 1) := by decide +kernel
theorem dX12_voice_31 : decode cX12_voice 31 = .ok (.iload_n 1, 1) := by decide +kernel
theorem dX12_voice_32 : decode cX12_voice 32 = .ok (.invokevirtual 161, 3) := by decide +kernel
theorem dX12_voice_35 : decode cX12_voice 35 = .ok (.aload_n 0, 1) := by decide +kernel
theorem dX12_voice_36 : decode cX12_voice 36 = .ok (.getfield 9, 3) := by decide +kernel
theorem dX12_voice_39 : decode cX12_voice 39 = .ok (.iload_n 1, 1) := by decide +kernel
theorem dX12_voice_40 : decode cX12_voice 40 = .ok (.iconst 1, 1) := by decide +kernel
theorem dX12_voice_41 : decode cX12_voice 41 = .ok (.bastore, 1) := by decide +kernel
theorem dX12_voice_42 : decode cX12_voice 42 = .ok (.aload_n 0, 1) := by decide +kernel
theorem dX12_voice_43 : decode cX12_voice 43 = .ok (.getfield 13, 3) := by decide +kernel
theorem dX12_voice_46 : decode cX12_voice 46 = .ok (.iconst 2, 1) := by decide +kernel
theorem dX12_voice_47 : decode cX12_voice 47 = .ok (.iload_n 1, 1) := by decide +kernel
theorem dX12_voice_48 : decode cX12_voice 48 = .ok (.imul, 1) := by decide +kernel
theorem dX12_voice_49 : decode cX12_voice 49 = .ok (.iload_n 2, 1) := by decide +kernel
theorem dX12_voice_50 : decode cX12_voice 50 = .ok (.iastore, 1) := by decide +kernel
theorem dX12_voice_51 : decode cX12_voice 51 = .ok (.aload_n 0, 1) := by decide +kernel
theorem dX12_voice_52 : decode cX12_voice 52 = .ok (.getfield 13, 3) := by decide +kernel
theorem dX12_voice_55 : decode cX12_voice 55 = .ok (.iconst 2, 1) := by decide +kernel
theorem dX12_voice_56 : decode cX12_voice 56 = .ok (.iload_n 1, 1) := by decide +kernel
theorem dX12_voice_57 : decode cX12_voice 57 = .ok (.imul, 1) := by decide +kernel
theorem dX12_voice_58 : decode cX12_voice 58 = .ok (.iconst 1, 1) := by decide +kernel
theorem dX12_voice_59 : decode cX12_voice 59 = .ok (.iadd, 1) := by decide +kernel
theorem dX12_voice_60 : decode cX12_voice 60 = .ok (.iload_n 2, 1) := by decide +kernel
theorem dX12_voice_61 : decode cX12_voice 61 = .ok (.iastore, 1) := by decide +kernel
theorem dX12_voice_62 : decode cX12_voice 62 = .ok (.iconst 0, 1) := by decide +kernel
theorem dX12_voice_63 : decode cX12_voice 63 = .ok (.istore_n 3, 1) := by decide +kernel
theorem dX12_voice_64 : decode cX12_voice 64 = .ok (.iload_n 3, 1) := by decide +kernel
theorem dX12_voice_65 : decode cX12_voice 65 = .ok (.iload_n 2, 1) := by decide +kernel
theorem dX12_voice_66 : decode cX12_voice 66 = .ok (.if_icmp .ge 37, 3) := by decide +kernel
theorem dX12_voice_69 : decode cX12_voice 69 = .ok (.aload_n 0, 1) := by decide +kernel
theorem dX12_voice_70 : decode cX12_voice 70 = .ok (.getfield 17, 3) := by decide +kernel
theorem dX12_voice_73 : decode cX12_voice 73 = .ok (.bipush 48, 2) := by decide +kernel
theorem dX12_voice_75 : decode cX12_voice 75 = .ok (.iload_n 1, 1) := by decide +kernel
theorem dX12_voice_76 : decode cX12_voice 76 = .ok (.imul, 1) := by decide +kernel
theorem dX12_voice_77 : decode cX12_voice 77 = .ok (.iload_n 3, 1) := by decide +kernel
theorem dX12_voice_78 : decode cX12_voice 78 = .ok (.iadd, 1) := by decide +kernel
theorem dX12_voice_79 : decode cX12_voice 79 = .ok (.iconst 0, 1) := by decide +kernel
theorem dX12_voice_80 : decode cX12_voice 80 = .ok (.iastore, 1) := by decide +kernel
theorem dX12_voice_81 : decode cX12_voice 81 = .ok (.aload_n 0, 1) := by decide +kernel
theorem dX12_voice_82 : decode cX12_voice 82 = .ok (.getfield 17, 3) := by decide +kernel
theorem dX12_voice_85 : decode cX12_voice 85 = .ok (.bipush 24, 2) := by decide +kernel
theorem dX12_voice_87 : decode cX12_voice 87 = .ok (.iconst 2, 1) := by decide +kernel
theorem dX12_voice_88 : decode cX12_voice 88 = .ok (.iload_n 1, 1) := by decide +kernel
theorem dX12_voice_89 : decode cX12_voice 89 = .ok (.imul, 1) := by decide +kernel
theorem dX12_voice_90 : decode cX12_voice 90 = .ok (.iconst 1, 1) := by decide +kernel
theorem dX12_voice_91 : decode cX12_voice 91 = .ok (.iadd, 1) := by decide +kernel
theorem dX12_voice_92 : decode cX12_voice 92 = .ok (.imul, 1) := by decide +kernel
theorem dX12_voice_93 : decode cX12_voice 93 = .ok (.iload_n 3, 1) := by decide +kernel
theorem dX12_voice_94 : decode cX12_voice 94 = .ok (.iadd, 1) := by decide +kernel
theorem dX12_voice_95 : decode cX12_voice 95 = .ok (.iconst 1, 1) := by decide +kernel
theorem dX12_voice_96 : decode cX12_voice 96 = .ok (.iastore, 1) := by decide +kernel
theorem dX12_voice_97 : decode cX12_voice 97 = .ok (.iinc 3 1, 3) := by decide +kernel
theorem dX12_voice_100 : decode cX12_voice 100 = .ok (.goto (-36), 3) := by decide +kernel
theorem dX12_voice_103 : decode cX12_voice 103 = .ok (.iconst 1, 1) := by decide +kernel
theorem dX12_voice_104 : decode cX12_voice 104 = .ok (.ireturn, 1) := by decide +kernel
theorem dX12_drop_0 : decode cX12_drop 0 = .ok (.iload_n 1, 1) := by decide +kernel
theorem dX12_drop_1 : decode cX12_drop 1 = .ok (.invokestatic 153, 3) := by decide +kernel
theorem dX12_drop_4 : decode cX12_drop 4 = .ok (.ifCond .ne 5, 3) := by decide +kernel
theorem dX12_drop_7 : decode cX12_drop 7 = .ok (.iconst (-1), 1) := by decide +kernel
theorem dX12_drop_8 : decode cX12_drop 8 = .ok (.ireturn, 1) := by decide +kernel
theorem dX12_drop_9 : decode cX12_drop 9 = .ok (.aload_n 0, 1) := by decide +kernel
theorem dX12_drop_10 : decode cX12_drop 10 = .ok (.iconst 0, 1) := by decide +kernel
theorem dX12_drop_11 : decode cX12_drop 11 = .ok (.putfield 126, 3) := by decide +kernel
theorem dX12_drop_14 : decode cX12_drop 14 = .ok (.aload_n 0, 1) := by decide +kernel
theorem dX12_drop_15 : decode cX12_drop 15 = .ok (.iload_n 1, 1) := by decide +kernel
theorem dX12_drop_16 : decode cX12_drop 16 = .ok (.invokevirtual 161, 3) := by decide +kernel
theorem dX12_drop_19 : decode cX12_drop 19 = .ok (.aload_n 0, 1) := by decide +kernel
theorem dX12_drop_20 : decode cX12_drop 20 = .ok (.getfield 9, 3) := by decide +kernel
theorem dX12_drop_23 : decode cX12_drop 23 = .ok (.iload_n 1, 1) := by decide +kernel
theorem dX12_drop_24 : decode cX12_drop 24 = .ok (.baload, 1) := by decide +kernel
theorem dX12_drop_25 : decode cX12_drop 25 = .ok (.ifCond .eq 7, 3) := by decide +kernel
theorem dX12_drop_28 : decode cX12_drop 28 = .ok (.iconst 1, 1) := by decide +kernel
theorem dX12_drop_29 : decode cX12_drop 29 = .ok (.goto 4, 3) := by decide +kernel
theorem dX12_drop_32 : decode cX12_drop 32 = .ok (.iconst 0, 1) := by decide +kernel
theorem dX12_drop_33 : decode cX12_drop 33 = .ok (.istore_n 2, 1) := by decide +kernel
theorem dX12_drop_34 : decode cX12_drop 34 = .ok (.aload_n 0, 1) := by decide +kernel
theorem dX12_drop_35 : decode cX12_drop 35 = .ok (.getfield 9, 3) := by decide +kernel
theorem dX12_drop_38 : decode cX12_drop 38 = .ok (.iload_n 1, 1) := by decide +kernel
theorem dX12_drop_39 : decode cX12_drop 39 = .ok (.iconst 0, 1) := by decide +kernel
theorem dX12_drop_40 : decode cX12_drop 40 = .ok (.bastore, 1) := by decide +kernel
theorem dX12_drop_41 : decode cX12_drop 41 = .ok (.iload_n 2, 1) := by decide +kernel
theorem dX12_drop_42 : decode cX12_drop 42 = .ok (.ireturn, 1) := by decide +kernel
theorem dX12_note_0 : decode cX12_note 0 = .ok (.iload_n 1, 1) := by decide +kernel
theorem dX12_note_1 : decode cX12_note 1 = .ok (.invokestatic 153, 3) := by decide +kernel
theorem dX12_note_4 : decode cX12_note 4 = .ok (.ifCond .eq 24, 3) := by decide +kernel
theorem dX12_note_7 : decode cX12_note 7 = .ok (.iload_n 3, 1) := by decide +kernel
theorem dX12_note_8 : decode cX12_note 8 = .ok (.iconst 0, 1) := by decide +kernel
theorem dX12_note_9 : decode cX12_note 9 = .ok (.bipush 120, 2) := by decide +kernel
theorem dX12_note_11 : decode cX12_note 11 = .ok (.invokestatic 129, 3) := by decide +kernel
theorem dX12_note_14 : decode cX12_note 14 = .ok (.ifCond .eq 14, 3) := by decide +kernel
theorem dX12_note_17 : decode cX12_note 17 = .ok (.iload 4, 2) := by decide +kernel
theorem dX12_note_19 : decode cX12_note 19 = .ok (.iconst 0, 1) := by decide +kernel
theorem dX12_note_20 : decode cX12_note 20 = .ok (.bipush 8, 2) := by decide +kernel
theorem dX12_note_22 : decode cX12_note 22 = .ok (.invokestatic 129, 3) := by decide +kernel
theorem dX12_note_25 : decode cX12_note 25 = .ok (.ifCond .ne 5, 3) := by decide +kernel
theorem dX12_note_28 : decode cX12_note 28 = .ok (.iconst (-1), 1) := by decide +kernel
theorem dX12_note_29 : decode cX12_note 29 = .ok (.ireturn, 1) := by decide +kernel
theorem dX12_note_30 : decode cX12_note 30 = .ok (.aload_n 0, 1) := by decide +kernel
theorem dX12_note_31 : decode cX12_note 31 = .ok (.iconst 0, 1) := by decide +kernel
theorem dX12_note_32 : decode cX12_note 32 = .ok (.putfield 126, 3) := by decide +kernel
theorem dX12_note_35 : decode cX12_note 35 = .ok (.aload_n 0, 1) := by decide +kernel
theorem dX12_note_36 : decode cX12_note 36 = .ok (.getfield 9, 3) := by decide +kernel
theorem dX12_note_39 : decode cX12_note 39 = .ok (.iload_n 1, 1) := by decide +kernel
theorem dX12_note_40 : decode cX12_note 40 = .ok (.baload, 1) := by decide +kernel
theorem dX12_note_41 : decode cX12_note 41 = .ok (.ifCond .ne 9, 3) := by decide +kernel
theorem dX12_note_44 : decode cX12_note 44 = .ok (.aload_n 0, 1) := by decide +kernel
theorem dX12_note_45 : decode cX12_note 45 = .ok (.iconst 1, 1) := by decide +kernel
theorem dX12_note_46 : decode cX12_note 46 = .ok (.invokevirtual 157, 3) := by decide +kernel
theorem dX12_note_49 : decode cX12_note 49 = .ok (.ireturn, 1) := by decide +kernel
theorem dX12_note_50 : decode cX12_note 50 = .ok (.iload_n 2, 1) := by decide +kernel
theorem dX12_note_51 : decode cX12_note 51 = .ok (.iconst 0, 1) := by decide +kernel
theorem dX12_note_52 : decode cX12_note 52 = .ok (.aload_n 0, 1) := by decide +kernel
theorem dX12_note_53 : decode cX12_note 53 = .ok (.getfield 13, 3) := by decide +kernel
theorem dX12_note_56 : decode cX12_note 56 = .ok (.iconst 2, 1) := by decide +kernel
theorem dX12_note_57 : decode cX12_note 57 = .ok (.iload_n 1, 1) := by decide +kernel
theorem dX12_note_58 : decode cX12_note 58 = .ok (.imul, 1) := by decide +kernel
theorem dX12_note_59 : decode cX12_note 59 = .ok (.iaload, 1) := by decide +kernel
theorem dX12_note_60 : decode cX12_note 60 = .ok (.iconst 1, 1) := by decide +kernel
theorem dX12_note_61 : decode cX12_note 61 = .ok (.isub, 1) := by decide +kernel
theorem dX12_note_62 : decode cX12_note 62 = .ok (.invokestatic 129, 3) := by decide +kernel
theorem dX12_note_65 : decode cX12_note 65 = .ok (.ifCond .eq 23, 3) := by decide +kernel
theorem dX12_note_68 : decode cX12_note 68 = .ok (.iload_n 2, 1) := by decide +kernel
theorem dX12_note_69 : decode cX12_note 69 = .ok (.iconst 0, 1) := by decide +kernel
theorem dX12_note_70 : decode cX12_note 70 = .ok (.aload_n 0, 1) := by decide +kernel
theorem dX12_note_71 : decode cX12_note 71 = .ok (.getfield 13, 3) := by decide +kernel
theorem dX12_note_74 : decode cX12_note 74 = .ok (.iconst 2, 1) := by decide +kernel
theorem dX12_note_75 : decode cX12_note 75 = .ok (.iload_n 1, 1) := by decide +kernel
theorem dX12_note_76 : decode cX12_note 76 = .ok (.imul, 1) := by decide +kernel
theorem dX12_note_77 : decode cX12_note 77 = .ok (.iconst 1, 1) := by decide +kernel
theorem dX12_note_78 : decode cX12_note 78 = .ok (.iadd, 1) := by decide +kernel
theorem dX12_note_79 : decode cX12_note 79 = .ok (.iaload, 1) := by decide +kernel
theorem dX12_note_80 : decode cX12_note 80 = .ok (.iconst 1, 1) := by decide +kernel
theorem dX12_note_81 : decode cX12_note 81 = .ok (.isub, 1) := by decide +kernel
theorem dX12_note_82 : decode cX12_note 82 = .ok (.invokestatic 129, 3) := by decide +kernel
theorem dX12_note_85 : decode cX12_note 85 = .ok (.ifCond .ne 9, 3) := by decide +kernel
theorem dX12_note_88 : decode cX12_note 88 = .ok (.aload_n 0, 1) := by decide +kernel
theorem dX12_note_89 : decode cX12_note 89 = .ok (.iconst 2, 1) := by decide +kernel
theorem dX12_note_90 : decode cX12_note 90 = .ok (.invokevirtual 157, 3) := by decide +kernel
theorem dX12_note_93 : decode cX12_note 93 = .ok (.ireturn, 1) := by decide +kernel
theorem dX12_note_94 : decode cX12_note 94 = .ok (.aload_n 0, 1) := by decide +kernel
theorem dX12_note_95 : decode cX12_note 95 = .ok (.iload_n 1, 1) := by decide +kernel
theorem dX12_note_96 : decode cX12_note 96 = .ok (.invokevirtual 161, 3) := by decide +kernel
theorem dX12_note_99 : decode cX12_note 99 = .ok (.aload_n 0, 1) := by decide +kernel
theorem dX12_note_100 : decode cX12_note 100 = .ok (.getfield 17, 3) := by decide +kernel
theorem dX12_note_103 : decode cX12_note 103 = .ok (.bipush 48, 2) := by decide +kernel
theorem dX12_note_105 : decode cX12_note 105 = .ok (.iload_n 1, 1) := by decide +kernel
theorem dX12_note_106 : decode cX12_note 106 = .ok (.imul, 1) := by decide +kernel
theorem dX12_note_107 : decode cX12_note 107 = .ok (.iload_n 2, 1) := by decide +kernel
theorem dX12_note_108 : decode cX12_note 108 = .ok (.iadd, 1) := by decide +kernel
theorem dX12_note_109 : decode cX12_note 109 = .ok (.iload_n 3, 1) := by decide +kernel
theorem dX12_note_110 : decode cX12_note 110 = .ok (.iastore, 1) := by decide +kernel
theorem dX12_note_111 : decode cX12_note 111 = .ok (.aload_n 0, 1) := by decide +kernel
theorem dX12_note_112 : decode cX12_note 112 = .ok (.getfield 17, 3) := by decide +kernel
theorem dX12_note_115 : decode cX12_note 115 = .ok (.bipush 24, 2) := by decide +kernel
theorem dX12_note_117 : decode cX12_note 117 = .ok (.iconst 2, 1) := by decide +kernel
theorem dX12_note_118 : decode cX12_note 118 = .ok (.iload_n 1, 1) := by decide +kernel
theorem dX12_note_119 : decode cX12_note 119 = .ok (.imul, 1) := by decide +kernel
theorem dX12_note_120 : decode cX12_note 120 = .ok (.iconst 1, 1) := by decide +kernel
theorem dX12_note_121 : decode cX12_note 121 = .ok (.iadd, 1) := by decide +kernel
theorem dX12_note_122 : decode cX12_note 122 = .ok (.imul, 1) := by decide +kernel
theorem dX12_note_123 : decode cX12_note 123 = .ok (.iload_n 2, 1) := by decide +kernel
theorem dX12_note_124 : decode cX12_note 124 = .ok (.iadd, 1) := by decide +kernel
theorem dX12_note_125 : decode cX12_note 125 = .ok (.iload 4, 2) := by decide +kernel
theorem dX12_note_127 : decode cX12_note 127 = .ok (.iastore, 1) := by decide +kernel
theorem dX12_note_128 : decode cX12_note 128 = .ok (.iconst 1, 1) := by decide +kernel
theorem dX12_note_129 : decode cX12_note 129 = .ok (.ireturn, 1) := by decide +kernel
theorem dX12_cut_0 : decode cX12_cut 0 = .ok (.iload_n 1, 1) := by decide +kernel
theorem dX12_cut_1 : decode cX12_cut 1 = .ok (.invokestatic 153, 3) := by decide +kernel
theorem dX12_cut_4 : decode cX12_cut 4 = .ok (.ifCond .eq 18, 3) := by decide +kernel
theorem dX12_cut_7 : decode cX12_cut 7 = .ok (.iload_n 2, 1) := by decide +kernel
theorem dX12_cut_8 : decode cX12_cut 8 = .ok (.iconst 0, 1) := by decide +kernel
theorem dX12_cut_9 : decode cX12_cut 9 = .ok (.iconst 1, 1) := by decide +kernel
theorem dX12_cut_10 : decode cX12_cut 10 = .ok (.invokestatic 129, 3) := by decide +kernel
theorem dX12_cut_13 : decode cX12_cut 13 = .ok (.ifCond .eq 9, 3) := by decide +kernel
theorem dX12_cut_16 : decode cX12_cut 16 = .ok (.iload_n 3, 1) := by decide +kernel
theorem dX12_cut_17 : decode cX12_cut 17 = .ok (.bipush 24, 2) := by decide +kernel
theorem dX12_cut_19 : decode cX12_cut 19 = .ok (.if_icmp .le 5, 3) := by decide +kernel
theorem dX12_cut_22 : decode cX12_cut 22 = .ok (.iconst (-1), 1) := by decide +kernel
theorem dX12_cut_23 : decode cX12_cut 23 = .ok (.ireturn, 1) := by decide +kernel
theorem dX12_cut_24 : decode cX12_cut 24 = .ok (.aload_n 0, 1) := by decide +kernel
theorem dX12_cut_25 : decode cX12_cut 25 = .ok (.iconst 0, 1) := by decide +kernel
theorem dX12_cut_26 : decode cX12_cut 26 = .ok (.putfield 126, 3) := by decide +kernel
theorem dX12_cut_29 : decode cX12_cut 29 = .ok (.aload_n 0, 1) := by decide +kernel
theorem dX12_cut_30 : decode cX12_cut 30 = .ok (.getfield 9, 3) := by decide +kernel
theorem dX12_cut_33 : decode cX12_cut 33 = .ok (.iload_n 1, 1) := by decide +kernel
theorem dX12_cut_34 : decode cX12_cut 34 = .ok (.baload, 1) := by decide +kernel
theorem dX12_cut_35 : decode cX12_cut 35 = .ok (.ifCond .ne 9, 3) := by decide +kernel
theorem dX12_cut_38 : decode cX12_cut 38 = .ok (.aload_n 0, 1) := by decide +kernel
theorem dX12_cut_39 : decode cX12_cut 39 = .ok (.iconst 1, 1) := by decide +kernel
theorem dX12_cut_40 : decode cX12_cut 40 = .ok (.invokevirtual 157, 3) := by decide +kernel
theorem dX12_cut_43 : decode cX12_cut 43 = .ok (.ireturn, 1) := by decide +kernel
theorem dX12_cut_44 : decode cX12_cut 44 = .ok (.iload_n 3, 1) := by decide +kernel
theorem dX12_cut_45 : decode cX12_cut 45 = .ok (.ifCond .ge 9, 3) := by decide +kernel
theorem dX12_cut_48 : decode cX12_cut 48 = .ok (.aload_n 0, 1) := by decide +kernel
theorem dX12_cut_49 : decode cX12_cut 49 = .ok (.iconst 5, 1) := by decide +kernel
theorem dX12_cut_50 : decode cX12_cut 50 = .ok (.invokevirtual 157, 3) := by decide +kernel
theorem dX12_cut_53 : decode cX12_cut 53 = .ok (.ireturn, 1) := by decide +kernel
theorem dX12_cut_54 : decode cX12_cut 54 = .ok (.aload_n 0, 1) := by decide +kernel
theorem dX12_cut_55 : decode cX12_cut 55 = .ok (.getfield 13, 3) := by decide +kernel
theorem dX12_cut_58 : decode cX12_cut 58 = .ok (.iconst 2, 1) := by decide +kernel
theorem dX12_cut_59 : decode cX12_cut 59 = .ok (.iload_n 1, 1) := by decide +kernel
theorem dX12_cut_60 : decode cX12_cut 60 = .ok (.imul, 1) := by decide +kernel
theorem dX12_cut_61 : decode cX12_cut 61 = .ok (.iload_n 2, 1) := by decide +kernel
theorem dX12_cut_62 : decode cX12_cut 62 = .ok (.iadd, 1) := by decide +kernel
theorem dX12_cut_63 : decode cX12_cut 63 = .ok (.iaload, 1) := by decide +kernel
theorem dX12_cut_64 : decode cX12_cut 64 = .ok (.istore 4, 2) := by decide +kernel
theorem dX12_cut_66 : decode cX12_cut 66 = .ok (.iload_n 3, 1) := by decide +kernel
theorem dX12_cut_67 : decode cX12_cut 67 = .ok (.iload 4, 2) := by decide +kernel
theorem dX12_cut_69 : decode cX12_cut 69 = .ok (.if_icmp .le 9, 3) := by decide +kernel
theorem dX12_cut_72 : decode cX12_cut 72 = .ok (.aload_n 0, 1) := by decide +kernel
theorem dX12_cut_73 : decode cX12_cut 73 = .ok (.iconst 2, 1) := by decide +kernel
theorem dX12_cut_74 : decode cX12_cut 74 = .ok (.invokevirtual 157, 3) := by decide +kernel
theorem dX12_cut_77 : decode cX12_cut 77 = .ok (.ireturn, 1) := by decide +kernel
theorem dX12_cut_78 : decode cX12_cut 78 = .ok (.aload_n 0, 1) := by decide +kernel
theorem dX12_cut_79 : decode cX12_cut 79 = .ok (.iload_n 1, 1) := by decide +kernel
theorem dX12_cut_80 : decode cX12_cut 80 = .ok (.invokevirtual 161, 3) := by decide +kernel
theorem dX12_cut_83 : decode cX12_cut 83 = .ok (.aload_n 0, 1) := by decide +kernel
theorem dX12_cut_84 : decode cX12_cut 84 = .ok (.getfield 13, 3) := by decide +kernel
theorem dX12_cut_87 : decode cX12_cut 87 = .ok (.iconst 2, 1) := by decide +kernel
theorem dX12_cut_88 : decode cX12_cut 88 = .ok (.iload_n 1, 1) := by decide +kernel
theorem dX12_cut_89 : decode cX12_cut 89 = .ok (.imul, 1) := by decide +kernel
theorem dX12_cut_90 : decode cX12_cut 90 = .ok (.iload_n 2, 1) := by decide +kernel
theorem dX12_cut_91 : decode cX12_cut 91 = .ok (.iadd, 1) := by decide +kernel
theorem dX12_cut_92 : decode cX12_cut 92 = .ok (.iload_n 3, 1) := by decide +kernel
theorem dX12_cut_93 : decode cX12_cut 93 = .ok (.iastore, 1) := by decide +kernel
theorem dX12_cut_94 : decode cX12_cut 94 = .ok (.iload 4, 2) := by decide +kernel
theorem dX12_cut_96 : decode cX12_cut 96 = .ok (.ireturn, 1) := by decide +kernel
theorem dX12_size_0 : decode cX12_size 0 = .ok (.iload_n 1, 1) := by decide +kernel
theorem dX12_size_1 : decode cX12_size 1 = .ok (.invokestatic 153, 3) := by decide +kernel
theorem dX12_size_4 : decode cX12_size 4 = .ok (.ifCond .eq 12, 3) := by decide +kernel
theorem dX12_size_7 : decode cX12_size 7 = .ok (.iload_n 2, 1) := by decide +kernel
theorem dX12_size_8 : decode cX12_size 8 = .ok (.iconst 0, 1) := by decide +kernel
theorem dX12_size_9 : decode cX12_size 9 = .ok (.iconst 1, 1) := by decide +kernel
theorem dX12_size_10 : decode cX12_size 10 = .ok (.invokestatic 129, 3) := by decide +kernel
theorem dX12_size_13 : decode cX12_size 13 = .ok (.ifCond .ne 5, 3) := by decide +kernel
theorem dX12_size_16 : decode cX12_size 16 = .ok (.iconst (-1), 1) := by decide +kernel
theorem dX12_size_17 : decode cX12_size 17 = .ok (.ireturn, 1) := by decide +kernel
theorem dX12_size_18 : decode cX12_size 18 = .ok (.aload_n 0, 1) := by decide +kernel
theorem dX12_size_19 : decode cX12_size 19 = .ok (.iconst 0, 1) := by decide +kernel
theorem dX12_size_20 : decode cX12_size 20 = .ok (.putfield 126, 3) := by decide +kernel
theorem dX12_size_23 : decode cX12_size 23 = .ok (.aload_n 0, 1) := by decide +kernel
theorem dX12_size_24 : decode cX12_size 24 = .ok (.getfield 9, 3) := by decide +kernel
theorem dX12_size_27 : decode cX12_size 27 = .ok (.iload_n 1, 1) := by decide +kernel
theorem dX12_size_28 : decode cX12_size 28 = .ok (.baload, 1) := by decide +kernel
theorem dX12_size_29 : decode cX12_size 29 = .ok (.ifCond .eq 16, 3) := by decide +kernel
theorem dX12_size_32 : decode cX12_size 32 = .ok (.aload_n 0, 1) := by decide +kernel
theorem dX12_size_33 : decode cX12_size 33 = .ok (.getfield 13, 3) := by decide +kernel
theorem dX12_size_36 : decode cX12_size 36 = .ok (.iconst 2, 1) := by decide +kernel
theorem dX12_size_37 : decode cX12_size 37 = .ok (.iload_n 1, 1) := by decide +kernel
theorem dX12_size_38 : decode cX12_size 38 = .ok (.imul, 1) := by decide +kernel
theorem dX12_size_39 : decode cX12_size 39 = .ok (.iload_n 2, 1) := by decide +kernel
theorem dX12_size_40 : decode cX12_size 40 = .ok (.iadd, 1) := by decide +kernel
theorem dX12_size_41 : decode cX12_size 41 = .ok (.iaload, 1) := by decide +kernel
theorem dX12_size_42 : decode cX12_size 42 = .ok (.goto 8, 3) := by decide +kernel
theorem dX12_size_45 : decode cX12_size 45 = .ok (.aload_n 0, 1) := by decide +kernel
theorem dX12_size_46 : decode cX12_size 46 = .ok (.iconst 1, 1) := by decide +kernel
theorem dX12_size_47 : decode cX12_size 47 = .ok (.invokevirtual 157, 3) := by decide +kernel
theorem dX12_size_50 : decode cX12_size 50 = .ok (.ireturn, 1) := by decide +kernel
theorem dX12_number_0 : decode cX12_number 0 = .ok (.iload_n 1, 1) := by decide +kernel
theorem dX12_number_1 : decode cX12_number 1 = .ok (.invokestatic 153, 3) := by decide +kernel
theorem dX12_number_4 : decode cX12_number 4 = .ok (.ifCond .eq 12, 3) := by decide +kernel
theorem dX12_number_7 : decode cX12_number 7 = .ok (.iload_n 2, 1) := by decide +kernel
theorem dX12_number_8 : decode cX12_number 8 = .ok (.iconst 0, 1) := by decide +kernel
theorem dX12_number_9 : decode cX12_number 9 = .ok (.iconst 1, 1) := by decide +kernel
theorem dX12_number_10 : decode cX12_number 10 = .ok (.invokestatic 129, 3) := by decide +kernel
theorem dX12_number_13 : decode cX12_number 13 = .ok (.ifCond .ne 5, 3) := by decide +kernel
theorem dX12_number_16 : decode cX12_number 16 = .ok (.iconst (-1), 1) := by decide +kernel
theorem dX12_number_17 : decode cX12_number 17 = .ok (.ireturn, 1) := by decide +kernel
theorem dX12_number_18 : decode cX12_number 18 = .ok (.aload_n 0, 1) := by decide +kernel
theorem dX12_number_19 : decode cX12_number 19 = .ok (.iconst 0, 1) := by decide +kernel
theorem dX12_number_20 : decode cX12_number 20 = .ok (.putfield 126, 3) := by decide +kernel
theorem dX12_number_23 : decode cX12_number 23 = .ok (.aload_n 0, 1) := by decide +kernel
theorem dX12_number_24 : decode cX12_number 24 = .ok (.getfield 9, 3) := by decide +kernel
theorem dX12_number_27 : decode cX12_number 27 = .ok (.iload_n 1, 1) := by decide +kernel
theorem dX12_number_28 : decode cX12_number 28 = .ok (.baload, 1) := by decide +kernel
theorem dX12_number_29 : decode cX12_number 29 = .ok (.ifCond .ne 9, 3) := by decide +kernel
theorem dX12_number_32 : decode cX12_number 32 = .ok (.aload_n 0, 1) := by decide +kernel
theorem dX12_number_33 : decode cX12_number 33 = .ok (.iconst 1, 1) := by decide +kernel
theorem dX12_number_34 : decode cX12_number 34 = .ok (.invokevirtual 157, 3) := by decide +kernel
theorem dX12_number_37 : decode cX12_number 37 = .ok (.ireturn, 1) := by decide +kernel
theorem dX12_number_38 : decode cX12_number 38 = .ok (.iload_n 3, 1) := by decide +kernel
theorem dX12_number_39 : decode cX12_number 39 = .ok (.iconst 0, 1) := by decide +kernel
theorem dX12_number_40 : decode cX12_number 40 = .ok (.aload_n 0, 1) := by decide +kernel
theorem dX12_number_41 : decode cX12_number 41 = .ok (.getfield 13, 3) := by decide +kernel
theorem dX12_number_44 : decode cX12_number 44 = .ok (.iconst 2, 1) := by decide +kernel
theorem dX12_number_45 : decode cX12_number 45 = .ok (.iload_n 1, 1) := by decide +kernel
theorem dX12_number_46 : decode cX12_number 46 = .ok (.imul, 1) := by decide +kernel
theorem dX12_number_47 : decode cX12_number 47 = .ok (.iload_n 2, 1) := by decide +kernel
theorem dX12_number_48 : decode cX12_number 48 = .ok (.iadd, 1) := by decide +kernel
theorem dX12_number_49 : decode cX12_number 49 = .ok (.iaload, 1) := by decide +kernel
theorem dX12_number_50 : decode cX12_number 50 = .ok (.iconst 1, 1) := by decide +kernel
theorem dX12_number_51 : decode cX12_number 51 = .ok (.isub, 1) := by decide +kernel
theorem dX12_number_52 : decode cX12_number 52 = .ok (.invokestatic 129, 3) := by decide +kernel
theorem dX12_number_55 : decode cX12_number 55 = .ok (.ifCond .eq 21, 3) := by decide +kernel
theorem dX12_number_58 : decode cX12_number 58 = .ok (.aload_n 0, 1) := by decide +kernel
theorem dX12_number_59 : decode cX12_number 59 = .ok (.getfield 17, 3) := by decide +kernel
theorem dX12_number_62 : decode cX12_number 62 = .ok (.bipush 24, 2) := by decide +kernel
theorem dX12_number_64 : decode cX12_number 64 = .ok (.iconst 2, 1) := by decide +kernel
theorem dX12_number_65 : decode cX12_number 65 = .ok (.iload_n 1, 1) := by decide +kernel
theorem dX12_number_66 : decode cX12_number 66 = .ok (.imul, 1) := by decide +kernel
theorem dX12_number_67 : decode cX12_number 67 = .ok (.iload_n 2, 1) := by decide +kernel
theorem dX12_number_68 : decode cX12_number 68 = .ok (.iadd, 1) := by decide +kernel
theorem dX12_number_69 : decode cX12_number 69 = .ok (.imul, 1) := by decide +kernel
theorem dX12_number_70 : decode cX12_number 70 = .ok (.iload_n 3, 1) := by decide +kernel
theorem dX12_number_71 : decode cX12_number 71 = .ok (.iadd, 1) := by decide +kernel
theorem dX12_number_72 : decode cX12_number 72 = .ok (.iaload, 1) := by decide +kernel
theorem dX12_number_73 : decode cX12_number 73 = .ok (.goto 8, 3) := by decide +kernel
theorem dX12_number_76 : decode cX12_number 76 = .ok (.aload_n 0, 1) := by decide +kernel
theorem dX12_number_77 : decode cX12_number 77 = .ok (.iconst 2, 1) := by decide +kernel
theorem dX12_number_78 : decode cX12_number 78 = .ok (.invokevirtual 157, 3) := by decide +kernel
theorem dX12_number_81 : decode cX12_number 81 = .ok (.ireturn, 1) := by decide +kernel
theorem dX12_end_0 : decode cX12_end 0 = .ok (.iload_n 1, 1) := by decide +kernel
theorem dX12_end_1 : decode cX12_end 1 = .ok (.invokestatic 153, 3) := by decide +kernel
theorem dX12_end_4 : decode cX12_end 4 = .ok (.ifCond .ne 5, 3) := by decide +kernel
theorem dX12_end_7 : decode cX12_end 7 = .ok (.iconst (-1), 1) := by decide +kernel
theorem dX12_end_8 : decode cX12_end 8 = .ok (.ireturn, 1) := by decide +kernel
theorem dX12_end_9 : decode cX12_end 9 = .ok (.aload_n 0, 1) := by decide +kernel
theorem dX12_end_10 : decode cX12_end 10 = .ok (.iconst 0, 1) := by decide +kernel
theorem dX12_end_11 : decode cX12_end 11 = .ok (.putfield 126, 3) := by decide +kernel
theorem dX12_end_14 : decode cX12_end 14 = .ok (.aload_n 0, 1) := by decide +kernel
theorem dX12_end_15 : decode cX12_end 15 = .ok (.iload_n 1, 1) := by decide +kernel
theorem dX12_end_16 : decode cX12_end 16 = .ok (.invokevirtual 165, 3) := by decide +kernel
theorem dX12_end_19 : decode cX12_end 19 = .ok (.istore_n 2, 1) := by decide +kernel
theorem dX12_end_20 : decode cX12_end 20 = .ok (.iload_n 2, 1) := by decide +kernel
theorem dX12_end_21 : decode cX12_end 21 = .ok (.ifCond .le 9, 3) := by decide +kernel
theorem dX12_end_24 : decode cX12_end 24 = .ok (.aload_n 0, 1) := by decide +kernel
theorem dX12_end_25 : decode cX12_end 25 = .ok (.iload_n 2, 1) := by decide +kernel
theorem dX12_end_26 : decode cX12_end 26 = .ok (.invokevirtual 157, 3) := by decide +kernel
theorem dX12_end_29 : decode cX12_end 29 = .ok (.ireturn, 1) := by decide +kernel
theorem dX12_end_30 : decode cX12_end 30 = .ok (.aload_n 0, 1) := by decide +kernel
theorem dX12_end_31 : decode cX12_end 31 = .ok (.iload_n 1, 1) := by decide +kernel
theorem dX12_end_32 : decode cX12_end 32 = .ok (.invokevirtual 168, 3) := by decide +kernel
theorem dX12_end_35 : decode cX12_end 35 = .ok (.aload_n 0, 1) := by decide +kernel
theorem dX12_end_36 : decode cX12_end 36 = .ok (.getfield 29, 3) := by decide +kernel
theorem dX12_end_39 : decode cX12_end 39 = .ok (.iload_n 1, 1) := by decide +kernel
theorem dX12_end_40 : decode cX12_end 40 = .ok (.iaload, 1) := by decide +kernel
theorem dX12_end_41 : decode cX12_end 41 = .ok (.ireturn, 1) := by decide +kernel
theorem dX12_sounds_0 : decode cX12_sounds 0 = .ok (.iload_n 1, 1) := by decide +kernel
theorem dX12_sounds_1 : decode cX12_sounds 1 = .ok (.invokestatic 153, 3) := by decide +kernel
theorem dX12_sounds_4 : decode cX12_sounds 4 = .ok (.ifCond .eq 7, 3) := by decide +kernel
theorem dX12_sounds_7 : decode cX12_sounds 7 = .ok (.iload_n 2, 1) := by decide +kernel
theorem dX12_sounds_8 : decode cX12_sounds 8 = .ok (.ifCond .ge 5, 3) := by decide +kernel
theorem dX12_sounds_11 : decode cX12_sounds 11 = .ok (.iconst (-1), 1) := by decide +kernel
theorem dX12_sounds_12 : decode cX12_sounds 12 = .ok (.ireturn, 1) := by decide +kernel
theorem dX12_sounds_13 : decode cX12_sounds 13 = .ok (.aload_n 0, 1) := by decide +kernel
theorem dX12_sounds_14 : decode cX12_sounds 14 = .ok (.iconst 0, 1) := by decide +kernel
theorem dX12_sounds_15 : decode cX12_sounds 15 = .ok (.putfield 126, 3) := by decide +kernel
theorem dX12_sounds_18 : decode cX12_sounds 18 = .ok (.aload_n 0, 1) := by decide +kernel
theorem dX12_sounds_19 : decode cX12_sounds 19 = .ok (.iload_n 1, 1) := by decide +kernel
theorem dX12_sounds_20 : decode cX12_sounds 20 = .ok (.invokevirtual 165, 3) := by decide +kernel
theorem dX12_sounds_23 : decode cX12_sounds 23 = .ok (.istore_n 3, 1) := by decide +kernel
theorem dX12_sounds_24 : decode cX12_sounds 24 = .ok (.iload_n 3, 1) := by decide +kernel
theorem dX12_sounds_25 : decode cX12_sounds 25 = .ok (.ifCond .le 9, 3) := by decide +kernel
theorem dX12_sounds_28 : decode cX12_sounds 28 = .ok (.aload_n 0, 1) := by decide +kernel
theorem dX12_sounds_29 : decode cX12_sounds 29 = .ok (.iload_n 3, 1) := by decide +kernel
theorem dX12_sounds_30 : decode cX12_sounds 30 = .ok (.invokevirtual 157, 3) := by decide +kernel
theorem dX12_sounds_33 : decode cX12_sounds 33 = .ok (.ireturn, 1) := by decide +kernel
theorem dX12_sounds_34 : decode cX12_sounds 34 = .ok (.aload_n 0, 1) := by decide +kernel
theorem dX12_sounds_35 : decode cX12_sounds 35 = .ok (.iload_n 1, 1) := by decide +kernel
theorem dX12_sounds_36 : decode cX12_sounds 36 = .ok (.invokevirtual 168, 3) := by decide +kernel
theorem dX12_sounds_39 : decode cX12_sounds 39 = .ok (.aload_n 0, 1) := by decide +kernel
theorem dX12_sounds_40 : decode cX12_sounds 40 = .ok (.iload_n 1, 1) := by decide +kernel
theorem dX12_sounds_41 : decode cX12_sounds 41 = .ok (.iload_n 2, 1) := by decide +kernel
theorem dX12_sounds_42 : decode cX12_sounds 42 = .ok (.invokevirtual 171, 3) := by decide +kernel
theorem dX12_sounds_45 : decode cX12_sounds 45 = .ok (.ireturn, 1) := by decide +kernel
theorem dX12_transpose_0 : decode cX12_transpose 0 = .ok (.iload_n 1, 1) := by decide +kernel
theorem dX12_transpose_1 : decode cX12_transpose 1 = .ok (.invokestatic 153, 3) := by decide +kernel
theorem dX12_transpose_4 : decode cX12_transpose 4 = .ok (.ifCond .eq 14, 3) := by decide +kernel
theorem dX12_transpose_7 : decode cX12_transpose 7 = .ok (.iload_n 2, 1) := by decide +kernel
theorem dX12_transpose_8 : decode cX12_transpose 8 = .ok (.bipush (-60), 2) := by decide +kernel
theorem dX12_transpose_10 : decode cX12_transpose 10 = .ok (.bipush 60, 2) := by decide +kernel
theorem dX12_transpose_12 : decode cX12_transpose 12 = .ok (.invokestatic 129, 3) := by decide +kernel
theorem dX12_transpose_15 : decode cX12_transpose 15 = .ok (.ifCond .ne 5, 3) := by decide +kernel
theorem dX12_transpose_18 : decode cX12_transpose 18 = .ok (.iconst (-1), 1) := by decide +kernel
theorem dX12_transpose_19 : decode cX12_transpose 19 = .ok (.ireturn, 1) := by decide +kernel
theorem dX12_transpose_20 : decode cX12_transpose 20 = .ok (.aload_n 0, 1) := by decide +kernel
theorem dX12_transpose_21 : decode cX12_transpose 21 = .ok (.iconst 0, 1) := by decide +kernel
theorem dX12_transpose_22 : decode cX12_transpose 22 = .ok (.putfield 126, 3) := by decide +kernel
theorem dX12_transpose_25 : decode cX12_transpose 25 = .ok (.aload_n 0, 1) := by decide +kernel
theorem dX12_transpose_26 : decode cX12_transpose 26 = .ok (.getfield 9, 3) := by decide +kernel
theorem dX12_transpose_29 : decode cX12_transpose 29 = .ok (.iload_n 1, 1) := by decide +kernel
theorem dX12_transpose_30 : decode cX12_transpose 30 = .ok (.baload, 1) := by decide +kernel
theorem dX12_transpose_31 : decode cX12_transpose 31 = .ok (.ifCond .ne 9, 3) := by decide +kernel
theorem dX12_transpose_34 : decode cX12_transpose 34 = .ok (.aload_n 0, 1) := by decide +kernel
theorem dX12_transpose_35 : decode cX12_transpose 35 = .ok (.iconst 1, 1) := by decide +kernel
theorem dX12_transpose_36 : decode cX12_transpose 36 = .ok (.invokevirtual 157, 3) := by decide +kernel
theorem dX12_transpose_39 : decode cX12_transpose 39 = .ok (.ireturn, 1) := by decide +kernel
theorem dX12_transpose_40 : decode cX12_transpose 40 = .ok (.iconst 0, 1) := by decide +kernel
theorem dX12_transpose_41 : decode cX12_transpose 41 = .ok (.istore_n 3, 1) := by decide +kernel
theorem dX12_transpose_42 : decode cX12_transpose 42 = .ok (.iconst 1, 1) := by decide +kernel
theorem dX12_transpose_43 : decode cX12_transpose 43 = .ok (.istore 4, 2) := by decide +kernel
theorem dX12_transpose_45 : decode cX12_transpose 45 = .ok (.iconst 0, 1) := by decide +kernel
theorem dX12_transpose_46 : decode cX12_transpose 46 = .ok (.istore 5, 2) := by decide +kernel
theorem dX12_transpose_48 : decode cX12_transpose 48 = .ok (.iload 5, 2) := by decide +kernel
theorem dX12_transpose_50 : decode cX12_transpose 50 = .ok (.aload_n 0, 1) := by decide +kernel
theorem dX12_transpose_51 : decode cX12_transpose 51 = .ok (.getfield 13, 3) := by decide +kernel
theorem dX12_transpose_54 : decode cX12_transpose 54 = .ok (.iconst 2, 1) := by decide +kernel
theorem dX12_transpose_55 : decode cX12_transpose 55 = .ok (.iload_n 1, 1) := by decide +kernel
theorem dX12_transpose_56 : decode cX12_transpose 56 = .ok (.imul, 1) := by decide +kernel
theorem dX12_transpose_57 : decode cX12_transpose 57 = .ok (.iaload, 1) := by decide +kernel
theorem dX12_transpose_58 : decode cX12_transpose 58 = .ok (.if_icmp .ge 61, 3) := by decide +kernel
theorem dX12_transpose_61 : decode cX12_transpose 61 = .ok (.aload_n 0, 1) := by decide +kernel
theorem dX12_transpose_62 : decode cX12_transpose 62 = .ok (.iload_n 1, 1) := by decide +kernel
theorem dX12_transpose_63 : decode cX12_transpose 63 = .ok (.iload 5, 2) := by decide +kernel
theorem dX12_transpose_65 : decode cX12_transpose 65 = .ok (.invokevirtual 150, 3) := by decide +kernel
theorem dX12_transpose_68 : decode cX12_transpose 68 = .ok (.istore 6, 2) := by decide +kernel
theorem dX12_transpose_70 : decode cX12_transpose 70 = .ok (.iload_n 3, 1) := by decide +kernel
theorem dX12_transpose_71 : decode cX12_transpose 71 = .ok (.iload 6, 2) := by decide +kernel
theorem dX12_transpose_73 : decode cX12_transpose 73 = .ok (.ifCond .le 7, 3) := by decide +kernel
theorem dX12_transpose_76 : decode cX12_transpose 76 = .ok (.iconst 1, 1) := by decide +kernel
theorem dX12_transpose_77 : decode cX12_transpose 77 = .ok (.goto 4, 3) := by decide +kernel
theorem dX12_transpose_80 : decode cX12_transpose 80 = .ok (.iconst 0, 1) := by decide +kernel
theorem dX12_transpose_81 : decode cX12_transpose 81 = .ok (.iadd, 1) := by decide +kernel
theorem dX12_transpose_82 : decode cX12_transpose 82 = .ok (.istore_n 3, 1) := by decide +kernel
theorem dX12_transpose_83 : decode cX12_transpose 83 = .ok (.iload 4, 2) := by decide +kernel
theorem dX12_transpose_85 : decode cX12_transpose 85 = .ok (.ifCond .eq 25, 3) := by decide +kernel
theorem dX12_transpose_88 : decode cX12_transpose 88 = .ok (.iload 6, 2) := by decide +kernel
theorem dX12_transpose_90 : decode cX12_transpose 90 = .ok (.ifCond .eq 16, 3) := by decide +kernel
theorem dX12_transpose_93 : decode cX12_transpose 93 = .ok (.iload 6, 2) := by decide +kernel
theorem dX12_transpose_95 : decode cX12_transpose 95 = .ok (.iload_n 2, 1) := by decide +kernel
theorem dX12_transpose_96 : decode cX12_transpose 96 = .ok (.iadd, 1) := by decide +kernel
theorem dX12_transpose_97 : decode cX12_transpose 97 = .ok (.iconst 1, 1) := by decide +kernel
theorem dX12_transpose_98 : decode cX12_transpose 98 = .ok (.bipush 120, 2) := by decide +kernel
theorem dX12_transpose_100 : decode cX12_transpose 100 = .ok (.invokestatic 129, 3) := by decide +kernel
theorem dX12_transpose_103 : decode cX12_transpose 103 = .ok (.ifCond .eq 7, 3) := by decide +kernel
theorem dX12_transpose_106 : decode cX12_transpose 106 = .ok (.iconst 1, 1) := by decide +kernel
theorem dX12_transpose_107 : decode cX12_transpose 107 = .ok (.goto 4, 3) := by decide +kernel
theorem dX12_transpose_110 : decode cX12_transpose 110 = .ok (.iconst 0, 1) := by decide +kernel
theorem dX12_transpose_111 : decode cX12_transpose 111 = .ok (.istore 4, 2) := by decide +kernel
theorem dX12_transpose_113 : decode cX12_transpose 113 = .ok (.iinc 5 1, 3) := by decide +kernel
theorem dX12_transpose_116 : decode cX12_transpose 116 = .ok (.goto (-68), 3) := by decide +kernel
theorem dX12_transpose_119 : decode cX12_transpose 119 = .ok (.iload 4, 2) := by decide +kernel
theorem dX12_transpose_121 : decode cX12_transpose 121 = .ok (.ifCond .ne 10, 3) := by decide +kernel
theorem dX12_transpose_124 : decode cX12_transpose 124 = .ok (.aload_n 0, 1) := by decide +kernel
theorem dX12_transpose_125 : decode cX12_transpose 125 = .ok (.bipush 6, 2) := by decide +kernel
theorem dX12_transpose_127 : decode cX12_transpose 127 = .ok (.invokevirtual 157, 3) := by decide +kernel
theorem dX12_transpose_130 : decode cX12_transpose 130 = .ok (.ireturn, 1) := by decide +kernel
theorem dX12_transpose_131 : decode cX12_transpose 131 = .ok (.aload_n 0, 1) := by decide +kernel
theorem dX12_transpose_132 : decode cX12_transpose 132 = .ok (.iload_n 1, 1) := by decide +kernel
theorem dX12_transpose_133 : decode cX12_transpose 133 = .ok (.invokevirtual 161, 3) := by decide +kernel
theorem dX12_transpose_136 : decode cX12_transpose 136 = .ok (.iconst 0, 1) := by decide +kernel
theorem dX12_transpose_137 : decode cX12_transpose 137 = .ok (.istore 5, 2) := by decide +kernel
theorem dX12_transpose_139 : decode cX12_transpose 139 = .ok (.iload 5, 2) := by decide +kernel
theorem dX12_transpose_141 : decode cX12_transpose 141 = .ok (.aload_n 0, 1) := by decide +kernel
theorem dX12_transpose_142 : decode cX12_transpose 142 = .ok (.getfield 13, 3) := by decide +kernel
theorem dX12_transpose_145 : decode cX12_transpose 145 = .ok (.iconst 2, 1) := by decide +kernel
theorem dX12_transpose_146 : decode cX12_transpose 146 = .ok (.iload_n 1, 1) := by decide +kernel
theorem dX12_transpose_147 : decode cX12_transpose 147 = .ok (.imul, 1) := by decide +kernel
theorem dX12_transpose_148 : decode cX12_transpose 148 = .ok (.iaload, 1) := by decide +kernel
theorem dX12_transpose_149 : decode cX12_transpose 149 = .ok (.if_icmp .ge 43, 3) := by decide +kernel
theorem dX12_transpose_152 : decode cX12_transpose 152 = .ok (.aload_n 0, 1) := by decide +kernel
theorem dX12_transpose_153 : decode cX12_transpose 153 = .ok (.iload_n 1, 1) := by decide +kernel
theorem dX12_transpose_154 : decode cX12_transpose 154 = .ok (.iload 5, 2) := by decide +kernel
theorem dX12_transpose_156 : decode cX12_transpose 156 = .ok (.invokevirtual 150, 3) := by decide +kernel
theorem dX12_transpose_159 : decode cX12_transpose 159 = .ok (.istore 6, 2) := by decide +kernel
theorem dX12_transpose_161 : decode cX12_transpose 161 = .ok (.aload_n 0, 1) := by decide +kernel
theorem dX12_transpose_162 : decode cX12_transpose 162 = .ok (.getfield 17, 3) := by decide +kernel
theorem dX12_transpose_165 : decode cX12_transpose 165 = .ok (.bipush 48, 2) := by decide +kernel
theorem dX12_transpose_167 : decode cX12_transpose 167 = .ok (.iload_n 1, 1) := by decide +kernel
theorem dX12_transpose_168 : decode cX12_transpose 168 = .ok (.imul, 1) := by decide +kernel
theorem dX12_transpose_169 : decode cX12_transpose 169 = .ok (.iload 5, 2) := by decide +kernel
theorem dX12_transpose_171 : decode cX12_transpose 171 = .ok (.iadd, 1) := by decide +kernel
theorem dX12_transpose_172 : decode cX12_transpose 172 = .ok (.iload 6, 2) := by decide +kernel
theorem dX12_transpose_174 : decode cX12_transpose 174 = .ok (.ifCond .le 10, 3) := by decide +kernel
theorem dX12_transpose_177 : decode cX12_transpose 177 = .ok (.iload 6, 2) := by decide +kernel
theorem dX12_transpose_179 : decode cX12_transpose 179 = .ok (.iload_n 2, 1) := by decide +kernel
theorem dX12_transpose_180 : decode cX12_transpose 180 = .ok (.iadd, 1) := by decide +kernel
theorem dX12_transpose_181 : decode cX12_transpose 181 = .ok (.goto 4, 3) := by decide +kernel
theorem dX12_transpose_184 : decode cX12_transpose 184 = .ok (.iconst 0, 1) := by decide +kernel
theorem dX12_transpose_185 : decode cX12_transpose 185 = .ok (.iastore, 1) := by decide +kernel
theorem dX12_transpose_186 : decode cX12_transpose 186 = .ok (.iinc 5 1, 3) := by decide +kernel
theorem dX12_transpose_189 : decode cX12_transpose 189 = .ok (.goto (-50), 3) := by decide +kernel
theorem dX12_transpose_192 : decode cX12_transpose 192 = .ok (.iload_n 3, 1) := by decide +kernel
theorem dX12_transpose_193 : decode cX12_transpose 193 = .ok (.ireturn, 1) := by decide +kernel
theorem dX12_copy_0 : decode cX12_copy 0 = .ok (.iload_n 1, 1) := by decide +kernel
theorem dX12_copy_1 : decode cX12_copy 1 = .ok (.invokestatic 153, 3) := by decide +kernel
theorem dX12_copy_4 : decode cX12_copy 4 = .ok (.ifCond .eq 10, 3) := by decide +kernel
theorem dX12_copy_7 : decode cX12_copy 7 = .ok (.iload_n 3, 1) := by decide +kernel
theorem dX12_copy_8 : decode cX12_copy 8 = .ok (.invokestatic 153, 3) := by decide +kernel
theorem dX12_copy_11 : decode cX12_copy 11 = .ok (.ifCond .ne 5, 3) := by decide +kernel
theorem dX12_copy_14 : decode cX12_copy 14 = .ok (.iconst (-1), 1) := by decide +kernel
theorem dX12_copy_15 : decode cX12_copy 15 = .ok (.ireturn, 1) := by decide +kernel
theorem dX12_copy_16 : decode cX12_copy 16 = .ok (.aload_n 0, 1) := by decide +kernel
theorem dX12_copy_17 : decode cX12_copy 17 = .ok (.iconst 0, 1) := by decide +kernel
theorem dX12_copy_18 : decode cX12_copy 18 = .ok (.putfield 126, 3) := by decide +kernel
theorem dX12_copy_21 : decode cX12_copy 21 = .ok (.aload_n 0, 1) := by decide +kernel
theorem dX12_copy_22 : decode cX12_copy 22 = .ok (.iconst 0, 1) := by decide +kernel
theorem dX12_copy_23 : decode cX12_copy 23 = .ok (.putfield 174, 3) := by decide +kernel
theorem dX12_copy_26 : decode cX12_copy 26 = .ok (.aload_n 0, 1) := by decide +kernel
theorem dX12_copy_27 : decode cX12_copy 27 = .ok (.getfield 9, 3) := by decide +kernel
theorem dX12_copy_30 : decode cX12_copy 30 = .ok (.iload_n 1, 1) := by decide +kernel
theorem dX12_copy_31 : decode cX12_copy 31 = .ok (.baload, 1) := by decide +kernel
theorem dX12_copy_32 : decode cX12_copy 32 = .ok (.ifCond .eq 12, 3) := by decide +kernel
theorem dX12_copy_35 : decode cX12_copy 35 = .ok (.aload_n 0, 1) := by decide +kernel
theorem dX12_copy_36 : decode cX12_copy 36 = .ok (.getfield 9, 3) := by decide +kernel
theorem dX12_copy_39 : decode cX12_copy 39 = .ok (.iload_n 3, 1) := by decide +kernel
theorem dX12_copy_40 : decode cX12_copy 40 = .ok (.baload, 1) := by decide +kernel
theorem dX12_copy_41 : decode cX12_copy 41 = .ok (.ifCond .ne 9, 3) := by decide +kernel
theorem dX12_copy_44 : decode cX12_copy 44 = .ok (.aload_n 0, 1) := by decide +kernel
theorem dX12_copy_45 : decode cX12_copy 45 = .ok (.iconst 1, 1) := by decide +kernel
theorem dX12_copy_46 : decode cX12_copy 46 = .ok (.invokevirtual 157, 3) := by decide +kernel
theorem dX12_copy_49 : decode cX12_copy 49 = .ok (.ireturn, 1) := by decide +kernel
theorem dX12_copy_50 : decode cX12_copy 50 = .ok (.aload_n 0, 1) := by decide +kernel
theorem dX12_copy_51 : decode cX12_copy 51 = .ok (.iconst 0, 1) := by decide +kernel
theorem dX12_copy_52 : decode cX12_copy 52 = .ok (.iload_n 1, 1) := by decide +kernel
theorem dX12_copy_53 : decode cX12_copy 53 = .ok (.iload_n 2, 1) := by decide +kernel
theorem dX12_copy_54 : decode cX12_copy 54 = .ok (.iload_n 3, 1) := by decide +kernel
theorem dX12_copy_55 : decode cX12_copy 55 = .ok (.iload 4, 2) := by decide +kernel
theorem dX12_copy_57 : decode cX12_copy 57 = .ok (.iload 5, 2) := by decide +kernel
theorem dX12_copy_59 : decode cX12_copy 59 = .ok (.invokevirtual 177, 3) := by decide +kernel
theorem dX12_copy_62 : decode cX12_copy 62 = .ok (.ifCond .eq 18, 3) := by decide +kernel
theorem dX12_copy_65 : decode cX12_copy 65 = .ok (.aload_n 0, 1) := by decide +kernel
theorem dX12_copy_66 : decode cX12_copy 66 = .ok (.iconst 1, 1) := by decide +kernel
theorem dX12_copy_67 : decode cX12_copy 67 = .ok (.iload_n 1, 1) := by decide +kernel
theorem dX12_copy_68 : decode cX12_copy 68 = .ok (.iload_n 2, 1) := by decide +kernel
theorem dX12_copy_69 : decode cX12_copy 69 = .ok (.iload_n 3, 1) := by decide +kernel
theorem dX12_copy_70 : decode cX12_copy 70 = .ok (.iload 4, 2) := by decide +kernel
theorem dX12_copy_72 : decode cX12_copy 72 = .ok (.iload 5, 2) := by decide +kernel
theorem dX12_copy_74 : decode cX12_copy 74 = .ok (.invokevirtual 177, 3) := by decide +kernel
theorem dX12_copy_77 : decode cX12_copy 77 = .ok (.ifCond .ne 9, 3) := by decide +kernel
theorem dX12_copy_80 : decode cX12_copy 80 = .ok (.aload_n 0, 1) := by decide +kernel
theorem dX12_copy_81 : decode cX12_copy 81 = .ok (.iconst 2, 1) := by decide +kernel
theorem dX12_copy_82 : decode cX12_copy 82 = .ok (.invokevirtual 157, 3) := by decide +kernel
theorem dX12_copy_85 : decode cX12_copy 85 = .ok (.ireturn, 1) := by decide +kernel
theorem dX12_copy_86 : decode cX12_copy 86 = .ok (.iload 5, 2) := by decide +kernel
theorem dX12_copy_88 : decode cX12_copy 88 = .ok (.ireturn, 1) := by decide +kernel
theorem dX12_undo_0 : decode cX12_undo 0 = .ok (.aload_n 0, 1) := by decide +kernel
theorem dX12_undo_1 : decode cX12_undo 1 = .ok (.iconst 0, 1) := by decide +kernel
theorem dX12_undo_2 : decode cX12_undo 2 = .ok (.putfield 126, 3) := by decide +kernel
theorem dX12_undo_5 : decode cX12_undo 5 = .ok (.aload_n 0, 1) := by decide +kernel
theorem dX12_undo_6 : decode cX12_undo 6 = .ok (.getfield 136, 3) := by decide +kernel
theorem dX12_undo_9 : decode cX12_undo 9 = .ok (.ifCond .ne 10, 3) := by decide +kernel
theorem dX12_undo_12 : decode cX12_undo 12 = .ok (.aload_n 0, 1) := by decide +kernel
theorem dX12_undo_13 : decode cX12_undo 13 = .ok (.bipush 7, 2) := by decide +kernel
theorem dX12_undo_15 : decode cX12_undo 15 = .ok (.invokevirtual 157, 3) := by decide +kernel
theorem dX12_undo_18 : decode cX12_undo 18 = .ok (.ireturn, 1) := by decide +kernel
theorem dX12_undo_19 : decode cX12_undo 19 = .ok (.aload_n 0, 1) := by decide +kernel
theorem dX12_undo_20 : decode cX12_undo 20 = .ok (.getfield 140, 3) := by decide +kernel
theorem dX12_undo_23 : decode cX12_undo 23 = .ok (.istore_n 1, 1) := by decide +kernel
theorem dX12_undo_24 : decode cX12_undo 24 = .ok (.aload_n 0, 1) := by decide +kernel
theorem dX12_undo_25 : decode cX12_undo 25 = .ok (.getfield 9, 3) := by decide +kernel
theorem dX12_undo_28 : decode cX12_undo 28 = .ok (.iload_n 1, 1) := by decide +kernel
theorem dX12_undo_29 : decode cX12_undo 29 = .ok (.aload_n 0, 1) := by decide +kernel
theorem dX12_undo_30 : decode cX12_undo 30 = .ok (.getfield 143, 3) := by decide +kernel
theorem dX12_undo_33 : decode cX12_undo 33 = .ok (.bastore, 1) := by decide +kernel
theorem dX12_undo_34 : decode cX12_undo 34 = .ok (.iconst 0, 1) := by decide +kernel
theorem dX12_undo_35 : decode cX12_undo 35 = .ok (.istore_n 2, 1) := by decide +kernel
theorem dX12_undo_36 : decode cX12_undo 36 = .ok (.iload_n 2, 1) := by decide +kernel
theorem dX12_undo_37 : decode cX12_undo 37 = .ok (.iconst 2, 1) := by decide +kernel
theorem dX12_undo_38 : decode cX12_undo 38 = .ok (.if_icmp .ge 65, 3) := by decide +kernel
theorem dX12_undo_41 : decode cX12_undo 41 = .ok (.aload_n 0, 1) := by decide +kernel
theorem dX12_undo_42 : decode cX12_undo 42 = .ok (.getfield 13, 3) := by decide +kernel
theorem dX12_undo_45 : decode cX12_undo 45 = .ok (.iconst 2, 1) := by decide +kernel
theorem dX12_undo_46 : decode cX12_undo 46 = .ok (.iload_n 1, 1) := by decide +kernel
theorem dX12_undo_47 : decode cX12_undo 47 = .ok (.imul, 1) := by decide +kernel
theorem dX12_undo_48 : decode cX12_undo 48 = .ok (.iload_n 2, 1) := by decide +kernel
theorem dX12_undo_49 : decode cX12_undo 49 = .ok (.iadd, 1) := by decide +kernel
theorem dX12_undo_50 : decode cX12_undo 50 = .ok (.aload_n 0, 1) := by decide +kernel
theorem dX12_undo_51 : decode cX12_undo 51 = .ok (.getfield 20, 3) := by decide +kernel
theorem dX12_undo_54 : decode cX12_undo 54 = .ok (.iload_n 2, 1) := by decide +kernel
theorem dX12_undo_55 : decode cX12_undo 55 = .ok (.iaload, 1) := by decide +kernel
theorem dX12_undo_56 : decode cX12_undo 56 = .ok (.iastore, 1) := by decide +kernel
theorem dX12_undo_57 : decode cX12_undo 57 = .ok (.iconst 0, 1) := by decide +kernel
theorem dX12_undo_58 : decode cX12_undo 58 = .ok (.istore_n 3, 1) := by decide +kernel
theorem dX12_undo_59 : decode cX12_undo 59 = .ok (.iload_n 3, 1) := by decide +kernel
theorem dX12_undo_60 : decode cX12_undo 60 = .ok (.bipush 24, 2) := by decide +kernel
theorem dX12_undo_62 : decode cX12_undo 62 = .ok (.if_icmp .ge 35, 3) := by decide +kernel
theorem dX12_undo_65 : decode cX12_undo 65 = .ok (.aload_n 0, 1) := by decide +kernel
theorem dX12_undo_66 : decode cX12_undo 66 = .ok (.getfield 17, 3) := by decide +kernel
theorem dX12_undo_69 : decode cX12_undo 69 = .ok (.bipush 24, 2) := by decide +kernel
theorem dX12_undo_71 : decode cX12_undo 71 = .ok (.iconst 2, 1) := by decide +kernel
theorem dX12_undo_72 : decode cX12_undo 72 = .ok (.iload_n 1, 1) := by decide +kernel
theorem dX12_undo_73 : decode cX12_undo 73 = .ok (.imul, 1) := by decide +kernel
theorem dX12_undo_74 : decode cX12_undo 74 = .ok (.iload_n 2, 1) := by decide +kernel
theorem dX12_undo_75 : decode cX12_undo 75 = .ok (.iadd, 1) := by decide +kernel
theorem dX12_undo_76 : decode cX12_undo 76 = .ok (.imul, 1) := by decide +kernel
theorem dX12_undo_77 : decode cX12_undo 77 = .ok (.iload_n 3, 1) := by decide +kernel
theorem dX12_undo_78 : decode cX12_undo 78 = .ok (.iadd, 1) := by decide +kernel
theorem dX12_undo_79 : decode cX12_undo 79 = .ok (.aload_n 0, 1) := by decide +kernel
theorem dX12_undo_80 : decode cX12_undo 80 = .ok (.getfield 23, 3) := by decide +kernel
theorem dX12_undo_83 : decode cX12_undo 83 = .ok (.bipush 24, 2) := by decide +kernel
theorem dX12_undo_85 : decode cX12_undo 85 = .ok (.iload_n 2, 1) := by decide +kernel
theorem dX12_undo_86 : decode cX12_undo 86 = .ok (.imul, 1) := by decide +kernel
theorem dX12_undo_87 : decode cX12_undo 87 = .ok (.iload_n 3, 1) := by decide +kernel
theorem dX12_undo_88 : decode cX12_undo 88 = .ok (.iadd, 1) := by decide +kernel
theorem dX12_undo_89 : decode cX12_undo 89 = .ok (.iaload, 1) := by decide +kernel
theorem dX12_undo_90 : decode cX12_undo 90 = .ok (.iastore, 1) := by decide +kernel
theorem dX12_undo_91 : decode cX12_undo 91 = .ok (.iinc 3 1, 3) := by decide +kernel
theorem dX12_undo_94 : decode cX12_undo 94 = .ok (.goto (-35), 3) := by decide +kernel
theorem dX12_undo_97 : decode cX12_undo 97 = .ok (.iinc 2 1, 3) := by decide +kernel
theorem dX12_undo_100 : decode cX12_undo 100 = .ok (.goto (-64), 3) := by decide +kernel
theorem dX12_undo_103 : decode cX12_undo 103 = .ok (.aload_n 0, 1) := by decide +kernel
theorem dX12_undo_104 : decode cX12_undo 104 = .ok (.iconst 0, 1) := by decide +kernel
theorem dX12_undo_105 : decode cX12_undo 105 = .ok (.putfield 136, 3) := by decide +kernel
theorem dX12_undo_108 : decode cX12_undo 108 = .ok (.iconst 1, 1) := by decide +kernel
theorem dX12_undo_109 : decode cX12_undo 109 = .ok (.ireturn, 1) := by decide +kernel
theorem dX12_rule_0 : decode cX12_rule 0 = .ok (.iload_n 1, 1) := by decide +kernel
theorem dX12_rule_1 : decode cX12_rule 1 = .ok (.invokestatic 181, 3) := by decide +kernel
theorem dX12_rule_4 : decode cX12_rule 4 = .ok (.ifCond .eq 12, 3) := by decide +kernel
theorem dX12_rule_7 : decode cX12_rule 7 = .ok (.iload_n 2, 1) := by decide +kernel
theorem dX12_rule_8 : decode cX12_rule 8 = .ok (.iconst 0, 1) := by decide +kernel
theorem dX12_rule_9 : decode cX12_rule 9 = .ok (.iconst 3, 1) := by decide +kernel
theorem dX12_rule_10 : decode cX12_rule 10 = .ok (.invokestatic 129, 3) := by decide +kernel
theorem dX12_rule_13 : decode cX12_rule 13 = .ok (.ifCond .ne 5, 3) := by decide +kernel
theorem dX12_rule_16 : decode cX12_rule 16 = .ok (.iconst (-1), 1) := by decide +kernel
theorem dX12_rule_17 : decode cX12_rule 17 = .ok (.ireturn, 1) := by decide +kernel
theorem dX12_rule_18 : decode cX12_rule 18 = .ok (.aload_n 0, 1) := by decide +kernel
theorem dX12_rule_19 : decode cX12_rule 19 = .ok (.iconst 0, 1) := by decide +kernel
theorem dX12_rule_20 : decode cX12_rule 20 = .ok (.putfield 126, 3) := by decide +kernel
theorem dX12_rule_23 : decode cX12_rule 23 = .ok (.aload_n 0, 1) := by decide +kernel
theorem dX12_rule_24 : decode cX12_rule 24 = .ok (.getfield 32, 3) := by decide +kernel
theorem dX12_rule_27 : decode cX12_rule 27 = .ok (.aload_n 0, 1) := by decide +kernel
theorem dX12_rule_28 : decode cX12_rule 28 = .ok (.getfield 184, 3) := by decide +kernel
theorem dX12_rule_31 : decode cX12_rule 31 = .ok (.iload_n 2, 1) := by decide +kernel
theorem dX12_rule_32 : decode cX12_rule 32 = .ok (.iastore, 1) := by decide +kernel
theorem dX12_rule_33 : decode cX12_rule 33 = .ok (.aload_n 0, 1) := by decide +kernel
theorem dX12_rule_34 : decode cX12_rule 34 = .ok (.getfield 53, 3) := by decide +kernel
theorem dX12_rule_37 : decode cX12_rule 37 = .ok (.iload_n 1, 1) := by decide +kernel
theorem dX12_rule_38 : decode cX12_rule 38 = .ok (.iconst 1, 1) := by decide +kernel
theorem dX12_rule_39 : decode cX12_rule 39 = .ok (.iastore, 1) := by decide +kernel
theorem dX12_rule_40 : decode cX12_rule 40 = .ok (.aload_n 0, 1) := by decide +kernel
theorem dX12_rule_41 : decode cX12_rule 41 = .ok (.getfield 56, 3) := by decide +kernel
theorem dX12_rule_44 : decode cX12_rule 44 = .ok (.iload_n 1, 1) := by decide +kernel
theorem dX12_rule_45 : decode cX12_rule 45 = .ok (.aload_n 0, 1) := by decide +kernel
theorem dX12_rule_46 : decode cX12_rule 46 = .ok (.getfield 184, 3) := by decide +kernel
theorem dX12_rule_49 : decode cX12_rule 49 = .ok (.iastore, 1) := by decide +kernel
theorem dX12_rule_50 : decode cX12_rule 50 = .ok (.aload_n 0, 1) := by decide +kernel
theorem dX12_rule_51 : decode cX12_rule 51 = .ok (.dup, 1) := by decide +kernel
theorem dX12_rule_52 : decode cX12_rule 52 = .ok (.getfield 184, 3) := by decide +kernel
theorem dX12_rule_55 : decode cX12_rule 55 = .ok (.iconst 1, 1) := by decide +kernel
theorem dX12_rule_56 : decode cX12_rule 56 = .ok (.iadd, 1) := by decide +kernel
theorem dX12_rule_57 : decode cX12_rule 57 = .ok (.putfield 184, 3) := by decide +kernel
theorem dX12_rule_60 : decode cX12_rule 60 = .ok (.iconst 1, 1) := by decide +kernel
theorem dX12_rule_61 : decode cX12_rule 61 = .ok (.ireturn, 1) := by decide +kernel
theorem dX12_school_0 : decode cX12_school 0 = .ok (.iload_n 1, 1) := by decide +kernel
theorem dX12_school_1 : decode cX12_school 1 = .ok (.invokestatic 181, 3) := by decide +kernel
theorem dX12_school_4 : decode cX12_school 4 = .ok (.ifCond .eq 18, 3) := by decide +kernel
theorem dX12_school_7 : decode cX12_school 7 = .ok (.iload_n 2, 1) := by decide +kernel
theorem dX12_school_8 : decode cX12_school 8 = .ok (.iconst 0, 1) := by decide +kernel
theorem dX12_school_9 : decode cX12_school 9 = .ok (.iconst 2, 1) := by decide +kernel
theorem dX12_school_10 : decode cX12_school 10 = .ok (.invokestatic 129, 3) := by decide +kernel
theorem dX12_school_13 : decode cX12_school 13 = .ok (.ifCond .eq 9, 3) := by decide +kernel
theorem dX12_school_16 : decode cX12_school 16 = .ok (.iload_n 3, 1) := by decide +kernel
theorem dX12_school_17 : decode cX12_school 17 = .ok (.bipush 8, 2) := by decide +kernel
theorem dX12_school_19 : decode cX12_school 19 = .ok (.if_icmp .le 5, 3) := by decide +kernel
theorem dX12_school_22 : decode cX12_school 22 = .ok (.iconst (-1), 1) := by decide +kernel
theorem dX12_school_23 : decode cX12_school 23 = .ok (.ireturn, 1) := by decide +kernel
theorem dX12_school_24 : decode cX12_school 24 = .ok (.aload_n 0, 1) := by decide +kernel
theorem dX12_school_25 : decode cX12_school 25 = .ok (.iconst 0, 1) := by decide +kernel
theorem dX12_school_26 : decode cX12_school 26 = .ok (.putfield 126, 3) := by decide +kernel
theorem dX12_school_29 : decode cX12_school 29 = .ok (.iload_n 3, 1) := by decide +kernel
theorem dX12_school_30 : decode cX12_school 30 = .ok (.ifCond .ge 9, 3) := by decide +kernel
theorem dX12_school_33 : decode cX12_school 33 = .ok (.aload_n 0, 1) := by decide +kernel
theorem dX12_school_34 : decode cX12_school 34 = .ok (.iconst 5, 1) := by decide +kernel
theorem dX12_school_35 : decode cX12_school 35 = .ok (.invokevirtual 157, 3) := by decide +kernel
theorem dX12_school_38 : decode cX12_school 38 = .ok (.ireturn, 1) := by decide +kernel
theorem dX12_school_39 : decode cX12_school 39 = .ok (.aload_n 0, 1) := by decide +kernel
theorem dX12_school_40 : decode cX12_school 40 = .ok (.getfield 44, 3) := by decide +kernel
theorem dX12_school_43 : decode cX12_school 43 = .ok (.aload_n 0, 1) := by decide +kernel
theorem dX12_school_44 : decode cX12_school 44 = .ok (.getfield 187, 3) := by decide +kernel
theorem dX12_school_47 : decode cX12_school 47 = .ok (.iload_n 2, 1) := by decide +kernel
theorem dX12_school_48 : decode cX12_school 48 = .ok (.iastore, 1) := by decide +kernel
theorem dX12_school_49 : decode cX12_school 49 = .ok (.aload_n 0, 1) := by decide +kernel
theorem dX12_school_50 : decode cX12_school 50 = .ok (.getfield 47, 3) := by decide +kernel
theorem dX12_school_53 : decode cX12_school 53 = .ok (.aload_n 0, 1) := by decide +kernel
theorem dX12_school_54 : decode cX12_school 54 = .ok (.getfield 187, 3) := by decide +kernel
theorem dX12_school_57 : decode cX12_school 57 = .ok (.iload_n 3, 1) := by decide +kernel
theorem dX12_school_58 : decode cX12_school 58 = .ok (.iastore, 1) := by decide +kernel
theorem dX12_school_59 : decode cX12_school 59 = .ok (.iconst 0, 1) := by decide +kernel
theorem dX12_school_60 : decode cX12_school 60 = .ok (.istore 4, 2) := by decide +kernel
theorem dX12_school_62 : decode cX12_school 62 = .ok (.iload 4, 2) := by decide +kernel
theorem dX12_school_64 : decode cX12_school 64 = .ok (.bipush 8, 2) := by decide +kernel
theorem dX12_school_66 : decode cX12_school 66 = .ok (.if_icmp .ge 25, 3) := by decide +kernel
theorem dX12_school_69 : decode cX12_school 69 = .ok (.aload_n 0, 1) := by decide +kernel
theorem dX12_school_70 : decode cX12_school 70 = .ok (.getfield 50, 3) := by decide +kernel
theorem dX12_school_73 : decode cX12_school 73 = .ok (.bipush 8, 2) := by decide +kernel
theorem dX12_school_75 : decode cX12_school 75 = .ok (.aload_n 0, 1) := by decide +kernel
theorem dX12_school_76 : decode cX12_school 76 = .ok (.getfield 187, 3) := by decide +kernel
theorem dX12_school_79 : decode cX12_school 79 = .ok (.imul, 1) := by decide +kernel
theorem dX12_school_80 : decode cX12_school 80 = .ok (.iload 4, 2) := by decide +kernel
theorem dX12_school_82 : decode cX12_school 82 = .ok (.iadd, 1) := by decide +kernel
theorem dX12_school_83 : decode cX12_school 83 = .ok (.iconst (-1), 1) := by decide +kernel
theorem dX12_school_84 : decode cX12_school 84 = .ok (.iastore, 1) := by decide +kernel
theorem dX12_school_85 : decode cX12_school 85 = .ok (.iinc 4 1, 3) := by decide +kernel
theorem dX12_school_88 : decode cX12_school 88 = .ok (.goto (-26), 3) := by decide +kernel
theorem dX12_school_91 : decode cX12_school 91 = .ok (.aload_n 0, 1) := by decide +kernel
theorem dX12_school_92 : decode cX12_school 92 = .ok (.getfield 53, 3) := by decide +kernel
theorem dX12_school_95 : decode cX12_school 95 = .ok (.iload_n 1, 1) := by decide +kernel
theorem dX12_school_96 : decode cX12_school 96 = .ok (.iconst 2, 1) := by decide +kernel
theorem dX12_school_97 : decode cX12_school 97 = .ok (.iastore, 1) := by decide +kernel
theorem dX12_school_98 : decode cX12_school 98 = .ok (.aload_n 0, 1) := by decide +kernel
theorem dX12_school_99 : decode cX12_school 99 = .ok (.getfield 56, 3) := by decide +kernel
theorem dX12_school_102 : decode cX12_school 102 = .ok (.iload_n 1, 1) := by decide +kernel
theorem dX12_school_103 : decode cX12_school 103 = .ok (.aload_n 0, 1) := by decide +kernel
theorem dX12_school_104 : decode cX12_school 104 = .ok (.getfield 187, 3) := by decide +kernel
theorem dX12_school_107 : decode cX12_school 107 = .ok (.iastore, 1) := by decide +kernel
theorem dX12_school_108 : decode cX12_school 108 = .ok (.aload_n 0, 1) := by decide +kernel
theorem dX12_school_109 : decode cX12_school 109 = .ok (.dup, 1) := by decide +kernel
theorem dX12_school_110 : decode cX12_school 110 = .ok (.getfield 187, 3) := by decide +kernel
theorem dX12_school_113 : decode cX12_school 113 = .ok (.iconst 1, 1) := by decide +kernel
theorem dX12_school_114 : decode cX12_school 114 = .ok (.iadd, 1) := by decide +kernel
theorem dX12_school_115 : decode cX12_school 115 = .ok (.putfield 187, 3) := by decide +kernel
theorem dX12_school_118 : decode cX12_school 118 = .ok (.iconst 1, 1) := by decide +kernel
theorem dX12_school_119 : decode cX12_school 119 = .ok (.ireturn, 1) := by decide +kernel
theorem dX12_clear_0 : decode cX12_clear 0 = .ok (.iload_n 1, 1) := by decide +kernel
theorem dX12_clear_1 : decode cX12_clear 1 = .ok (.invokestatic 181, 3) := by decide +kernel
theorem dX12_clear_4 : decode cX12_clear 4 = .ok (.ifCond .ne 5, 3) := by decide +kernel
theorem dX12_clear_7 : decode cX12_clear 7 = .ok (.iconst (-1), 1) := by decide +kernel
theorem dX12_clear_8 : decode cX12_clear 8 = .ok (.ireturn, 1) := by decide +kernel
theorem dX12_clear_9 : decode cX12_clear 9 = .ok (.aload_n 0, 1) := by decide +kernel
theorem dX12_clear_10 : decode cX12_clear 10 = .ok (.iconst 0, 1) := by decide +kernel
theorem dX12_clear_11 : decode cX12_clear 11 = .ok (.putfield 126, 3) := by decide +kernel
theorem dX12_clear_14 : decode cX12_clear 14 = .ok (.aload_n 0, 1) := by decide +kernel
theorem dX12_clear_15 : decode cX12_clear 15 = .ok (.getfield 53, 3) := by decide +kernel
theorem dX12_clear_18 : decode cX12_clear 18 = .ok (.iload_n 1, 1) := by decide +kernel
theorem dX12_clear_19 : decode cX12_clear 19 = .ok (.iaload, 1) := by decide +kernel
theorem dX12_clear_20 : decode cX12_clear 20 = .ok (.ifCond .le 7, 3) := by decide +kernel
theorem dX12_clear_23 : decode cX12_clear 23 = .ok (.iconst 1, 1) := by decide +kernel
theorem dX12_clear_24 : decode cX12_clear 24 = .ok (.goto 4, 3) := by decide +kernel
theorem dX12_clear_27 : decode cX12_clear 27 = .ok (.iconst 0, 1) := by decide +kernel
theorem dX12_clear_28 : decode cX12_clear 28 = .ok (.istore_n 2, 1) := by decide +kernel
theorem dX12_clear_29 : decode cX12_clear 29 = .ok (.aload_n 0, 1) := by decide +kernel
theorem dX12_clear_30 : decode cX12_clear 30 = .ok (.getfield 53, 3) := by decide +kernel
theorem dX12_clear_33 : decode cX12_clear 33 = .ok (.iload_n 1, 1) := by decide +kernel
theorem dX12_clear_34 : decode cX12_clear 34 = .ok (.iconst 0, 1) := by decide +kernel
theorem dX12_clear_35 : decode cX12_clear 35 = .ok (.iastore, 1) := by decide +kernel
theorem dX12_clear_36 : decode cX12_clear 36 = .ok (.iload_n 2, 1) := by decide +kernel
theorem dX12_clear_37 : decode cX12_clear 37 = .ok (.ireturn, 1) := by decide +kernel
theorem dX12_truth_0 : decode cX12_truth 0 = .ok (.iload_n 1, 1) := by decide +kernel
theorem dX12_truth_1 : decode cX12_truth 1 = .ok (.invokestatic 181, 3) := by decide +kernel
theorem dX12_truth_4 : decode cX12_truth 4 = .ok (.ifCond .eq 12, 3) := by decide +kernel
theorem dX12_truth_7 : decode cX12_truth 7 = .ok (.iload_n 2, 1) := by decide +kernel
theorem dX12_truth_8 : decode cX12_truth 8 = .ok (.iconst 0, 1) := by decide +kernel
theorem dX12_truth_9 : decode cX12_truth 9 = .ok (.iconst 2, 1) := by decide +kernel
theorem dX12_truth_10 : decode cX12_truth 10 = .ok (.invokestatic 129, 3) := by decide +kernel
theorem dX12_truth_13 : decode cX12_truth 13 = .ok (.ifCond .ne 5, 3) := by decide +kernel
theorem dX12_truth_16 : decode cX12_truth 16 = .ok (.iconst (-1), 1) := by decide +kernel
theorem dX12_truth_17 : decode cX12_truth 17 = .ok (.ireturn, 1) := by decide +kernel
theorem dX12_truth_18 : decode cX12_truth 18 = .ok (.aload_n 0, 1) := by decide +kernel
theorem dX12_truth_19 : decode cX12_truth 19 = .ok (.iconst 0, 1) := by decide +kernel
theorem dX12_truth_20 : decode cX12_truth 20 = .ok (.putfield 126, 3) := by decide +kernel
theorem dX12_truth_23 : decode cX12_truth 23 = .ok (.aload_n 0, 1) := by decide +kernel
theorem dX12_truth_24 : decode cX12_truth 24 = .ok (.getfield 53, 3) := by decide +kernel
theorem dX12_truth_27 : decode cX12_truth 27 = .ok (.iload_n 1, 1) := by decide +kernel
theorem dX12_truth_28 : decode cX12_truth 28 = .ok (.iaload, 1) := by decide +kernel
theorem dX12_truth_29 : decode cX12_truth 29 = .ok (.iconst 2, 1) := by decide +kernel
theorem dX12_truth_30 : decode cX12_truth 30 = .ok (.if_icmp .eq 27, 3) := by decide +kernel
theorem dX12_truth_33 : decode cX12_truth 33 = .ok (.aload_n 0, 1) := by decide +kernel
theorem dX12_truth_34 : decode cX12_truth 34 = .ok (.getfield 53, 3) := by decide +kernel
theorem dX12_truth_37 : decode cX12_truth 37 = .ok (.iload_n 1, 1) := by decide +kernel
theorem dX12_truth_38 : decode cX12_truth 38 = .ok (.iaload, 1) := by decide +kernel
theorem dX12_truth_39 : decode cX12_truth 39 = .ok (.iconst 1, 1) := by decide +kernel
theorem dX12_truth_40 : decode cX12_truth 40 = .ok (.if_icmp .ne 23, 3) := by decide +kernel
theorem dX12_truth_43 : decode cX12_truth 43 = .ok (.aload_n 0, 1) := by decide +kernel
theorem dX12_truth_44 : decode cX12_truth 44 = .ok (.aload_n 0, 1) := by decide +kernel
theorem dX12_truth_45 : decode cX12_truth 45 = .ok (.getfield 56, 3) := by decide +kernel
theorem dX12_truth_48 : decode cX12_truth 48 = .ok (.iload_n 1, 1) := by decide +kernel
theorem dX12_truth_49 : decode cX12_truth 49 = .ok (.iaload, 1) := by decide +kernel
theorem dX12_truth_50 : decode cX12_truth 50 = .ok (.iload_n 2, 1) := by decide +kernel
theorem dX12_truth_51 : decode cX12_truth 51 = .ok (.invokevirtual 190, 3) := by decide +kernel
theorem dX12_truth_54 : decode cX12_truth 54 = .ok (.ifCond .ne 9, 3) := by decide +kernel
theorem dX12_truth_57 : decode cX12_truth 57 = .ok (.aload_n 0, 1) := by decide +kernel
theorem dX12_truth_58 : decode cX12_truth 58 = .ok (.iconst 3, 1) := by decide +kernel
theorem dX12_truth_59 : decode cX12_truth 59 = .ok (.invokevirtual 157, 3) := by decide +kernel
theorem dX12_truth_62 : decode cX12_truth 62 = .ok (.ireturn, 1) := by decide +kernel
theorem dX12_truth_63 : decode cX12_truth 63 = .ok (.aload_n 0, 1) := by decide +kernel
theorem dX12_truth_64 : decode cX12_truth 64 = .ok (.getfield 53, 3) := by decide +kernel
theorem dX12_truth_67 : decode cX12_truth 67 = .ok (.iload_n 1, 1) := by decide +kernel
theorem dX12_truth_68 : decode cX12_truth 68 = .ok (.iaload, 1) := by decide +kernel
theorem dX12_truth_69 : decode cX12_truth 69 = .ok (.ifCond .ne 9, 3) := by decide +kernel
theorem dX12_truth_72 : decode cX12_truth 72 = .ok (.aload_n 0, 1) := by decide +kernel
theorem dX12_truth_73 : decode cX12_truth 73 = .ok (.iconst 1, 1) := by decide +kernel
theorem dX12_truth_74 : decode cX12_truth 74 = .ok (.invokevirtual 157, 3) := by decide +kernel
theorem dX12_truth_77 : decode cX12_truth 77 = .ok (.ireturn, 1) := by decide +kernel
theorem dX12_truth_78 : decode cX12_truth 78 = .ok (.iload_n 2, 1) := by decide +kernel
theorem dX12_truth_79 : decode cX12_truth 79 = .ok (.ifCond .ne 8, 3) := by decide +kernel
theorem dX12_truth_82 : decode cX12_truth 82 = .ok (.bipush 12, 2) := by decide +kernel
theorem dX12_truth_84 : decode cX12_truth 84 = .ok (.goto 15, 3) := by decide +kernel
theorem dX12_truth_87 : decode cX12_truth 87 = .ok (.iload_n 2, 1) := by decide +kernel
theorem dX12_truth_88 : decode cX12_truth 88 = .ok (.iconst 1, 1) := by decide +kernel
theorem dX12_truth_89 : decode cX12_truth 89 = .ok (.if_icmp .ne 8, 3) := by decide +kernel
theorem dX12_truth_92 : decode cX12_truth 92 = .ok (.bipush 48, 2) := by decide +kernel
theorem dX12_truth_94 : decode cX12_truth 94 = .ok (.goto 5, 3) := by decide +kernel
theorem dX12_truth_97 : decode cX12_truth 97 = .ok (.bipush 25, 2) := by decide +kernel
theorem dX12_truth_99 : decode cX12_truth 99 = .ok (.istore 5, 2) := by decide +kernel
theorem dX12_truth_101 : decode cX12_truth 101 = .ok (.iload_n 3, 1) := by decide +kernel
theorem dX12_truth_102 : decode cX12_truth 102 = .ok (.iconst 0, 1) := by decide +kernel
theorem dX12_truth_103 : decode cX12_truth 103 = .ok (.iload 5, 2) := by decide +kernel
theorem dX12_truth_105 : decode cX12_truth 105 = .ok (.iconst 1, 1) := by decide +kernel
theorem dX12_truth_106 : decode cX12_truth 106 = .ok (.isub, 1) := by decide +kernel
theorem dX12_truth_107 : decode cX12_truth 107 = .ok (.invokestatic 129, 3) := by decide +kernel
theorem dX12_truth_110 : decode cX12_truth 110 = .ok (.ifCond .ne 9, 3) := by decide +kernel
theorem dX12_truth_113 : decode cX12_truth 113 = .ok (.aload_n 0, 1) := by decide +kernel
theorem dX12_truth_114 : decode cX12_truth 114 = .ok (.iconst 2, 1) := by decide +kernel
theorem dX12_truth_115 : decode cX12_truth 115 = .ok (.invokevirtual 157, 3) := by decide +kernel
theorem dX12_truth_118 : decode cX12_truth 118 = .ok (.ireturn, 1) := by decide +kernel
theorem dX12_truth_119 : decode cX12_truth 119 = .ok (.aload_n 0, 1) := by decide +kernel
theorem dX12_truth_120 : decode cX12_truth 120 = .ok (.iload_n 2, 1) := by decide +kernel
theorem dX12_truth_121 : decode cX12_truth 121 = .ok (.ifCond .ne 10, 3) := by decide +kernel
theorem dX12_truth_124 : decode cX12_truth 124 = .ok (.aload_n 0, 1) := by decide +kernel
theorem dX12_truth_125 : decode cX12_truth 125 = .ok (.getfield 35, 3) := by decide +kernel
theorem dX12_truth_128 : decode cX12_truth 128 = .ok (.goto 19, 3) := by decide +kernel
theorem dX12_truth_131 : decode cX12_truth 131 = .ok (.iload_n 2, 1) := by decide +kernel
theorem dX12_truth_132 : decode cX12_truth 132 = .ok (.iconst 1, 1) := by decide +kernel
theorem dX12_truth_133 : decode cX12_truth 133 = .ok (.if_icmp .ne 10, 3) := by decide +kernel
theorem dX12_truth_136 : decode cX12_truth 136 = .ok (.aload_n 0, 1) := by decide +kernel
theorem dX12_truth_137 : decode cX12_truth 137 = .ok (.getfield 38, 3) := by decide +kernel
theorem dX12_truth_140 : decode cX12_truth 140 = .ok (.goto 7, 3) := by decide +kernel
theorem dX12_truth_143 : decode cX12_truth 143 = .ok (.aload_n 0, 1) := by decide +kernel
theorem dX12_truth_144 : decode cX12_truth 144 = .ok (.getfield 41, 3) := by decide +kernel
theorem dX12_truth_147 : decode cX12_truth 147 = .ok (.iload 5, 2) := by decide +kernel
theorem dX12_truth_149 : decode cX12_truth 149 = .ok (.aload_n 0, 1) := by decide +kernel
theorem dX12_truth_150 : decode cX12_truth 150 = .ok (.getfield 56, 3) := by decide +kernel
theorem dX12_truth_153 : decode cX12_truth 153 = .ok (.iload_n 1, 1) := by decide +kernel
theorem dX12_truth_154 : decode cX12_truth 154 = .ok (.iaload, 1) := by decide +kernel
theorem dX12_truth_155 : decode cX12_truth 155 = .ok (.imul, 1) := by decide +kernel
theorem dX12_truth_156 : decode cX12_truth 156 = .ok (.iload_n 3, 1) := by decide +kernel
theorem dX12_truth_157 : decode cX12_truth 157 = .ok (.iadd, 1) := by decide +kernel
theorem dX12_truth_158 : decode cX12_truth 158 = .ok (.iload 4, 2) := by decide +kernel
theorem dX12_truth_160 : decode cX12_truth 160 = .ok (.invokevirtual 194, 3) := by decide +kernel
theorem dX12_truth_163 : decode cX12_truth 163 = .ok (.ireturn, 1) := by decide +kernel
theorem dX12_is_0 : decode cX12_is 0 = .ok (.iload_n 1, 1) := by decide +kernel
theorem dX12_is_1 : decode cX12_is 1 = .ok (.invokestatic 181, 3) := by decide +kernel
theorem dX12_is_4 : decode cX12_is 4 = .ok (.ifCond .eq 12, 3) := by decide +kernel
theorem dX12_is_7 : decode cX12_is 7 = .ok (.iload_n 2, 1) := by decide +kernel
theorem dX12_is_8 : decode cX12_is 8 = .ok (.iconst 0, 1) := by decide +kernel
theorem dX12_is_9 : decode cX12_is 9 = .ok (.iconst 4, 1) := by decide +kernel
theorem dX12_is_10 : decode cX12_is 10 = .ok (.invokestatic 129, 3) := by decide +kernel
theorem dX12_is_13 : decode cX12_is 13 = .ok (.ifCond .ne 5, 3) := by decide +kernel
theorem dX12_is_16 : decode cX12_is 16 = .ok (.iconst (-1), 1) := by decide +kernel
theorem dX12_is_17 : decode cX12_is 17 = .ok (.ireturn, 1) := by decide +kernel
theorem dX12_is_18 : decode cX12_is 18 = .ok (.aload_n 0, 1) := by decide +kernel
theorem dX12_is_19 : decode cX12_is 19 = .ok (.iconst 0, 1) := by decide +kernel
theorem dX12_is_20 : decode cX12_is 20 = .ok (.putfield 126, 3) := by decide +kernel
theorem dX12_is_23 : decode cX12_is 23 = .ok (.iload_n 2, 1) := by decide +kernel
theorem dX12_is_24 : decode cX12_is 24 = .ok (.iconst 4, 1) := by decide +kernel
theorem dX12_is_25 : decode cX12_is 25 = .ok (.if_icmp .ne 21, 3) := by decide +kernel
theorem dX12_is_28 : decode cX12_is 28 = .ok (.aload_n 0, 1) := by decide +kernel
theorem dX12_is_29 : decode cX12_is 29 = .ok (.getfield 53, 3) := by decide +kernel
theorem dX12_is_32 : decode cX12_is 32 = .ok (.iload_n 1, 1) := by decide +kernel
theorem dX12_is_33 : decode cX12_is 33 = .ok (.iaload, 1) := by decide +kernel
theorem dX12_is_34 : decode cX12_is 34 = .ok (.iconst 2, 1) := by decide +kernel
theorem dX12_is_35 : decode cX12_is 35 = .ok (.if_icmp .ne 7, 3) := by decide +kernel
theorem dX12_is_38 : decode cX12_is 38 = .ok (.iconst 1, 1) := by decide +kernel
theorem dX12_is_39 : decode cX12_is 39 = .ok (.goto 36, 3) := by decide +kernel
theorem dX12_is_42 : decode cX12_is 42 = .ok (.iconst 0, 1) := by decide +kernel
theorem dX12_is_43 : decode cX12_is 43 = .ok (.goto 32, 3) := by decide +kernel
theorem dX12_is_46 : decode cX12_is 46 = .ok (.aload_n 0, 1) := by decide +kernel
theorem dX12_is_47 : decode cX12_is 47 = .ok (.getfield 53, 3) := by decide +kernel
theorem dX12_is_50 : decode cX12_is 50 = .ok (.iload_n 1, 1) := by decide +kernel
theorem dX12_is_51 : decode cX12_is 51 = .ok (.iaload, 1) := by decide +kernel
theorem dX12_is_52 : decode cX12_is 52 = .ok (.iconst 1, 1) := by decide +kernel
theorem dX12_is_53 : decode cX12_is 53 = .ok (.if_icmp .ne 21, 3) := by decide +kernel
theorem dX12_is_56 : decode cX12_is 56 = .ok (.aload_n 0, 1) := by decide +kernel
theorem dX12_is_57 : decode cX12_is 57 = .ok (.aload_n 0, 1) := by decide +kernel
theorem dX12_is_58 : decode cX12_is 58 = .ok (.getfield 56, 3) := by decide +kernel
theorem dX12_is_61 : decode cX12_is 61 = .ok (.iload_n 1, 1) := by decide +kernel
theorem dX12_is_62 : decode cX12_is 62 = .ok (.iaload, 1) := by decide +kernel
theorem dX12_is_63 : decode cX12_is 63 = .ok (.iload_n 2, 1) := by decide +kernel
theorem dX12_is_64 : decode cX12_is 64 = .ok (.invokevirtual 190, 3) := by decide +kernel
theorem dX12_is_67 : decode cX12_is 67 = .ok (.ifCond .eq 7, 3) := by decide +kernel
theorem dX12_is_70 : decode cX12_is 70 = .ok (.iconst 1, 1) := by decide +kernel
theorem dX12_is_71 : decode cX12_is 71 = .ok (.goto 4, 3) := by decide +kernel
theorem dX12_is_74 : decode cX12_is 74 = .ok (.iconst 0, 1) := by decide +kernel
theorem dX12_is_75 : decode cX12_is 75 = .ok (.istore_n 3, 1) := by decide +kernel
theorem dX12_is_76 : decode cX12_is 76 = .ok (.iload_n 3, 1) := by decide +kernel
theorem dX12_is_77 : decode cX12_is 77 = .ok (.ifCond .eq 7, 3) := by decide +kernel
theorem dX12_is_80 : decode cX12_is 80 = .ok (.iconst 1, 1) := by decide +kernel
theorem dX12_is_81 : decode cX12_is 81 = .ok (.goto 4, 3) := by decide +kernel
theorem dX12_is_84 : decode cX12_is 84 = .ok (.iconst 0, 1) := by decide +kernel
theorem dX12_is_85 : decode cX12_is 85 = .ok (.ireturn, 1) := by decide +kernel
theorem dX12_seat_0 : decode cX12_seat 0 = .ok (.iload_n 1, 1) := by decide +kernel
theorem dX12_seat_1 : decode cX12_seat 1 = .ok (.invokestatic 181, 3) := by decide +kernel
theorem dX12_seat_4 : decode cX12_seat 4 = .ok (.ifCond .eq 10, 3) := by decide +kernel
theorem dX12_seat_7 : decode cX12_seat 7 = .ok (.iload_n 3, 1) := by decide +kernel
theorem dX12_seat_8 : decode cX12_seat 8 = .ok (.invokestatic 181, 3) := by decide +kernel
theorem dX12_seat_11 : decode cX12_seat 11 = .ok (.ifCond .ne 5, 3) := by decide +kernel
theorem dX12_seat_14 : decode cX12_seat 14 = .ok (.iconst (-1), 1) := by decide +kernel
theorem dX12_seat_15 : decode cX12_seat 15 = .ok (.ireturn, 1) := by decide +kernel
theorem dX12_seat_16 : decode cX12_seat 16 = .ok (.aload_n 0, 1) := by decide +kernel
theorem dX12_seat_17 : decode cX12_seat 17 = .ok (.iconst 0, 1) := by decide +kernel
theorem dX12_seat_18 : decode cX12_seat 18 = .ok (.putfield 126, 3) := by decide +kernel
theorem dX12_seat_21 : decode cX12_seat 21 = .ok (.aload_n 0, 1) := by decide +kernel
theorem dX12_seat_22 : decode cX12_seat 22 = .ok (.getfield 53, 3) := by decide +kernel
theorem dX12_seat_25 : decode cX12_seat 25 = .ok (.iload_n 1, 1) := by decide +kernel
theorem dX12_seat_26 : decode cX12_seat 26 = .ok (.iaload, 1) := by decide +kernel
theorem dX12_seat_27 : decode cX12_seat 27 = .ok (.iconst 1, 1) := by decide +kernel
theorem dX12_seat_28 : decode cX12_seat 28 = .ok (.if_icmp .eq 13, 3) := by decide +kernel
theorem dX12_seat_31 : decode cX12_seat 31 = .ok (.aload_n 0, 1) := by decide +kernel
theorem dX12_seat_32 : decode cX12_seat 32 = .ok (.getfield 53, 3) := by decide +kernel
theorem dX12_seat_35 : decode cX12_seat 35 = .ok (.iload_n 3, 1) := by decide +kernel
theorem dX12_seat_36 : decode cX12_seat 36 = .ok (.iaload, 1) := by decide +kernel
theorem dX12_seat_37 : decode cX12_seat 37 = .ok (.iconst 2, 1) := by decide +kernel
theorem dX12_seat_38 : decode cX12_seat 38 = .ok (.if_icmp .ne 9, 3) := by decide +kernel
theorem dX12_seat_41 : decode cX12_seat 41 = .ok (.aload_n 0, 1) := by decide +kernel
theorem dX12_seat_42 : decode cX12_seat 42 = .ok (.iconst 3, 1) := by decide +kernel
theorem dX12_seat_43 : decode cX12_seat 43 = .ok (.invokevirtual 157, 3) := by decide +kernel
theorem dX12_seat_46 : decode cX12_seat 46 = .ok (.ireturn, 1) := by decide +kernel
theorem dX12_seat_47 : decode cX12_seat 47 = .ok (.aload_n 0, 1) := by decide +kernel
theorem dX12_seat_48 : decode cX12_seat 48 = .ok (.getfield 53, 3) := by decide +kernel
theorem dX12_seat_51 : decode cX12_seat 51 = .ok (.iload_n 1, 1) := by decide +kernel
theorem dX12_seat_52 : decode cX12_seat 52 = .ok (.iaload, 1) := by decide +kernel
theorem dX12_seat_53 : decode cX12_seat 53 = .ok (.ifCond .ne 9, 3) := by decide +kernel
theorem dX12_seat_56 : decode cX12_seat 56 = .ok (.aload_n 0, 1) := by decide +kernel
theorem dX12_seat_57 : decode cX12_seat 57 = .ok (.iconst 1, 1) := by decide +kernel
theorem dX12_seat_58 : decode cX12_seat 58 = .ok (.invokevirtual 157, 3) := by decide +kernel
theorem dX12_seat_61 : decode cX12_seat 61 = .ok (.ireturn, 1) := by decide +kernel
theorem dX12_seat_62 : decode cX12_seat 62 = .ok (.aload_n 0, 1) := by decide +kernel
theorem dX12_seat_63 : decode cX12_seat 63 = .ok (.getfield 56, 3) := by decide +kernel
theorem dX12_seat_66 : decode cX12_seat 66 = .ok (.iload_n 1, 1) := by decide +kernel
theorem dX12_seat_67 : decode cX12_seat 67 = .ok (.iaload, 1) := by decide +kernel
theorem dX12_seat_68 : decode cX12_seat 68 = .ok (.istore 4, 2) := by decide +kernel
theorem dX12_seat_70 : decode cX12_seat 70 = .ok (.iload_n 2, 1) := by decide +kernel
theorem dX12_seat_71 : decode cX12_seat 71 = .ok (.iconst 0, 1) := by decide +kernel
theorem dX12_seat_72 : decode cX12_seat 72 = .ok (.aload_n 0, 1) := by decide +kernel
theorem dX12_seat_73 : decode cX12_seat 73 = .ok (.getfield 47, 3) := by decide +kernel
theorem dX12_seat_76 : decode cX12_seat 76 = .ok (.iload 4, 2) := by decide +kernel
theorem dX12_seat_78 : decode cX12_seat 78 = .ok (.iaload, 1) := by decide +kernel
theorem dX12_seat_79 : decode cX12_seat 79 = .ok (.iconst 1, 1) := by decide +kernel
theorem dX12_seat_80 : decode cX12_seat 80 = .ok (.isub, 1) := by decide +kernel
theorem dX12_seat_81 : decode cX12_seat 81 = .ok (.invokestatic 129, 3) := by decide +kernel
theorem dX12_seat_84 : decode cX12_seat 84 = .ok (.ifCond .ne 9, 3) := by decide +kernel
theorem dX12_seat_87 : decode cX12_seat 87 = .ok (.aload_n 0, 1) := by decide +kernel
theorem dX12_seat_88 : decode cX12_seat 88 = .ok (.iconst 2, 1) := by decide +kernel
theorem dX12_seat_89 : decode cX12_seat 89 = .ok (.invokevirtual 157, 3) := by decide +kernel
theorem dX12_seat_92 : decode cX12_seat 92 = .ok (.ireturn, 1) := by decide +kernel
theorem dX12_seat_93 : decode cX12_seat 93 = .ok (.aload_n 0, 1) := by decide +kernel
theorem dX12_seat_94 : decode cX12_seat 94 = .ok (.getfield 53, 3) := by decide +kernel
theorem dX12_seat_97 : decode cX12_seat 97 = .ok (.iload_n 3, 1) := by decide +kernel
theorem dX12_seat_98 : decode cX12_seat 98 = .ok (.iaload, 1) := by decide +kernel
theorem dX12_seat_99 : decode cX12_seat 99 = .ok (.ifCond .ne 7, 3) := by decide +kernel
theorem dX12_seat_102 : decode cX12_seat 102 = .ok (.iconst (-1), 1) := by decide +kernel
theorem dX12_seat_103 : decode cX12_seat 103 = .ok (.goto 9, 3) := by decide +kernel
theorem dX12_seat_106 : decode cX12_seat 106 = .ok (.aload_n 0, 1) := by decide +kernel
theorem dX12_seat_107 : decode cX12_seat 107 = .ok (.getfield 56, 3) := by decide +kernel
theorem dX12_seat_110 : decode cX12_seat 110 = .ok (.iload_n 3, 1) := by decide +kernel
theorem dX12_seat_111 : decode cX12_seat 111 = .ok (.iaload, 1) := by decide +kernel
theorem dX12_seat_112 : decode cX12_seat 112 = .ok (.istore 5, 2) := by decide +kernel
theorem dX12_seat_114 : decode cX12_seat 114 = .ok (.iload 5, 2) := by decide +kernel
theorem dX12_seat_116 : decode cX12_seat 116 = .ok (.ifCond .lt 44, 3) := by decide +kernel
theorem dX12_seat_119 : decode cX12_seat 119 = .ok (.aload_n 0, 1) := by decide +kernel
theorem dX12_seat_120 : decode cX12_seat 120 = .ok (.getfield 44, 3) := by decide +kernel
theorem dX12_seat_123 : decode cX12_seat 123 = .ok (.iload 4, 2) := by decide +kernel
theorem dX12_seat_125 : decode cX12_seat 125 = .ok (.iaload, 1) := by decide +kernel
theorem dX12_seat_126 : decode cX12_seat 126 = .ok (.ifCond .le 34, 3) := by decide +kernel
theorem dX12_seat_129 : decode cX12_seat 129 = .ok (.aload_n 0, 1) := by decide +kernel
theorem dX12_seat_130 : decode cX12_seat 130 = .ok (.iload 5, 2) := by decide +kernel
theorem dX12_seat_132 : decode cX12_seat 132 = .ok (.aload_n 0, 1) := by decide +kernel
theorem dX12_seat_133 : decode cX12_seat 133 = .ok (.getfield 44, 3) := by decide +kernel
theorem dX12_seat_136 : decode cX12_seat 136 = .ok (.iload 4, 2) := by decide +kernel
theorem dX12_seat_138 : decode cX12_seat 138 = .ok (.iaload, 1) := by decide +kernel
theorem dX12_seat_139 : decode cX12_seat 139 = .ok (.iconst 1, 1) := by decide +kernel
theorem dX12_seat_140 : decode cX12_seat 140 = .ok (.if_icmp .ne 7, 3) := by decide +kernel
theorem dX12_seat_143 : decode cX12_seat 143 = .ok (.iconst 0, 1) := by decide +kernel
theorem dX12_seat_144 : decode cX12_seat 144 = .ok (.goto 4, 3) := by decide +kernel
theorem dX12_seat_147 : decode cX12_seat 147 = .ok (.iconst 2, 1) := by decide +kernel
theorem dX12_seat_148 : decode cX12_seat 148 = .ok (.invokevirtual 190, 3) := by decide +kernel
theorem dX12_seat_151 : decode cX12_seat 151 = .ok (.ifCond .ne 9, 3) := by decide +kernel
theorem dX12_seat_154 : decode cX12_seat 154 = .ok (.aload_n 0, 1) := by decide +kernel
theorem dX12_seat_155 : decode cX12_seat 155 = .ok (.iconst 4, 1) := by decide +kernel
theorem dX12_seat_156 : decode cX12_seat 156 = .ok (.invokevirtual 157, 3) := by decide +kernel
theorem dX12_seat_159 : decode cX12_seat 159 = .ok (.ireturn, 1) := by decide +kernel
theorem dX12_seat_160 : decode cX12_seat 160 = .ok (.aload_n 0, 1) := by decide +kernel
theorem dX12_seat_161 : decode cX12_seat 161 = .ok (.getfield 50, 3) := by decide +kernel
theorem dX12_seat_164 : decode cX12_seat 164 = .ok (.bipush 8, 2) := by decide +kernel
theorem dX12_seat_166 : decode cX12_seat 166 = .ok (.iload 4, 2) := by decide +kernel
theorem dX12_seat_168 : decode cX12_seat 168 = .ok (.imul, 1) := by decide +kernel
theorem dX12_seat_169 : decode cX12_seat 169 = .ok (.iload_n 2, 1) := by decide +kernel
theorem dX12_seat_170 : decode cX12_seat 170 = .ok (.iadd, 1) := by decide +kernel
theorem dX12_seat_171 : decode cX12_seat 171 = .ok (.iload 5, 2) := by decide +kernel
theorem dX12_seat_173 : decode cX12_seat 173 = .ok (.iastore, 1) := by decide +kernel
theorem dX12_seat_174 : decode cX12_seat 174 = .ok (.iconst 1, 1) := by decide +kernel
theorem dX12_seat_175 : decode cX12_seat 175 = .ok (.ireturn, 1) := by decide +kernel
theorem dX12_seated_0 : decode cX12_seated 0 = .ok (.iload_n 1, 1) := by decide +kernel
theorem dX12_seated_1 : decode cX12_seated 1 = .ok (.invokestatic 181, 3) := by decide +kernel
theorem dX12_seated_4 : decode cX12_seated 4 = .ok (.ifCond .ne 5, 3) := by decide +kernel
theorem dX12_seated_7 : decode cX12_seated 7 = .ok (.iconst (-1), 1) := by decide +kernel
theorem dX12_seated_8 : decode cX12_seated 8 = .ok (.ireturn, 1) := by decide +kernel
theorem dX12_seated_9 : decode cX12_seated 9 = .ok (.aload_n 0, 1) := by decide +kernel
theorem dX12_seated_10 : decode cX12_seated 10 = .ok (.iconst 0, 1) := by decide +kernel
theorem dX12_seated_11 : decode cX12_seated 11 = .ok (.putfield 126, 3) := by decide +kernel
theorem dX12_seated_14 : decode cX12_seated 14 = .ok (.aload_n 0, 1) := by decide +kernel
theorem dX12_seated_15 : decode cX12_seated 15 = .ok (.getfield 53, 3) := by decide +kernel
theorem dX12_seated_18 : decode cX12_seated 18 = .ok (.iload_n 1, 1) := by decide +kernel
theorem dX12_seated_19 : decode cX12_seated 19 = .ok (.iaload, 1) := by decide +kernel
theorem dX12_seated_20 : decode cX12_seated 20 = .ok (.iconst 1, 1) := by decide +kernel
theorem dX12_seated_21 : decode cX12_seated 21 = .ok (.if_icmp .ne 9, 3) := by decide +kernel
theorem dX12_seated_24 : decode cX12_seated 24 = .ok (.aload_n 0, 1) := by decide +kernel
theorem dX12_seated_25 : decode cX12_seated 25 = .ok (.iconst 3, 1) := by decide +kernel
theorem dX12_seated_26 : decode cX12_seated 26 = .ok (.invokevirtual 157, 3) := by decide +kernel
theorem dX12_seated_29 : decode cX12_seated 29 = .ok (.ireturn, 1) := by decide +kernel
theorem dX12_seated_30 : decode cX12_seated 30 = .ok (.aload_n 0, 1) := by decide +kernel
theorem dX12_seated_31 : decode cX12_seated 31 = .ok (.getfield 53, 3) := by decide +kernel
theorem dX12_seated_34 : decode cX12_seated 34 = .ok (.iload_n 1, 1) := by decide +kernel
theorem dX12_seated_35 : decode cX12_seated 35 = .ok (.iaload, 1) := by decide +kernel
theorem dX12_seated_36 : decode cX12_seated 36 = .ok (.ifCond .ne 9, 3) := by decide +kernel
theorem dX12_seated_39 : decode cX12_seated 39 = .ok (.aload_n 0, 1) := by decide +kernel
theorem dX12_seated_40 : decode cX12_seated 40 = .ok (.iconst 1, 1) := by decide +kernel
theorem dX12_seated_41 : decode cX12_seated 41 = .ok (.invokevirtual 157, 3) := by decide +kernel
theorem dX12_seated_44 : decode cX12_seated 44 = .ok (.ireturn, 1) := by decide +kernel
theorem dX12_seated_45 : decode cX12_seated 45 = .ok (.iload_n 2, 1) := by decide +kernel
theorem dX12_seated_46 : decode cX12_seated 46 = .ok (.iconst 0, 1) := by decide +kernel
theorem dX12_seated_47 : decode cX12_seated 47 = .ok (.aload_n 0, 1) := by decide +kernel
theorem dX12_seated_48 : decode cX12_seated 48 = .ok (.getfield 47, 3) := by decide +kernel
theorem dX12_seated_51 : decode cX12_seated 51 = .ok (.aload_n 0, 1) := by decide +kernel
theorem dX12_seated_52 : decode cX12_seated 52 = .ok (.getfield 56, 3) := by decide +kernel
theorem dX12_seated_55 : decode cX12_seated 55 = .ok (.iload_n 1, 1) := by decide +kernel
theorem dX12_seated_56 : decode cX12_seated 56 = .ok (.iaload, 1) := by decide +kernel
theorem dX12_seated_57 : decode cX12_seated 57 = .ok (.iaload, 1) := by decide +kernel
theorem dX12_seated_58 : decode cX12_seated 58 = .ok (.iconst 1, 1) := by decide +kernel
theorem dX12_seated_59 : decode cX12_seated 59 = .ok (.isub, 1) := by decide +kernel
theorem dX12_seated_60 : decode cX12_seated 60 = .ok (.invokestatic 129, 3) := by decide +kernel
theorem dX12_seated_63 : decode cX12_seated 63 = .ok (.ifCond .ne 9, 3) := by decide +kernel
theorem dX12_seated_66 : decode cX12_seated 66 = .ok (.aload_n 0, 1) := by decide +kernel
theorem dX12_seated_67 : decode cX12_seated 67 = .ok (.iconst 2, 1) := by decide +kernel
theorem dX12_seated_68 : decode cX12_seated 68 = .ok (.invokevirtual 157, 3) := by decide +kernel
theorem dX12_seated_71 : decode cX12_seated 71 = .ok (.ireturn, 1) := by decide +kernel
theorem dX12_seated_72 : decode cX12_seated 72 = .ok (.aload_n 0, 1) := by decide +kernel
theorem dX12_seated_73 : decode cX12_seated 73 = .ok (.getfield 50, 3) := by decide +kernel
theorem dX12_seated_76 : decode cX12_seated 76 = .ok (.bipush 8, 2) := by decide +kernel
theorem dX12_seated_78 : decode cX12_seated 78 = .ok (.aload_n 0, 1) := by decide +kernel
theorem dX12_seated_79 : decode cX12_seated 79 = .ok (.getfield 56, 3) := by decide +kernel
theorem dX12_seated_82 : decode cX12_seated 82 = .ok (.iload_n 1, 1) := by decide +kernel
theorem dX12_seated_83 : decode cX12_seated 83 = .ok (.iaload, 1) := by decide +kernel
theorem dX12_seated_84 : decode cX12_seated 84 = .ok (.imul, 1) := by decide +kernel
theorem dX12_seated_85 : decode cX12_seated 85 = .ok (.iload_n 2, 1) := by decide +kernel
theorem dX12_seated_86 : decode cX12_seated 86 = .ok (.iadd, 1) := by decide +kernel
theorem dX12_seated_87 : decode cX12_seated 87 = .ok (.iaload, 1) := by decide +kernel
theorem dX12_seated_88 : decode cX12_seated 88 = .ok (.istore_n 3, 1) := by decide +kernel
theorem dX12_seated_89 : decode cX12_seated 89 = .ok (.iload_n 3, 1) := by decide +kernel
theorem dX12_seated_90 : decode cX12_seated 90 = .ok (.ifCond .ge 8, 3) := by decide +kernel
theorem dX12_seated_93 : decode cX12_seated 93 = .ok (.bipush (-2), 2) := by decide +kernel
theorem dX12_seated_95 : decode cX12_seated 95 = .ok (.goto 9, 3) := by decide +kernel
theorem dX12_seated_98 : decode cX12_seated 98 = .ok (.aload_n 0, 1) := by decide +kernel
theorem dX12_seated_99 : decode cX12_seated 99 = .ok (.getfield 32, 3) := by decide +kernel
theorem dX12_seated_102 : decode cX12_seated 102 = .ok (.iload_n 3, 1) := by decide +kernel
theorem dX12_seated_103 : decode cX12_seated 103 = .ok (.iaload, 1) := by decide +kernel
theorem dX12_seated_104 : decode cX12_seated 104 = .ok (.ireturn, 1) := by decide +kernel
theorem dX12_strong_0 : decode cX12_strong 0 = .ok (.iload_n 1, 1) := by decide +kernel
theorem dX12_strong_1 : decode cX12_strong 1 = .ok (.iconst 1, 1) := by decide +kernel
theorem dX12_strong_2 : decode cX12_strong 2 = .ok (.bipush 16, 2) := by decide +kernel
theorem dX12_strong_4 : decode cX12_strong 4 = .ok (.invokestatic 129, 3) := by decide +kernel
theorem dX12_strong_7 : decode cX12_strong 7 = .ok (.ifCond .ne 5, 3) := by decide +kernel
theorem dX12_strong_10 : decode cX12_strong 10 = .ok (.iconst (-1), 1) := by decide +kernel
theorem dX12_strong_11 : decode cX12_strong 11 = .ok (.ireturn, 1) := by decide +kernel
theorem dX12_strong_12 : decode cX12_strong 12 = .ok (.aload_n 0, 1) := by decide +kernel
theorem dX12_strong_13 : decode cX12_strong 13 = .ok (.iconst 0, 1) := by decide +kernel
theorem dX12_strong_14 : decode cX12_strong 14 = .ok (.putfield 126, 3) := by decide +kernel
theorem dX12_strong_17 : decode cX12_strong 17 = .ok (.aload_n 0, 1) := by decide +kernel
theorem dX12_strong_18 : decode cX12_strong 18 = .ok (.getfield 59, 3) := by decide +kernel
theorem dX12_strong_21 : decode cX12_strong 21 = .ok (.istore_n 2, 1) := by decide +kernel
theorem dX12_strong_22 : decode cX12_strong 22 = .ok (.aload_n 0, 1) := by decide +kernel
theorem dX12_strong_23 : decode cX12_strong 23 = .ok (.iload_n 1, 1) := by decide +kernel
theorem dX12_strong_24 : decode cX12_strong 24 = .ok (.putfield 59, 3) := by decide +kernel
theorem dX12_strong_27 : decode cX12_strong 27 = .ok (.iload_n 2, 1) := by decide +kernel
theorem dX12_strong_28 : decode cX12_strong 28 = .ok (.ireturn, 1) := by decide +kernel
theorem dX12_key_0 : decode cX12_key 0 = .ok (.iload_n 1, 1) := by decide +kernel
theorem dX12_key_1 : decode cX12_key 1 = .ok (.iconst 0, 1) := by decide +kernel
theorem dX12_key_2 : decode cX12_key 2 = .ok (.sipush 4095, 3) := by decide +kernel
theorem dX12_key_5 : decode cX12_key 5 = .ok (.invokestatic 129, 3) := by decide +kernel
theorem dX12_key_8 : decode cX12_key 8 = .ok (.ifCond .ne 5, 3) := by decide +kernel
theorem dX12_key_11 : decode cX12_key 11 = .ok (.iconst (-1), 1) := by decide +kernel
theorem dX12_key_12 : decode cX12_key 12 = .ok (.ireturn, 1) := by decide +kernel
theorem dX12_key_13 : decode cX12_key 13 = .ok (.aload_n 0, 1) := by decide +kernel
theorem dX12_key_14 : decode cX12_key 14 = .ok (.iconst 0, 1) := by decide +kernel
theorem dX12_key_15 : decode cX12_key 15 = .ok (.putfield 126, 3) := by decide +kernel
theorem dX12_key_18 : decode cX12_key 18 = .ok (.aload_n 0, 1) := by decide +kernel
theorem dX12_key_19 : decode cX12_key 19 = .ok (.getfield 63, 3) := by decide +kernel
theorem dX12_key_22 : decode cX12_key 22 = .ok (.istore_n 2, 1) := by decide +kernel
theorem dX12_key_23 : decode cX12_key 23 = .ok (.aload_n 0, 1) := by decide +kernel
theorem dX12_key_24 : decode cX12_key 24 = .ok (.iload_n 1, 1) := by decide +kernel
theorem dX12_key_25 : decode cX12_key 25 = .ok (.putfield 63, 3) := by decide +kernel
theorem dX12_key_28 : decode cX12_key 28 = .ok (.iload_n 2, 1) := by decide +kernel
theorem dX12_key_29 : decode cX12_key 29 = .ok (.ireturn, 1) := by decide +kernel
theorem dX12_weight_0 : decode cX12_weight 0 = .ok (.iload_n 1, 1) := by decide +kernel
theorem dX12_weight_1 : decode cX12_weight 1 = .ok (.iconst 0, 1) := by decide +kernel
theorem dX12_weight_2 : decode cX12_weight 2 = .ok (.iconst 2, 1) := by decide +kernel
theorem dX12_weight_3 : decode cX12_weight 3 = .ok (.invokestatic 129, 3) := by decide +kernel
theorem dX12_weight_6 : decode cX12_weight 6 = .ok (.ifCond .eq 13, 3) := by decide +kernel
theorem dX12_weight_9 : decode cX12_weight 9 = .ok (.iload_n 2, 1) := by decide +kernel
theorem dX12_weight_10 : decode cX12_weight 10 = .ok (.iconst 0, 1) := by decide +kernel
theorem dX12_weight_11 : decode cX12_weight 11 = .ok (.bipush 9, 2) := by decide +kernel
theorem dX12_weight_13 : decode cX12_weight 13 = .ok (.invokestatic 129, 3) := by decide +kernel
theorem dX12_weight_16 : decode cX12_weight 16 = .ok (.ifCond .ne 5, 3) := by decide +kernel
theorem dX12_weight_19 : decode cX12_weight 19 = .ok (.iconst (-1), 1) := by decide +kernel
theorem dX12_weight_20 : decode cX12_weight 20 = .ok (.ireturn, 1) := by decide +kernel
theorem dX12_weight_21 : decode cX12_weight 21 = .ok (.aload_n 0, 1) := by decide +kernel
theorem dX12_weight_22 : decode cX12_weight 22 = .ok (.iconst 0, 1) := by decide +kernel
theorem dX12_weight_23 : decode cX12_weight 23 = .ok (.putfield 126, 3) := by decide +kernel
theorem dX12_weight_26 : decode cX12_weight 26 = .ok (.aload_n 0, 1) := by decide +kernel
theorem dX12_weight_27 : decode cX12_weight 27 = .ok (.getfield 66, 3) := by decide +kernel
theorem dX12_weight_30 : decode cX12_weight 30 = .ok (.iload_n 1, 1) := by decide +kernel
theorem dX12_weight_31 : decode cX12_weight 31 = .ok (.iaload, 1) := by decide +kernel
theorem dX12_weight_32 : decode cX12_weight 32 = .ok (.istore_n 3, 1) := by decide +kernel
theorem dX12_weight_33 : decode cX12_weight 33 = .ok (.aload_n 0, 1) := by decide +kernel
theorem dX12_weight_34 : decode cX12_weight 34 = .ok (.getfield 66, 3) := by decide +kernel
theorem dX12_weight_37 : decode cX12_weight 37 = .ok (.iload_n 1, 1) := by decide +kernel
theorem dX12_weight_38 : decode cX12_weight 38 = .ok (.iload_n 2, 1) := by decide +kernel
theorem dX12_weight_39 : decode cX12_weight 39 = .ok (.iastore, 1) := by decide +kernel
theorem dX12_weight_40 : decode cX12_weight 40 = .ok (.iload_n 3, 1) := by decide +kernel
theorem dX12_weight_41 : decode cX12_weight 41 = .ok (.ireturn, 1) := by decide +kernel
theorem dX12_faults_0 : decode cX12_faults 0 = .ok (.iload_n 1, 1) := by decide +kernel
theorem dX12_faults_1 : decode cX12_faults 1 = .ok (.invokestatic 181, 3) := by decide +kernel
theorem dX12_faults_4 : decode cX12_faults 4 = .ok (.ifCond .ne 5, 3) := by decide +kernel
theorem dX12_faults_7 : decode cX12_faults 7 = .ok (.iconst (-1), 1) := by decide +kernel
theorem dX12_faults_8 : decode cX12_faults 8 = .ok (.ireturn, 1) := by decide +kernel
theorem dX12_faults_9 : decode cX12_faults 9 = .ok (.aload_n 0, 1) := by decide +kernel
theorem dX12_faults_10 : decode cX12_faults 10 = .ok (.iconst 0, 1) := by decide +kernel
theorem dX12_faults_11 : decode cX12_faults 11 = .ok (.putfield 126, 3) := by decide +kernel
theorem dX12_faults_14 : decode cX12_faults 14 = .ok (.aload_n 0, 1) := by decide +kernel
theorem dX12_faults_15 : decode cX12_faults 15 = .ok (.invokevirtual 238, 3) := by decide +kernel
theorem dX12_faults_18 : decode cX12_faults 18 = .ok (.iconst 0, 1) := by decide +kernel
theorem dX12_faults_19 : decode cX12_faults 19 = .ok (.istore_n 2, 1) := by decide +kernel
theorem dX12_faults_20 : decode cX12_faults 20 = .ok (.iconst 0, 1) := by decide +kernel
theorem dX12_faults_21 : decode cX12_faults 21 = .ok (.istore_n 3, 1) := by decide +kernel
theorem dX12_faults_22 : decode cX12_faults 22 = .ok (.iload_n 3, 1) := by decide +kernel
theorem dX12_faults_23 : decode cX12_faults 23 = .ok (.bipush 6, 2) := by decide +kernel
theorem dX12_faults_25 : decode cX12_faults 25 = .ok (.if_icmp .ge 32, 3) := by decide +kernel
theorem dX12_faults_28 : decode cX12_faults 28 = .ok (.aload_n 0, 1) := by decide +kernel
theorem dX12_faults_29 : decode cX12_faults 29 = .ok (.getfield 9, 3) := by decide +kernel
theorem dX12_faults_32 : decode cX12_faults 32 = .ok (.iload_n 3, 1) := by decide +kernel
theorem dX12_faults_33 : decode cX12_faults 33 = .ok (.baload, 1) := by decide +kernel
theorem dX12_faults_34 : decode cX12_faults 34 = .ok (.ifCond .eq 17, 3) := by decide +kernel
theorem dX12_faults_37 : decode cX12_faults 37 = .ok (.aload_n 0, 1) := by decide +kernel
theorem dX12_faults_38 : decode cX12_faults 38 = .ok (.iload_n 3, 1) := by decide +kernel
theorem dX12_faults_39 : decode cX12_faults 39 = .ok (.invokevirtual 165, 3) := by decide +kernel
theorem dX12_faults_42 : decode cX12_faults 42 = .ok (.ifCond .le 9, 3) := by decide +kernel
theorem dX12_faults_45 : decode cX12_faults 45 = .ok (.aload_n 0, 1) := by decide +kernel
theorem dX12_faults_46 : decode cX12_faults 46 = .ok (.iconst 2, 1) := by decide +kernel
theorem dX12_faults_47 : decode cX12_faults 47 = .ok (.invokevirtual 157, 3) := by decide +kernel
theorem dX12_faults_50 : decode cX12_faults 50 = .ok (.ireturn, 1) := by decide +kernel
theorem dX12_faults_51 : decode cX12_faults 51 = .ok (.iinc 3 1, 3) := by decide +kernel
theorem dX12_faults_54 : decode cX12_faults 54 = .ok (.goto (-32), 3) := by decide +kernel
theorem dX12_faults_57 : decode cX12_faults 57 = .ok (.aload_n 0, 1) := by decide +kernel
theorem dX12_faults_58 : decode cX12_faults 58 = .ok (.getfield 53, 3) := by decide +kernel
theorem dX12_faults_61 : decode cX12_faults 61 = .ok (.iload_n 1, 1) := by decide +kernel
theorem dX12_faults_62 : decode cX12_faults 62 = .ok (.iaload, 1) := by decide +kernel
theorem dX12_faults_63 : decode cX12_faults 63 = .ok (.ifCond .ne 9, 3) := by decide +kernel
theorem dX12_faults_66 : decode cX12_faults 66 = .ok (.aload_n 0, 1) := by decide +kernel
theorem dX12_faults_67 : decode cX12_faults 67 = .ok (.iconst 1, 1) := by decide +kernel
theorem dX12_faults_68 : decode cX12_faults 68 = .ok (.invokevirtual 157, 3) := by decide +kernel
theorem dX12_faults_71 : decode cX12_faults 71 = .ok (.ireturn, 1) := by decide +kernel
theorem dX12_faults_72 : decode cX12_faults 72 = .ok (.iconst 0, 1) := by decide +kernel
theorem dX12_faults_73 : decode cX12_faults 73 = .ok (.istore_n 3, 1) := by decide +kernel
theorem dX12_faults_74 : decode cX12_faults 74 = .ok (.iload_n 3, 1) := by decide +kernel
theorem dX12_faults_75 : decode cX12_faults 75 = .ok (.bipush 6, 2) := by decide +kernel
theorem dX12_faults_77 : decode cX12_faults 77 = .ok (.if_icmp .ge 35, 3) := by decide +kernel
theorem dX12_faults_80 : decode cX12_faults 80 = .ok (.aload_n 0, 1) := by decide +kernel
theorem dX12_faults_81 : decode cX12_faults 81 = .ok (.iload_n 3, 1) := by decide +kernel
theorem dX12_faults_82 : decode cX12_faults 82 = .ok (.invokevirtual 168, 3) := by decide +kernel
theorem dX12_faults_85 : decode cX12_faults 85 = .ok (.aload_n 0, 1) := by decide +kernel
theorem dX12_faults_86 : decode cX12_faults 86 = .ok (.getfield 29, 3) := by decide +kernel
theorem dX12_faults_89 : decode cX12_faults 89 = .ok (.iload_n 3, 1) := by decide +kernel
theorem dX12_faults_90 : decode cX12_faults 90 = .ok (.iaload, 1) := by decide +kernel
theorem dX12_faults_91 : decode cX12_faults 91 = .ok (.iload_n 2, 1) := by decide +kernel
theorem dX12_faults_92 : decode cX12_faults 92 = .ok (.if_icmp .le 12, 3) := by decide +kernel
theorem dX12_faults_95 : decode cX12_faults 95 = .ok (.aload_n 0, 1) := by decide +kernel
theorem dX12_faults_96 : decode cX12_faults 96 = .ok (.getfield 29, 3) := by decide +kernel
theorem dX12_faults_99 : decode cX12_faults 99 = .ok (.iload_n 3, 1) := by decide +kernel
theorem dX12_faults_100 : decode cX12_faults 100 = .ok (.iaload, 1) := by decide +kernel
theorem dX12_faults_101 : decode cX12_faults 101 = .ok (.goto 4, 3) := by decide +kernel
theorem dX12_faults_104 : decode cX12_faults 104 = .ok (.iload_n 2, 1) := by decide +kernel
theorem dX12_faults_105 : decode cX12_faults 105 = .ok (.istore_n 2, 1) := by decide +kernel
theorem dX12_faults_106 : decode cX12_faults 106 = .ok (.iinc 3 1, 3) := by decide +kernel
theorem dX12_faults_109 : decode cX12_faults 109 = .ok (.goto (-35), 3) := by decide +kernel
theorem dX12_faults_112 : decode cX12_faults 112 = .ok (.iconst 0, 1) := by decide +kernel
theorem dX12_faults_113 : decode cX12_faults 113 = .ok (.istore_n 3, 1) := by decide +kernel
theorem dX12_faults_114 : decode cX12_faults 114 = .ok (.iload_n 3, 1) := by decide +kernel
theorem dX12_faults_115 : decode cX12_faults 115 = .ok (.bipush 6, 2) := by decide +kernel
theorem dX12_faults_117 : decode cX12_faults 117 = .ok (.if_icmp .ge 48, 3) := by decide +kernel
theorem dX12_faults_120 : decode cX12_faults 120 = .ok (.iload_n 3, 1) := by decide +kernel
theorem dX12_faults_121 : decode cX12_faults 121 = .ok (.istore 4, 2) := by decide +kernel
theorem dX12_faults_123 : decode cX12_faults 123 = .ok (.iload 4, 2) := by decide +kernel
theorem dX12_faults_125 : decode cX12_faults 125 = .ok (.bipush 6, 2) := by decide +kernel
theorem dX12_faults_127 : decode cX12_faults 127 = .ok (.if_icmp .ge 32, 3) := by decide +kernel
theorem dX12_faults_130 : decode cX12_faults 130 = .ok (.aload_n 0, 1) := by decide +kernel
theorem dX12_faults_131 : decode cX12_faults 131 = .ok (.iload_n 3, 1) := by decide +kernel
theorem dX12_faults_132 : decode cX12_faults 132 = .ok (.iload 4, 2) := by decide +kernel
theorem dX12_faults_134 : decode cX12_faults 134 = .ok (.invokevirtual 241, 3) := by decide +kernel
theorem dX12_faults_137 : decode cX12_faults 137 = .ok (.aload_n 0, 1) := by decide +kernel
theorem dX12_faults_138 : decode cX12_faults 138 = .ok (.getfield 93, 3) := by decide +kernel
theorem dX12_faults_141 : decode cX12_faults 141 = .ok (.bipush 6, 2) := by decide +kernel
theorem dX12_faults_143 : decode cX12_faults 143 = .ok (.iload_n 3, 1) := by decide +kernel
theorem dX12_faults_144 : decode cX12_faults 144 = .ok (.imul, 1) := by decide +kernel
theorem dX12_faults_145 : decode cX12_faults 145 = .ok (.iload 4, 2) := by decide +kernel
theorem dX12_faults_147 : decode cX12_faults 147 = .ok (.iadd, 1) := by decide +kernel
theorem dX12_faults_148 : decode cX12_faults 148 = .ok (.aload_n 0, 1) := by decide +kernel
theorem dX12_faults_149 : decode cX12_faults 149 = .ok (.getfield 210, 3) := by decide +kernel
theorem dX12_faults_152 : decode cX12_faults 152 = .ok (.iastore, 1) := by decide +kernel
theorem dX12_faults_153 : decode cX12_faults 153 = .ok (.iinc 4 1, 3) := by decide +kernel
theorem dX12_faults_156 : decode cX12_faults 156 = .ok (.goto (-33), 3) := by decide +kernel
theorem dX12_faults_159 : decode cX12_faults 159 = .ok (.iinc 3 1, 3) := by decide +kernel
theorem dX12_faults_162 : decode cX12_faults 162 = .ok (.goto (-48), 3) := by decide +kernel
theorem dX12_faults_165 : decode cX12_faults 165 = .ok (.aload_n 0, 1) := by decide +kernel
theorem dX12_faults_166 : decode cX12_faults 166 = .ok (.iconst 0, 1) := by decide +kernel
theorem dX12_faults_167 : decode cX12_faults 167 = .ok (.putfield 245, 3) := by decide +kernel
theorem dX12_faults_170 : decode cX12_faults 170 = .ok (.aload_n 0, 1) := by decide +kernel
theorem dX12_faults_171 : decode cX12_faults 171 = .ok (.iconst 0, 1) := by decide +kernel
theorem dX12_faults_172 : decode cX12_faults 172 = .ok (.putfield 248, 3) := by decide +kernel
theorem dX12_faults_175 : decode cX12_faults 175 = .ok (.iconst 0, 1) := by decide +kernel
theorem dX12_faults_176 : decode cX12_faults 176 = .ok (.istore_n 3, 1) := by decide +kernel
theorem dX12_faults_177 : decode cX12_faults 177 = .ok (.iload_n 3, 1) := by decide +kernel
theorem dX12_faults_178 : decode cX12_faults 178 = .ok (.iload_n 2, 1) := by decide +kernel
theorem dX12_faults_179 : decode cX12_faults 179 = .ok (.if_icmp .ge 72, 3) := by decide +kernel
theorem dX12_faults_182 : decode cX12_faults 182 = .ok (.iconst 0, 1) := by decide +kernel
theorem dX12_faults_183 : decode cX12_faults 183 = .ok (.istore 4, 2) := by decide +kernel
theorem dX12_faults_185 : decode cX12_faults 185 = .ok (.iload 4, 2) := by decide +kernel
theorem dX12_faults_187 : decode cX12_faults 187 = .ok (.bipush 6, 2) := by decide +kernel
theorem dX12_faults_189 : decode cX12_faults 189 = .ok (.if_icmp .ge 56, 3) := by decide +kernel
theorem dX12_faults_192 : decode cX12_faults 192 = .ok (.iload 4, 2) := by decide +kernel
theorem dX12_faults_194 : decode cX12_faults 194 = .ok (.istore 5, 2) := by decide +kernel
theorem dX12_faults_196 : decode cX12_faults 196 = .ok (.iload 5, 2) := by decide +kernel
theorem dX12_faults_198 : decode cX12_faults 198 = .ok (.bipush 6, 2) := by decide +kernel
theorem dX12_faults_200 : decode cX12_faults 200 = .ok (.if_icmp .ge 39, 3) := by decide +kernel
theorem dX12_faults_203 : decode cX12_faults 203 = .ok (.aload_n 0, 1) := by decide +kernel
theorem dX12_faults_204 : decode cX12_faults 204 = .ok (.iload 4, 2) := by decide +kernel
theorem dX12_faults_206 : decode cX12_faults 206 = .ok (.iload_n 3, 1) := by decide +kernel
theorem dX12_faults_207 : decode cX12_faults 207 = .ok (.invokevirtual 171, 3) := by decide +kernel
theorem dX12_faults_210 : decode cX12_faults 210 = .ok (.ifCond .le 23, 3) := by decide +kernel
theorem dX12_faults_213 : decode cX12_faults 213 = .ok (.aload_n 0, 1) := by decide +kernel
theorem dX12_faults_214 : decode cX12_faults 214 = .ok (.iload 5, 2) := by decide +kernel
theorem dX12_faults_216 : decode cX12_faults 216 = .ok (.iload_n 3, 1) := by decide +kernel
theorem dX12_faults_217 : decode cX12_faults 217 = .ok (.invokevirtual 171, 3) := by decide +kernel
theorem dX12_faults_220 : decode cX12_faults 220 = .ok (.ifCond .le 13, 3) := by decide +kernel
theorem dX12_faults_223 : decode cX12_faults 223 = .ok (.aload_n 0, 1) := by decide +kernel
theorem dX12_faults_224 : decode cX12_faults 224 = .ok (.iload_n 1, 1) := by decide +kernel
theorem dX12_faults_225 : decode cX12_faults 225 = .ok (.iload_n 3, 1) := by decide +kernel
theorem dX12_faults_226 : decode cX12_faults 226 = .ok (.iload 4, 2) := by decide +kernel
theorem dX12_faults_228 : decode cX12_faults 228 = .ok (.iload 5, 2) := by decide +kernel
theorem dX12_faults_230 : decode cX12_faults 230 = .ok (.invokevirtual 251, 3) := by decide +kernel
theorem dX12_faults_233 : decode cX12_faults 233 = .ok (.iinc 5 1, 3) := by decide +kernel
theorem dX12_faults_236 : decode cX12_faults 236 = .ok (.goto (-40), 3) := by decide +kernel
theorem dX12_faults_239 : decode cX12_faults 239 = .ok (.iinc 4 1, 3) := by decide +kernel
theorem dX12_faults_242 : decode cX12_faults 242 = .ok (.goto (-57), 3) := by decide +kernel
theorem dX12_faults_245 : decode cX12_faults 245 = .ok (.iinc 3 1, 3) := by decide +kernel
theorem dX12_faults_248 : decode cX12_faults 248 = .ok (.goto (-71), 3) := by decide +kernel
theorem dX12_faults_251 : decode cX12_faults 251 = .ok (.aload_n 0, 1) := by decide +kernel
theorem dX12_faults_252 : decode cX12_faults 252 = .ok (.getfield 245, 3) := by decide +kernel
theorem dX12_faults_255 : decode cX12_faults 255 = .ok (.ireturn, 1) := by decide +kernel
theorem dX12_fault_0 : decode cX12_fault 0 = .ok (.iload_n 2, 1) := by decide +kernel
theorem dX12_fault_1 : decode cX12_fault 1 = .ok (.iconst 0, 1) := by decide +kernel
theorem dX12_fault_2 : decode cX12_fault 2 = .ok (.iconst 3, 1) := by decide +kernel
theorem dX12_fault_3 : decode cX12_fault 3 = .ok (.invokestatic 129, 3) := by decide +kernel
theorem dX12_fault_6 : decode cX12_fault 6 = .ok (.ifCond .ne 5, 3) := by decide +kernel
theorem dX12_fault_9 : decode cX12_fault 9 = .ok (.iconst (-1), 1) := by decide +kernel
theorem dX12_fault_10 : decode cX12_fault 10 = .ok (.ireturn, 1) := by decide +kernel
theorem dX12_fault_11 : decode cX12_fault 11 = .ok (.iload_n 1, 1) := by decide +kernel
theorem dX12_fault_12 : decode cX12_fault 12 = .ok (.iconst 0, 1) := by decide +kernel
theorem dX12_fault_13 : decode cX12_fault 13 = .ok (.aload_n 0, 1) := by decide +kernel
theorem dX12_fault_14 : decode cX12_fault 14 = .ok (.getfield 248, 3) := by decide +kernel
theorem dX12_fault_17 : decode cX12_fault 17 = .ok (.iconst 1, 1) := by decide +kernel
theorem dX12_fault_18 : decode cX12_fault 18 = .ok (.isub, 1) := by decide +kernel
theorem dX12_fault_19 : decode cX12_fault 19 = .ok (.invokestatic 129, 3) := by decide +kernel
theorem dX12_fault_22 : decode cX12_fault 22 = .ok (.ifCond .ne 6, 3) := by decide +kernel
theorem dX12_fault_25 : decode cX12_fault 25 = .ok (.bipush (-2), 2) := by decide +kernel
theorem dX12_fault_27 : decode cX12_fault 27 = .ok (.ireturn, 1) := by decide +kernel
theorem dX12_fault_28 : decode cX12_fault 28 = .ok (.iload_n 2, 1) := by decide +kernel
theorem dX12_fault_29 : decode cX12_fault 29 = .ok (.ifCond .ne 12, 3) := by decide +kernel
theorem dX12_fault_32 : decode cX12_fault 32 = .ok (.aload_n 0, 1) := by decide +kernel
theorem dX12_fault_33 : decode cX12_fault 33 = .ok (.getfield 72, 3) := by decide +kernel
theorem dX12_fault_36 : decode cX12_fault 36 = .ok (.iload_n 1, 1) := by decide +kernel
theorem dX12_fault_37 : decode cX12_fault 37 = .ok (.iaload, 1) := by decide +kernel
theorem dX12_fault_38 : decode cX12_fault 38 = .ok (.goto 37, 3) := by decide +kernel
theorem dX12_fault_41 : decode cX12_fault 41 = .ok (.iload_n 2, 1) := by decide +kernel
theorem dX12_fault_42 : decode cX12_fault 42 = .ok (.iconst 1, 1) := by decide +kernel
theorem dX12_fault_43 : decode cX12_fault 43 = .ok (.if_icmp .ne 12, 3) := by decide +kernel
theorem dX12_fault_46 : decode cX12_fault 46 = .ok (.aload_n 0, 1) := by decide +kernel
theorem dX12_fault_47 : decode cX12_fault 47 = .ok (.getfield 75, 3) := by decide +kernel
theorem dX12_fault_50 : decode cX12_fault 50 = .ok (.iload_n 1, 1) := by decide +kernel
theorem dX12_fault_51 : decode cX12_fault 51 = .ok (.iaload, 1) := by decide +kernel
theorem dX12_fault_52 : decode cX12_fault 52 = .ok (.goto 23, 3) := by decide +kernel
theorem dX12_fault_55 : decode cX12_fault 55 = .ok (.iload_n 2, 1) := by decide +kernel
theorem dX12_fault_56 : decode cX12_fault 56 = .ok (.iconst 2, 1) := by decide +kernel
theorem dX12_fault_57 : decode cX12_fault 57 = .ok (.if_icmp .ne 12, 3) := by decide +kernel
theorem dX12_fault_60 : decode cX12_fault 60 = .ok (.aload_n 0, 1) := by decide +kernel
theorem dX12_fault_61 : decode cX12_fault 61 = .ok (.getfield 78, 3) := by decide +kernel
theorem dX12_fault_64 : decode cX12_fault 64 = .ok (.iload_n 1, 1) := by decide +kernel
theorem dX12_fault_65 : decode cX12_fault 65 = .ok (.iaload, 1) := by decide +kernel
theorem dX12_fault_66 : decode cX12_fault 66 = .ok (.goto 9, 3) := by decide +kernel
theorem dX12_fault_69 : decode cX12_fault 69 = .ok (.aload_n 0, 1) := by decide +kernel
theorem dX12_fault_70 : decode cX12_fault 70 = .ok (.getfield 81, 3) := by decide +kernel
theorem dX12_fault_73 : decode cX12_fault 73 = .ok (.iload_n 1, 1) := by decide +kernel
theorem dX12_fault_74 : decode cX12_fault 74 = .ok (.iaload, 1) := by decide +kernel
theorem dX12_fault_75 : decode cX12_fault 75 = .ok (.ireturn, 1) := by decide +kernel
theorem dX12_mend_0 : decode cX12_mend 0 = .ok (.aload_n 0, 1) := by decide +kernel
theorem dX12_mend_1 : decode cX12_mend 1 = .ok (.iconst 0, 1) := by decide +kernel
theorem dX12_mend_2 : decode cX12_mend 2 = .ok (.putfield 126, 3) := by decide +kernel
theorem dX12_mend_5 : decode cX12_mend 5 = .ok (.aload_n 0, 1) := by decide +kernel
theorem dX12_mend_6 : decode cX12_mend 6 = .ok (.invokevirtual 238, 3) := by decide +kernel
theorem dX12_mend_9 : decode cX12_mend 9 = .ok (.iload_n 1, 1) := by decide +kernel
theorem dX12_mend_10 : decode cX12_mend 10 = .ok (.iconst 0, 1) := by decide +kernel
theorem dX12_mend_11 : decode cX12_mend 11 = .ok (.aload_n 0, 1) := by decide +kernel
theorem dX12_mend_12 : decode cX12_mend 12 = .ok (.getfield 248, 3) := by decide +kernel
theorem dX12_mend_15 : decode cX12_mend 15 = .ok (.iconst 1, 1) := by decide +kernel
theorem dX12_mend_16 : decode cX12_mend 16 = .ok (.isub, 1) := by decide +kernel
theorem dX12_mend_17 : decode cX12_mend 17 = .ok (.invokestatic 129, 3) := by decide +kernel
theorem dX12_mend_20 : decode cX12_mend 20 = .ok (.ifCond .ne 6, 3) := by decide +kernel
theorem dX12_mend_23 : decode cX12_mend 23 = .ok (.bipush (-2), 2) := by decide +kernel
theorem dX12_mend_25 : decode cX12_mend 25 = .ok (.ireturn, 1) := by decide +kernel
theorem dX12_mend_26 : decode cX12_mend 26 = .ok (.aload_n 0, 1) := by decide +kernel
theorem dX12_mend_27 : decode cX12_mend 27 = .ok (.getfield 78, 3) := by decide +kernel
theorem dX12_mend_30 : decode cX12_mend 30 = .ok (.iload_n 1, 1) := by decide +kernel
theorem dX12_mend_31 : decode cX12_mend 31 = .ok (.iaload, 1) := by decide +kernel
theorem dX12_mend_32 : decode cX12_mend 32 = .ok (.istore_n 2, 1) := by decide +kernel
theorem dX12_mend_33 : decode cX12_mend 33 = .ok (.aload_n 0, 1) := by decide +kernel
theorem dX12_mend_34 : decode cX12_mend 34 = .ok (.getfield 81, 3) := by decide +kernel
theorem dX12_mend_37 : decode cX12_mend 37 = .ok (.iload_n 1, 1) := by decide +kernel
theorem dX12_mend_38 : decode cX12_mend 38 = .ok (.iaload, 1) := by decide +kernel
theorem dX12_mend_39 : decode cX12_mend 39 = .ok (.istore_n 3, 1) := by decide +kernel
theorem dX12_mend_40 : decode cX12_mend 40 = .ok (.aload_n 0, 1) := by decide +kernel
theorem dX12_mend_41 : decode cX12_mend 41 = .ok (.getfield 9, 3) := by decide +kernel
theorem dX12_mend_44 : decode cX12_mend 44 = .ok (.iload_n 2, 1) := by decide +kernel
theorem dX12_mend_45 : decode cX12_mend 45 = .ok (.baload, 1) := by decide +kernel
theorem dX12_mend_46 : decode cX12_mend 46 = .ok (.ifCond .eq 11, 3) := by decide +kernel
theorem dX12_mend_49 : decode cX12_mend 49 = .ok (.aload_n 0, 1) := by decide +kernel
theorem dX12_mend_50 : decode cX12_mend 50 = .ok (.iload_n 2, 1) := by decide +kernel
theorem dX12_mend_51 : decode cX12_mend 51 = .ok (.invokevirtual 165, 3) := by decide +kernel
theorem dX12_mend_54 : decode cX12_mend 54 = .ok (.ifCond .gt 20, 3) := by decide +kernel
theorem dX12_mend_57 : decode cX12_mend 57 = .ok (.aload_n 0, 1) := by decide +kernel
theorem dX12_mend_58 : decode cX12_mend 58 = .ok (.getfield 9, 3) := by decide +kernel
theorem dX12_mend_61 : decode cX12_mend 61 = .ok (.iload_n 3, 1) := by decide +kernel
theorem dX12_mend_62 : decode cX12_mend 62 = .ok (.baload, 1) := by decide +kernel
theorem dX12_mend_63 : decode cX12_mend 63 = .ok (.ifCond .eq 17, 3) := by decide +kernel
theorem dX12_mend_66 : decode cX12_mend 66 = .ok (.aload_n 0, 1) := by decide +kernel
theorem dX12_mend_67 : decode cX12_mend 67 = .ok (.iload_n 3, 1) := by decide +kernel
theorem dX12_mend_68 : decode cX12_mend 68 = .ok (.invokevirtual 165, 3) := by decide +kernel
theorem dX12_mend_71 : decode cX12_mend 71 = .ok (.ifCond .le 9, 3) := by decide +kernel
theorem dX12_mend_74 : decode cX12_mend 74 = .ok (.aload_n 0, 1) := by decide +kernel
theorem dX12_mend_75 : decode cX12_mend 75 = .ok (.iconst 2, 1) := by decide +kernel
theorem dX12_mend_76 : decode cX12_mend 76 = .ok (.invokevirtual 157, 3) := by decide +kernel
theorem dX12_mend_79 : decode cX12_mend 79 = .ok (.ireturn, 1) := by decide +kernel
theorem dX12_mend_80 : decode cX12_mend 80 = .ok (.aload_n 0, 1) := by decide +kernel
theorem dX12_mend_81 : decode cX12_mend 81 = .ok (.iload_n 2, 1) := by decide +kernel
theorem dX12_mend_82 : decode cX12_mend 82 = .ok (.invokevirtual 168, 3) := by decide +kernel
theorem dX12_mend_85 : decode cX12_mend 85 = .ok (.aload_n 0, 1) := by decide +kernel
theorem dX12_mend_86 : decode cX12_mend 86 = .ok (.iload_n 3, 1) := by decide +kernel
theorem dX12_mend_87 : decode cX12_mend 87 = .ok (.invokevirtual 168, 3) := by decide +kernel
theorem dX12_mend_90 : decode cX12_mend 90 = .ok (.aload_n 0, 1) := by decide +kernel
theorem dX12_mend_91 : decode cX12_mend 91 = .ok (.getfield 75, 3) := by decide +kernel
theorem dX12_mend_94 : decode cX12_mend 94 = .ok (.iload_n 1, 1) := by decide +kernel
theorem dX12_mend_95 : decode cX12_mend 95 = .ok (.iaload, 1) := by decide +kernel
theorem dX12_mend_96 : decode cX12_mend 96 = .ok (.istore 4, 2) := by decide +kernel
theorem dX12_mend_98 : decode cX12_mend 98 = .ok (.aload_n 0, 1) := by decide +kernel
theorem dX12_mend_99 : decode cX12_mend 99 = .ok (.getfield 84, 3) := by decide +kernel
theorem dX12_mend_102 : decode cX12_mend 102 = .ok (.iload_n 1, 1) := by decide +kernel
theorem dX12_mend_103 : decode cX12_mend 103 = .ok (.iaload, 1) := by decide +kernel
theorem dX12_mend_104 : decode cX12_mend 104 = .ok (.istore 5, 2) := by decide +kernel
theorem dX12_mend_106 : decode cX12_mend 106 = .ok (.aload_n 0, 1) := by decide +kernel
theorem dX12_mend_107 : decode cX12_mend 107 = .ok (.iload_n 2, 1) := by decide +kernel
theorem dX12_mend_108 : decode cX12_mend 108 = .ok (.iload 4, 2) := by decide +kernel
theorem dX12_mend_110 : decode cX12_mend 110 = .ok (.invokevirtual 171, 3) := by decide +kernel
theorem dX12_mend_113 : decode cX12_mend 113 = .ok (.istore 6, 2) := by decide +kernel
theorem dX12_mend_115 : decode cX12_mend 115 = .ok (.aload_n 0, 1) := by decide +kernel
theorem dX12_mend_116 : decode cX12_mend 116 = .ok (.iload_n 3, 1) := by decide +kernel
theorem dX12_mend_117 : decode cX12_mend 117 = .ok (.iload 4, 2) := by decide +kernel
theorem dX12_mend_119 : decode cX12_mend 119 = .ok (.invokevirtual 171, 3) := by decide +kernel
theorem dX12_mend_122 : decode cX12_mend 122 = .ok (.istore 7, 2) := by decide +kernel
theorem dX12_mend_124 : decode cX12_mend 124 = .ok (.iload 6, 2) := by decide +kernel
theorem dX12_mend_126 : decode cX12_mend 126 = .ok (.ifCond .eq 8, 3) := by decide +kernel
theorem dX12_mend_129 : decode cX12_mend 129 = .ok (.iload 7, 2) := by decide +kernel
theorem dX12_mend_131 : decode cX12_mend 131 = .ok (.ifCond .ne 6, 3) := by decide +kernel
theorem dX12_mend_134 : decode cX12_mend 134 = .ok (.bipush (-2), 2) := by decide +kernel
theorem dX12_mend_136 : decode cX12_mend 136 = .ok (.ireturn, 1) := by decide +kernel
theorem dX12_mend_137 : decode cX12_mend 137 = .ok (.aload_n 0, 1) := by decide +kernel
theorem dX12_mend_138 : decode cX12_mend 138 = .ok (.iload_n 2, 1) := by decide +kernel
theorem dX12_mend_139 : decode cX12_mend 139 = .ok (.iload_n 3, 1) := by decide +kernel
theorem dX12_mend_140 : decode cX12_mend 140 = .ok (.invokevirtual 241, 3) := by decide +kernel
theorem dX12_mend_143 : decode cX12_mend 143 = .ok (.aload_n 0, 1) := by decide +kernel
theorem dX12_mend_144 : decode cX12_mend 144 = .ok (.getfield 32, 3) := by decide +kernel
theorem dX12_mend_147 : decode cX12_mend 147 = .ok (.iload 5, 2) := by decide +kernel
theorem dX12_mend_149 : decode cX12_mend 149 = .ok (.iaload, 1) := by decide +kernel
theorem dX12_mend_150 : decode cX12_mend 150 = .ok (.iconst 2, 1) := by decide +kernel
theorem dX12_mend_151 : decode cX12_mend 151 = .ok (.if_icmp .ne 12, 3) := by decide +kernel
theorem dX12_mend_154 : decode cX12_mend 154 = .ok (.aload_n 0, 1) := by decide +kernel
theorem dX12_mend_155 : decode cX12_mend 155 = .ok (.bipush 20, 2) := by decide +kernel
theorem dX12_mend_157 : decode cX12_mend 157 = .ok (.invokevirtual 213, 3) := by decide +kernel
theorem dX12_mend_160 : decode cX12_mend 160 = .ok (.bipush (-2), 2) := by decide +kernel
theorem dX12_mend_162 : decode cX12_mend 162 = .ok (.ireturn, 1) := by decide +kernel
theorem dX12_mend_163 : decode cX12_mend 163 = .ok (.aload_n 0, 1) := by decide +kernel
theorem dX12_mend_164 : decode cX12_mend 164 = .ok (.getfield 32, 3) := by decide +kernel
theorem dX12_mend_167 : decode cX12_mend 167 = .ok (.iload 5, 2) := by decide +kernel
theorem dX12_mend_169 : decode cX12_mend 169 = .ok (.iaload, 1) := by decide +kernel
theorem dX12_mend_170 : decode cX12_mend 170 = .ok (.iconst 3, 1) := by decide +kernel
theorem dX12_mend_171 : decode cX12_mend 171 = .ok (.if_icmp .ne 27, 3) := by decide +kernel
theorem dX12_mend_174 : decode cX12_mend 174 = .ok (.aload_n 0, 1) := by decide +kernel
theorem dX12_mend_175 : decode cX12_mend 175 = .ok (.bipush 22, 2) := by decide +kernel
theorem dX12_mend_177 : decode cX12_mend 177 = .ok (.invokevirtual 213, 3) := by decide +kernel
theorem dX12_mend_180 : decode cX12_mend 180 = .ok (.aload_n 0, 1) := by decide +kernel
theorem dX12_mend_181 : decode cX12_mend 181 = .ok (.iload 5, 2) := by decide +kernel
theorem dX12_mend_183 : decode cX12_mend 183 = .ok (.iload 4, 2) := by decide +kernel
theorem dX12_mend_185 : decode cX12_mend 185 = .ok (.iload 7, 2) := by decide +kernel
theorem dX12_mend_187 : decode cX12_mend 187 = .ok (.iload 7, 2) := by decide +kernel
theorem dX12_mend_189 : decode cX12_mend 189 = .ok (.invokevirtual 235, 3) := by decide +kernel
theorem dX12_mend_192 : decode cX12_mend 192 = .ok (.ifCond .ne 6, 3) := by decide +kernel
theorem dX12_mend_195 : decode cX12_mend 195 = .ok (.iload 7, 2) := by decide +kernel
theorem dX12_mend_197 : decode cX12_mend 197 = .ok (.ireturn, 1) := by decide +kernel
theorem dX12_mend_198 : decode cX12_mend 198 = .ok (.aload_n 0, 1) := by decide +kernel
theorem dX12_mend_199 : decode cX12_mend 199 = .ok (.iload 5, 2) := by decide +kernel
theorem dX12_mend_201 : decode cX12_mend 201 = .ok (.iload 4, 2) := by decide +kernel
theorem dX12_mend_203 : decode cX12_mend 203 = .ok (.iload 6, 2) := by decide +kernel
theorem dX12_mend_205 : decode cX12_mend 205 = .ok (.iload 7, 2) := by decide +kernel
theorem dX12_mend_207 : decode cX12_mend 207 = .ok (.invokevirtual 264, 3) := by decide +kernel
theorem dX12_mend_210 : decode cX12_mend 210 = .ok (.ireturn, 1) := by decide +kernel
theorem dX12_canon_0 : decode cX12_canon 0 = .ok (.iload_n 1, 1) := by decide +kernel
theorem dX12_canon_1 : decode cX12_canon 1 = .ok (.invokestatic 153, 3) := by decide +kernel
theorem dX12_canon_4 : decode cX12_canon 4 = .ok (.ifCond .eq 42, 3) := by decide +kernel
theorem dX12_canon_7 : decode cX12_canon 7 = .ok (.iload_n 2, 1) := by decide +kernel
theorem dX12_canon_8 : decode cX12_canon 8 = .ok (.invokestatic 181, 3) := by decide +kernel
theorem dX12_canon_11 : decode cX12_canon 11 = .ok (.ifCond .eq 35, 3) := by decide +kernel
theorem dX12_canon_14 : decode cX12_canon 14 = .ok (.iload_n 3, 1) := by decide +kernel
theorem dX12_canon_15 : decode cX12_canon 15 = .ok (.iconst 0, 1) := by decide +kernel
theorem dX12_canon_16 : decode cX12_canon 16 = .ok (.bipush 60, 2) := by decide +kernel
theorem dX12_canon_18 : decode cX12_canon 18 = .ok (.invokestatic 129, 3) := by decide +kernel
theorem dX12_canon_21 : decode cX12_canon 21 = .ok (.ifCond .eq 25, 3) := by decide +kernel
theorem dX12_canon_24 : decode cX12_canon 24 = .ok (.iload 4, 2) := by decide +kernel
theorem dX12_canon_26 : decode cX12_canon 26 = .ok (.bipush (-60), 2) := by decide +kernel
theorem dX12_canon_28 : decode cX12_canon 28 = .ok (.bipush 60, 2) := by decide +kernel
theorem dX12_canon_30 : decode cX12_canon 30 = .ok (.invokestatic 129, 3) := by decide +kernel
theorem dX12_canon_33 : decode cX12_canon 33 = .ok (.ifCond .eq 13, 3) := by decide +kernel
theorem dX12_canon_36 : decode cX12_canon 36 = .ok (.iload 5, 2) := by decide +kernel
theorem dX12_canon_38 : decode cX12_canon 38 = .ok (.iconst 0, 1) := by decide +kernel
theorem dX12_canon_39 : decode cX12_canon 39 = .ok (.iconst 2, 1) := by decide +kernel
theorem dX12_canon_40 : decode cX12_canon 40 = .ok (.invokestatic 129, 3) := by decide +kernel
theorem dX12_canon_43 : decode cX12_canon 43 = .ok (.ifCond .ne 5, 3) := by decide +kernel
theorem dX12_canon_46 : decode cX12_canon 46 = .ok (.iconst (-1), 1) := by decide +kernel
theorem dX12_canon_47 : decode cX12_canon 47 = .ok (.ireturn, 1) := by decide +kernel
theorem dX12_canon_48 : decode cX12_canon 48 = .ok (.aload_n 0, 1) := by decide +kernel
theorem dX12_canon_49 : decode cX12_canon 49 = .ok (.iconst 0, 1) := by decide +kernel
theorem dX12_canon_50 : decode cX12_canon 50 = .ok (.putfield 126, 3) := by decide +kernel
theorem dX12_canon_53 : decode cX12_canon 53 = .ok (.aload_n 0, 1) := by decide +kernel
theorem dX12_canon_54 : decode cX12_canon 54 = .ok (.invokevirtual 238, 3) := by decide +kernel
theorem dX12_canon_57 : decode cX12_canon 57 = .ok (.aload_n 0, 1) := by decide +kernel
theorem dX12_canon_58 : decode cX12_canon 58 = .ok (.iload_n 1, 1) := by decide +kernel
theorem dX12_canon_59 : decode cX12_canon 59 = .ok (.iload_n 2, 1) := by decide +kernel
theorem dX12_canon_60 : decode cX12_canon 60 = .ok (.invokevirtual 272, 3) := by decide +kernel
theorem dX12_canon_63 : decode cX12_canon 63 = .ok (.istore 6, 2) := by decide +kernel
theorem dX12_canon_65 : decode cX12_canon 65 = .ok (.iload 6, 2) := by decide +kernel
theorem dX12_canon_67 : decode cX12_canon 67 = .ok (.ifCond .le 10, 3) := by decide +kernel
theorem dX12_canon_70 : decode cX12_canon 70 = .ok (.aload_n 0, 1) := by decide +kernel
theorem dX12_canon_71 : decode cX12_canon 71 = .ok (.iload 6, 2) := by decide +kernel
theorem dX12_canon_73 : decode cX12_canon 73 = .ok (.invokevirtual 157, 3) := by decide +kernel
theorem dX12_canon_76 : decode cX12_canon 76 = .ok (.ireturn, 1) := by decide +kernel
theorem dX12_canon_77 : decode cX12_canon 77 = .ok (.aload_n 0, 1) := by decide +kernel
theorem dX12_canon_78 : decode cX12_canon 78 = .ok (.iload_n 1, 1) := by decide +kernel
theorem dX12_canon_79 : decode cX12_canon 79 = .ok (.invokevirtual 168, 3) := by decide +kernel
theorem dX12_canon_82 : decode cX12_canon 82 = .ok (.aload_n 0, 1) := by decide +kernel
theorem dX12_canon_83 : decode cX12_canon 83 = .ok (.iload_n 1, 1) := by decide +kernel
theorem dX12_canon_84 : decode cX12_canon 84 = .ok (.iload_n 2, 1) := by decide +kernel
theorem dX12_canon_85 : decode cX12_canon 85 = .ok (.iload_n 3, 1) := by decide +kernel
theorem dX12_canon_86 : decode cX12_canon 86 = .ok (.iload 4, 2) := by decide +kernel
theorem dX12_canon_88 : decode cX12_canon 88 = .ok (.iload 5, 2) := by decide +kernel
theorem dX12_canon_90 : decode cX12_canon 90 = .ok (.invokevirtual 275, 3) := by decide +kernel
theorem dX12_canon_93 : decode cX12_canon 93 = .ok (.ireturn, 1) := by decide +kernel
theorem dX12_canons_0 : decode cX12_canons 0 = .ok (.iload_n 1, 1) := by decide +kernel
theorem dX12_canons_1 : decode cX12_canons 1 = .ok (.invokestatic 153, 3) := by decide +kernel
theorem dX12_canons_4 : decode cX12_canons 4 = .ok (.ifCond .eq 31, 3) := by decide +kernel
theorem dX12_canons_7 : decode cX12_canons 7 = .ok (.iload_n 2, 1) := by decide +kernel
theorem dX12_canons_8 : decode cX12_canons 8 = .ok (.invokestatic 181, 3) := by decide +kernel
theorem dX12_canons_11 : decode cX12_canons 11 = .ok (.ifCond .eq 24, 3) := by decide +kernel
theorem dX12_canons_14 : decode cX12_canons 14 = .ok (.iload_n 3, 1) := by decide +kernel
theorem dX12_canons_15 : decode cX12_canons 15 = .ok (.bipush (-60), 2) := by decide +kernel
theorem dX12_canons_17 : decode cX12_canons 17 = .ok (.bipush 60, 2) := by decide +kernel
theorem dX12_canons_19 : decode cX12_canons 19 = .ok (.invokestatic 129, 3) := by decide +kernel
theorem dX12_canons_22 : decode cX12_canons 22 = .ok (.ifCond .eq 13, 3) := by decide +kernel
theorem dX12_canons_25 : decode cX12_canons 25 = .ok (.iload 4, 2) := by decide +kernel
theorem dX12_canons_27 : decode cX12_canons 27 = .ok (.iconst 0, 1) := by decide +kernel
theorem dX12_canons_28 : decode cX12_canons 28 = .ok (.iconst 2, 1) := by decide +kernel
theorem dX12_canons_29 : decode cX12_canons 29 = .ok (.invokestatic 129, 3) := by decide +kernel
theorem dX12_canons_32 : decode cX12_canons 32 = .ok (.ifCond .ne 5, 3) := by decide +kernel
theorem dX12_canons_35 : decode cX12_canons 35 = .ok (.iconst (-1), 1) := by decide +kernel
theorem dX12_canons_36 : decode cX12_canons 36 = .ok (.ireturn, 1) := by decide +kernel
theorem dX12_canons_37 : decode cX12_canons 37 = .ok (.aload_n 0, 1) := by decide +kernel
theorem dX12_canons_38 : decode cX12_canons 38 = .ok (.iconst 0, 1) := by decide +kernel
theorem dX12_canons_39 : decode cX12_canons 39 = .ok (.putfield 126, 3) := by decide +kernel
theorem dX12_canons_42 : decode cX12_canons 42 = .ok (.aload_n 0, 1) := by decide +kernel
theorem dX12_canons_43 : decode cX12_canons 43 = .ok (.invokevirtual 238, 3) := by decide +kernel
theorem dX12_canons_46 : decode cX12_canons 46 = .ok (.aload_n 0, 1) := by decide +kernel
theorem dX12_canons_47 : decode cX12_canons 47 = .ok (.iload_n 1, 1) := by decide +kernel
theorem dX12_canons_48 : decode cX12_canons 48 = .ok (.iload_n 2, 1) := by decide +kernel
theorem dX12_canons_49 : decode cX12_canons 49 = .ok (.invokevirtual 272, 3) := by decide +kernel
theorem dX12_canons_52 : decode cX12_canons 52 = .ok (.istore 5, 2) := by decide +kernel
theorem dX12_canons_54 : decode cX12_canons 54 = .ok (.iload 5, 2) := by decide +kernel
theorem dX12_canons_56 : decode cX12_canons 56 = .ok (.ifCond .le 10, 3) := by decide +kernel
theorem dX12_canons_59 : decode cX12_canons 59 = .ok (.aload_n 0, 1) := by decide +kernel
theorem dX12_canons_60 : decode cX12_canons 60 = .ok (.iload 5, 2) := by decide +kernel
theorem dX12_canons_62 : decode cX12_canons 62 = .ok (.invokevirtual 157, 3) := by decide +kernel
theorem dX12_canons_65 : decode cX12_canons 65 = .ok (.ireturn, 1) := by decide +kernel
theorem dX12_canons_66 : decode cX12_canons 66 = .ok (.aload_n 0, 1) := by decide +kernel
theorem dX12_canons_67 : decode cX12_canons 67 = .ok (.iload_n 1, 1) := by decide +kernel
theorem dX12_canons_68 : decode cX12_canons 68 = .ok (.invokevirtual 168, 3) := by decide +kernel
theorem dX12_canons_71 : decode cX12_canons 71 = .ok (.iconst 0, 1) := by decide +kernel
theorem dX12_canons_72 : decode cX12_canons 72 = .ok (.istore 6, 2) := by decide +kernel
theorem dX12_canons_74 : decode cX12_canons 74 = .ok (.iconst 1, 1) := by decide +kernel
theorem dX12_canons_75 : decode cX12_canons 75 = .ok (.istore 7, 2) := by decide +kernel
theorem dX12_canons_77 : decode cX12_canons 77 = .ok (.iload 7, 2) := by decide +kernel
theorem dX12_canons_79 : decode cX12_canons 79 = .ok (.bipush 20, 2) := by decide +kernel
theorem dX12_canons_81 : decode cX12_canons 81 = .ok (.if_icmp .gt 40, 3) := by decide +kernel
theorem dX12_canons_84 : decode cX12_canons 84 = .ok (.iload 6, 2) := by decide +kernel
theorem dX12_canons_86 : decode cX12_canons 86 = .ok (.aload_n 0, 1) := by decide +kernel
theorem dX12_canons_87 : decode cX12_canons 87 = .ok (.iload_n 1, 1) := by decide +kernel
theorem dX12_canons_88 : decode cX12_canons 88 = .ok (.iload_n 2, 1) := by decide +kernel
theorem dX12_canons_89 : decode cX12_canons 89 = .ok (.iload 7, 2) := by decide +kernel
theorem dX12_canons_91 : decode cX12_canons 91 = .ok (.iload_n 3, 1) := by decide +kernel
theorem dX12_canons_92 : decode cX12_canons 92 = .ok (.iload 4, 2) := by decide +kernel
theorem dX12_canons_94 : decode cX12_canons 94 = .ok (.invokevirtual 275, 3) := by decide +kernel
theorem dX12_canons_97 : decode cX12_canons 97 = .ok (.bipush (-2), 2) := by decide +kernel
theorem dX12_canons_99 : decode cX12_canons 99 = .ok (.if_icmp .ne 12, 3) := by decide +kernel
theorem dX12_canons_102 : decode cX12_canons 102 = .ok (.iconst 1, 1) := by decide +kernel
theorem dX12_canons_103 : decode cX12_canons 103 = .ok (.iload 7, 2) := by decide +kernel
theorem dX12_canons_105 : decode cX12_canons 105 = .ok (.iconst 1, 1) := by decide +kernel
theorem dX12_canons_106 : decode cX12_canons 106 = .ok (.isub, 1) := by decide +kernel
theorem dX12_canons_107 : decode cX12_canons 107 = .ok (.ishl, 1) := by decide +kernel
theorem dX12_canons_108 : decode cX12_canons 108 = .ok (.goto 4, 3) := by decide +kernel
theorem dX12_canons_111 : decode cX12_canons 111 = .ok (.iconst 0, 1) := by decide +kernel
theorem dX12_canons_112 : decode cX12_canons 112 = .ok (.ior, 1) := by decide +kernel
theorem dX12_canons_113 : decode cX12_canons 113 = .ok (.istore 6, 2) := by decide +kernel
theorem dX12_canons_115 : decode cX12_canons 115 = .ok (.iinc 7 1, 3) := by decide +kernel
theorem dX12_canons_118 : decode cX12_canons 118 = .ok (.goto (-41), 3) := by decide +kernel
theorem dX12_canons_121 : decode cX12_canons 121 = .ok (.iload 6, 2) := by decide +kernel
theorem dX12_canons_123 : decode cX12_canons 123 = .ok (.ireturn, 1) := by decide +kernel
theorem dX12_follows_0 : decode cX12_follows 0 = .ok (.iload_n 1, 1) := by decide +kernel
theorem dX12_follows_1 : decode cX12_follows 1 = .ok (.invokestatic 153, 3) := by decide +kernel
theorem dX12_follows_4 : decode cX12_follows 4 = .ok (.ifCond .eq 46, 3) := by decide +kernel
theorem dX12_follows_7 : decode cX12_follows 7 = .ok (.iload_n 2, 1) := by decide +kernel
theorem dX12_follows_8 : decode cX12_follows 8 = .ok (.iconst 0, 1) := by decide +kernel
theorem dX12_follows_9 : decode cX12_follows 9 = .ok (.sipush 1000, 3) := by decide +kernel
theorem dX12_follows_12 : decode cX12_follows 12 = .ok (.invokestatic 129, 3) := by decide +kernel
theorem dX12_follows_15 : decode cX12_follows 15 = .ok (.ifCond .eq 35, 3) := by decide +kernel
theorem dX12_follows_18 : decode cX12_follows 18 = .ok (.iload_n 3, 1) := by decide +kernel
theorem dX12_follows_19 : decode cX12_follows 19 = .ok (.iconst 0, 1) := by decide +kernel
theorem dX12_follows_20 : decode cX12_follows 20 = .ok (.bipush 60, 2) := by decide +kernel
theorem dX12_follows_22 : decode cX12_follows 22 = .ok (.invokestatic 129, 3) := by decide +kernel
theorem dX12_follows_25 : decode cX12_follows 25 = .ok (.ifCond .eq 25, 3) := by decide +kernel
theorem dX12_follows_28 : decode cX12_follows 28 = .ok (.iload 4, 2) := by decide +kernel
theorem dX12_follows_30 : decode cX12_follows 30 = .ok (.bipush (-60), 2) := by decide +kernel
theorem dX12_follows_32 : decode cX12_follows 32 = .ok (.bipush 60, 2) := by decide +kernel
theorem dX12_follows_34 : decode cX12_follows 34 = .ok (.invokestatic 129, 3) := by decide +kernel
theorem dX12_follows_37 : decode cX12_follows 37 = .ok (.ifCond .eq 13, 3) := by decide +kernel
theorem dX12_follows_40 : decode cX12_follows 40 = .ok (.iload 5, 2) := by decide +kernel
theorem dX12_follows_42 : decode cX12_follows 42 = .ok (.iconst 0, 1) := by decide +kernel
theorem dX12_follows_43 : decode cX12_follows 43 = .ok (.iconst 2, 1) := by decide +kernel
theorem dX12_follows_44 : decode cX12_follows 44 = .ok (.invokestatic 129, 3) := by decide +kernel
theorem dX12_follows_47 : decode cX12_follows 47 = .ok (.ifCond .ne 5, 3) := by decide +kernel
theorem dX12_follows_50 : decode cX12_follows 50 = .ok (.iconst (-1), 1) := by decide +kernel
theorem dX12_follows_51 : decode cX12_follows 51 = .ok (.ireturn, 1) := by decide +kernel
theorem dX12_follows_52 : decode cX12_follows 52 = .ok (.aload_n 0, 1) := by decide +kernel
theorem dX12_follows_53 : decode cX12_follows 53 = .ok (.iconst 0, 1) := by decide +kernel
theorem dX12_follows_54 : decode cX12_follows 54 = .ok (.putfield 126, 3) := by decide +kernel
theorem dX12_follows_57 : decode cX12_follows 57 = .ok (.aload_n 0, 1) := by decide +kernel
theorem dX12_follows_58 : decode cX12_follows 58 = .ok (.iload_n 1, 1) := by decide +kernel
theorem dX12_follows_59 : decode cX12_follows 59 = .ok (.invokevirtual 165, 3) := by decide +kernel
theorem dX12_follows_62 : decode cX12_follows 62 = .ok (.istore 6, 2) := by decide +kernel
theorem dX12_follows_64 : decode cX12_follows 64 = .ok (.iload 6, 2) := by decide +kernel
theorem dX12_follows_66 : decode cX12_follows 66 = .ok (.ifCond .le 10, 3) := by decide +kernel
theorem dX12_follows_69 : decode cX12_follows 69 = .ok (.aload_n 0, 1) := by decide +kernel
theorem dX12_follows_70 : decode cX12_follows 70 = .ok (.iload 6, 2) := by decide +kernel
theorem dX12_follows_72 : decode cX12_follows 72 = .ok (.invokevirtual 157, 3) := by decide +kernel
theorem dX12_follows_75 : decode cX12_follows 75 = .ok (.ireturn, 1) := by decide +kernel
theorem dX12_follows_76 : decode cX12_follows 76 = .ok (.aload_n 0, 1) := by decide +kernel
theorem dX12_follows_77 : decode cX12_follows 77 = .ok (.iload_n 1, 1) := by decide +kernel
theorem dX12_follows_78 : decode cX12_follows 78 = .ok (.invokevirtual 168, 3) := by decide +kernel
theorem dX12_follows_81 : decode cX12_follows 81 = .ok (.aload_n 0, 1) := by decide +kernel
theorem dX12_follows_82 : decode cX12_follows 82 = .ok (.iload_n 1, 1) := by decide +kernel
theorem dX12_follows_83 : decode cX12_follows 83 = .ok (.iload_n 2, 1) := by decide +kernel
theorem dX12_follows_84 : decode cX12_follows 84 = .ok (.iload_n 3, 1) := by decide +kernel
theorem dX12_follows_85 : decode cX12_follows 85 = .ok (.iload 4, 2) := by decide +kernel
theorem dX12_follows_87 : decode cX12_follows 87 = .ok (.iload 5, 2) := by decide +kernel
theorem dX12_follows_89 : decode cX12_follows 89 = .ok (.invokevirtual 268, 3) := by decide +kernel
theorem dX12_follows_92 : decode cX12_follows 92 = .ok (.ireturn, 1) := by decide +kernel
theorem dX12_set_0 : decode cX12_set 0 = .ok (.iload_n 1, 1) := by decide +kernel
theorem dX12_set_1 : decode cX12_set 1 = .ok (.invokestatic 153, 3) := by decide +kernel
theorem dX12_set_4 : decode cX12_set 4 = .ok (.ifCond .eq 67, 3) := by decide +kernel
theorem dX12_set_7 : decode cX12_set 7 = .ok (.iload_n 2, 1) := by decide +kernel
theorem dX12_set_8 : decode cX12_set 8 = .ok (.invokestatic 153, 3) := by decide +kernel
theorem dX12_set_11 : decode cX12_set 11 = .ok (.ifCond .eq 60, 3) := by decide +kernel
theorem dX12_set_14 : decode cX12_set 14 = .ok (.iload_n 3, 1) := by decide +kernel
theorem dX12_set_15 : decode cX12_set 15 = .ok (.invokestatic 181, 3) := by decide +kernel
theorem dX12_set_18 : decode cX12_set 18 = .ok (.ifCond .eq 53, 3) := by decide +kernel
theorem dX12_set_21 : decode cX12_set 21 = .ok (.iload 7, 2) := by decide +kernel
theorem dX12_set_23 : decode cX12_set 23 = .ok (.iconst 0, 1) := by decide +kernel
theorem dX12_set_24 : decode cX12_set 24 = .ok (.bipush 30, 2) := by decide +kernel
theorem dX12_set_26 : decode cX12_set 26 = .ok (.invokestatic 129, 3) := by decide +kernel
theorem dX12_set_29 : decode cX12_set 29 = .ok (.ifCond .eq 42, 3) := by decide +kernel
theorem dX12_set_32 : decode cX12_set 32 = .ok (.iload 5, 2) := by decide +kernel
theorem dX12_set_34 : decode cX12_set 34 = .ok (.iconst 1, 1) := by decide +kernel
theorem dX12_set_35 : decode cX12_set 35 = .ok (.bipush 120, 2) := by decide +kernel
theorem dX12_set_37 : decode cX12_set 37 = .ok (.invokestatic 129, 3) := by decide +kernel
theorem dX12_set_40 : decode cX12_set 40 = .ok (.ifCond .eq 31, 3) := by decide +kernel
theorem dX12_set_43 : decode cX12_set 43 = .ok (.iload 6, 2) := by decide +kernel
theorem dX12_set_45 : decode cX12_set 45 = .ok (.iconst 1, 1) := by decide +kernel
theorem dX12_set_46 : decode cX12_set 46 = .ok (.bipush 120, 2) := by decide +kernel
theorem dX12_set_48 : decode cX12_set 48 = .ok (.invokestatic 129, 3) := by decide +kernel
theorem dX12_set_51 : decode cX12_set 51 = .ok (.ifCond .eq 20, 3) := by decide +kernel
theorem dX12_set_54 : decode cX12_set 54 = .ok (.iload 5, 2) := by decide +kernel
theorem dX12_set_56 : decode cX12_set 56 = .ok (.iload 6, 2) := by decide +kernel
theorem dX12_set_58 : decode cX12_set 58 = .ok (.if_icmp .gt 13, 3) := by decide +kernel
theorem dX12_set_61 : decode cX12_set 61 = .ok (.iload 6, 2) := by decide +kernel
theorem dX12_set_63 : decode cX12_set 63 = .ok (.iload 5, 2) := by decide +kernel
theorem dX12_set_65 : decode cX12_set 65 = .ok (.isub, 1) := by decide +kernel
theorem dX12_set_66 : decode cX12_set 66 = .ok (.bipush 15, 2) := by decide +kernel
theorem dX12_set_68 : decode cX12_set 68 = .ok (.if_icmp .le 5, 3) := by decide +kernel
theorem dX12_set_71 : decode cX12_set 71 = .ok (.iconst (-1), 1) := by decide +kernel
theorem dX12_set_72 : decode cX12_set 72 = .ok (.ireturn, 1) := by decide +kernel
theorem dX12_set_73 : decode cX12_set 73 = .ok (.aload_n 0, 1) := by decide +kernel
theorem dX12_set_74 : decode cX12_set 74 = .ok (.iconst 0, 1) := by decide +kernel
theorem dX12_set_75 : decode cX12_set 75 = .ok (.putfield 126, 3) := by decide +kernel
theorem dX12_set_78 : decode cX12_set 78 = .ok (.aload_n 0, 1) := by decide +kernel
theorem dX12_set_79 : decode cX12_set 79 = .ok (.iload_n 2, 1) := by decide +kernel
theorem dX12_set_80 : decode cX12_set 80 = .ok (.invokevirtual 165, 3) := by decide +kernel
theorem dX12_set_83 : decode cX12_set 83 = .ok (.istore 8, 2) := by decide +kernel
theorem dX12_set_85 : decode cX12_set 85 = .ok (.iload 8, 2) := by decide +kernel
theorem dX12_set_87 : decode cX12_set 87 = .ok (.ifCond .le 10, 3) := by decide +kernel
theorem dX12_set_90 : decode cX12_set 90 = .ok (.aload_n 0, 1) := by decide +kernel
theorem dX12_set_91 : decode cX12_set 91 = .ok (.iload 8, 2) := by decide +kernel
theorem dX12_set_93 : decode cX12_set 93 = .ok (.invokevirtual 157, 3) := by decide +kernel
theorem dX12_set_96 : decode cX12_set 96 = .ok (.ireturn, 1) := by decide +kernel
theorem dX12_set_97 : decode cX12_set 97 = .ok (.aload_n 0, 1) := by decide +kernel
theorem dX12_set_98 : decode cX12_set 98 = .ok (.iconst 1, 1) := by decide +kernel
theorem dX12_set_99 : decode cX12_set 99 = .ok (.putfield 355, 3) := by decide +kernel
theorem dX12_set_102 : decode cX12_set 102 = .ok (.aload_n 0, 1) := by decide +kernel
theorem dX12_set_103 : decode cX12_set 103 = .ok (.iload_n 1, 1) := by decide +kernel
theorem dX12_set_104 : decode cX12_set 104 = .ok (.putfield 358, 3) := by decide +kernel
theorem dX12_set_107 : decode cX12_set 107 = .ok (.aload_n 0, 1) := by decide +kernel
theorem dX12_set_108 : decode cX12_set 108 = .ok (.iload_n 3, 1) := by decide +kernel
theorem dX12_set_109 : decode cX12_set 109 = .ok (.putfield 290, 3) := by decide +kernel
theorem dX12_set_112 : decode cX12_set 112 = .ok (.aload_n 0, 1) := by decide +kernel
theorem dX12_set_113 : decode cX12_set 113 = .ok (.iload 4, 2) := by decide +kernel
theorem dX12_set_115 : decode cX12_set 115 = .ok (.putfield 287, 3) := by decide +kernel
theorem dX12_set_118 : decode cX12_set 118 = .ok (.aload_n 0, 1) := by decide +kernel
theorem dX12_set_119 : decode cX12_set 119 = .ok (.iload 5, 2) := by decide +kernel
theorem dX12_set_121 : decode cX12_set 121 = .ok (.putfield 278, 3) := by decide +kernel
theorem dX12_set_124 : decode cX12_set 124 = .ok (.aload_n 0, 1) := by decide +kernel
theorem dX12_set_125 : decode cX12_set 125 = .ok (.iload 6, 2) := by decide +kernel
theorem dX12_set_127 : decode cX12_set 127 = .ok (.putfield 299, 3) := by decide +kernel
theorem dX12_set_130 : decode cX12_set 130 = .ok (.aload_n 0, 1) := by decide +kernel
theorem dX12_set_131 : decode cX12_set 131 = .ok (.aload_n 0, 1) := by decide +kernel
theorem dX12_set_132 : decode cX12_set 132 = .ok (.getfield 13, 3) := by decide +kernel
theorem dX12_set_135 : decode cX12_set 135 = .ok (.iconst 2, 1) := by decide +kernel
theorem dX12_set_136 : decode cX12_set 136 = .ok (.iload_n 2, 1) := by decide +kernel
theorem dX12_set_137 : decode cX12_set 137 = .ok (.imul, 1) := by decide +kernel
theorem dX12_set_138 : decode cX12_set 138 = .ok (.iaload, 1) := by decide +kernel
theorem dX12_set_139 : decode cX12_set 139 = .ok (.putfield 281, 3) := by decide +kernel
theorem dX12_set_142 : decode cX12_set 142 = .ok (.iconst 0, 1) := by decide +kernel
theorem dX12_set_143 : decode cX12_set 143 = .ok (.istore 9, 2) := by decide +kernel
theorem dX12_set_145 : decode cX12_set 145 = .ok (.iconst 0, 1) := by decide +kernel
theorem dX12_set_146 : decode cX12_set 146 = .ok (.istore 10, 2) := by decide +kernel
theorem dX12_set_148 : decode cX12_set 148 = .ok (.iload 10, 2) := by decide +kernel
theorem dX12_set_150 : decode cX12_set 150 = .ok (.aload_n 0, 1) := by decide +kernel
theorem dX12_set_151 : decode cX12_set 151 = .ok (.getfield 281, 3) := by decide +kernel
theorem dX12_set_154 : decode cX12_set 154 = .ok (.if_icmp .ge 58, 3) := by decide +kernel
theorem dX12_set_157 : decode cX12_set 157 = .ok (.aload_n 0, 1) := by decide +kernel
theorem dX12_set_158 : decode cX12_set 158 = .ok (.getfield 96, 3) := by decide +kernel
theorem dX12_set_161 : decode cX12_set 161 = .ok (.iload 10, 2) := by decide +kernel
theorem dX12_set_163 : decode cX12_set 163 = .ok (.aload_n 0, 1) := by decide +kernel
theorem dX12_set_164 : decode cX12_set 164 = .ok (.iload_n 2, 1) := by decide +kernel
theorem dX12_set_165 : decode cX12_set 165 = .ok (.iload 10, 2) := by decide +kernel
theorem dX12_set_167 : decode cX12_set 167 = .ok (.invokevirtual 150, 3) := by decide +kernel
theorem dX12_set_170 : decode cX12_set 170 = .ok (.iastore, 1) := by decide +kernel
theorem dX12_set_171 : decode cX12_set 171 = .ok (.aload_n 0, 1) := by decide +kernel
theorem dX12_set_172 : decode cX12_set 172 = .ok (.getfield 99, 3) := by decide +kernel
theorem dX12_set_175 : decode cX12_set 175 = .ok (.iload 10, 2) := by decide +kernel
theorem dX12_set_177 : decode cX12_set 177 = .ok (.aload_n 0, 1) := by decide +kernel
theorem dX12_set_178 : decode cX12_set 178 = .ok (.iload_n 2, 1) := by decide +kernel
theorem dX12_set_179 : decode cX12_set 179 = .ok (.iload 10, 2) := by decide +kernel
theorem dX12_set_181 : decode cX12_set 181 = .ok (.invokevirtual 146, 3) := by decide +kernel
theorem dX12_set_184 : decode cX12_set 184 = .ok (.iastore, 1) := by decide +kernel
theorem dX12_set_185 : decode cX12_set 185 = .ok (.aload_n 0, 1) := by decide +kernel
theorem dX12_set_186 : decode cX12_set 186 = .ok (.getfield 102, 3) := by decide +kernel
theorem dX12_set_189 : decode cX12_set 189 = .ok (.iload 10, 2) := by decide +kernel
theorem dX12_set_191 : decode cX12_set 191 = .ok (.iload 9, 2) := by decide +kernel
theorem dX12_set_193 : decode cX12_set 193 = .ok (.iastore, 1) := by decide +kernel
theorem dX12_set_194 : decode cX12_set 194 = .ok (.iload 9, 2) := by decide +kernel
theorem dX12_set_196 : decode cX12_set 196 = .ok (.aload_n 0, 1) := by decide +kernel
theorem dX12_set_197 : decode cX12_set 197 = .ok (.getfield 99, 3) := by decide +kernel
theorem dX12_set_200 : decode cX12_set 200 = .ok (.iload 10, 2) := by decide +kernel
theorem dX12_set_202 : decode cX12_set 202 = .ok (.iaload, 1) := by decide +kernel
theorem dX12_set_203 : decode cX12_set 203 = .ok (.iadd, 1) := by decide +kernel
theorem dX12_set_204 : decode cX12_set 204 = .ok (.istore 9, 2) := by decide +kernel
theorem dX12_set_206 : decode cX12_set 206 = .ok (.iinc 10 1, 3) := by decide +kernel
theorem dX12_set_209 : decode cX12_set 209 = .ok (.goto (-61), 3) := by decide +kernel
theorem dX12_set_212 : decode cX12_set 212 = .ok (.aload_n 0, 1) := by decide +kernel
theorem dX12_set_213 : decode cX12_set 213 = .ok (.iconst 0, 1) := by decide +kernel
theorem dX12_set_214 : decode cX12_set 214 = .ok (.putfield 361, 3) := by decide +kernel
theorem dX12_set_217 : decode cX12_set 217 = .ok (.aload_n 0, 1) := by decide +kernel
theorem dX12_set_218 : decode cX12_set 218 = .ok (.iconst 0, 1) := by decide +kernel
theorem dX12_set_219 : decode cX12_set 219 = .ok (.putfield 340, 3) := by decide +kernel
theorem dX12_set_222 : decode cX12_set 222 = .ok (.aload_n 0, 1) := by decide +kernel
theorem dX12_set_223 : decode cX12_set 223 = .ok (.iconst 0, 1) := by decide +kernel
theorem dX12_set_224 : decode cX12_set 224 = .ok (.putfield 364, 3) := by decide +kernel
theorem dX12_set_227 : decode cX12_set 227 = .ok (.aload_n 0, 1) := by decide +kernel
theorem dX12_set_228 : decode cX12_set 228 = .ok (.iload 7, 2) := by decide +kernel
theorem dX12_set_230 : decode cX12_set 230 = .ok (.invokevirtual 367, 3) := by decide +kernel
theorem dX12_set_233 : decode cX12_set 233 = .ok (.ireturn, 1) := by decide +kernel
theorem dX12_goOn_0 : decode cX12_goOn 0 = .ok (.iload_n 1, 1) := by decide +kernel
theorem dX12_goOn_1 : decode cX12_goOn 1 = .ok (.iconst 0, 1) := by decide +kernel
theorem dX12_goOn_2 : decode cX12_goOn 2 = .ok (.bipush 30, 2) := by decide +kernel
theorem dX12_goOn_4 : decode cX12_goOn 4 = .ok (.invokestatic 129, 3) := by decide +kernel
theorem dX12_goOn_7 : decode cX12_goOn 7 = .ok (.ifCond .ne 5, 3) := by decide +kernel
theorem dX12_goOn_10 : decode cX12_goOn 10 = .ok (.iconst (-1), 1) := by decide +kernel
theorem dX12_goOn_11 : decode cX12_goOn 11 = .ok (.ireturn, 1) := by decide +kernel
theorem dX12_goOn_12 : decode cX12_goOn 12 = .ok (.aload_n 0, 1) := by decide +kernel
theorem dX12_goOn_13 : decode cX12_goOn 13 = .ok (.iconst 0, 1) := by decide +kernel
theorem dX12_goOn_14 : decode cX12_goOn 14 = .ok (.putfield 126, 3) := by decide +kernel
theorem dX12_goOn_17 : decode cX12_goOn 17 = .ok (.aload_n 0, 1) := by decide +kernel
theorem dX12_goOn_18 : decode cX12_goOn 18 = .ok (.getfield 355, 3) := by decide +kernel
theorem dX12_goOn_21 : decode cX12_goOn 21 = .ok (.ifCond .eq 10, 3) := by decide +kernel
theorem dX12_goOn_24 : decode cX12_goOn 24 = .ok (.aload_n 0, 1) := by decide +kernel
theorem dX12_goOn_25 : decode cX12_goOn 25 = .ok (.getfield 364, 3) := by decide +kernel
theorem dX12_goOn_28 : decode cX12_goOn 28 = .ok (.ifCond .eq 12, 3) := by decide +kernel
theorem dX12_goOn_31 : decode cX12_goOn 31 = .ok (.aload_n 0, 1) := by decide +kernel
theorem dX12_goOn_32 : decode cX12_goOn 32 = .ok (.bipush 7, 2) := by decide +kernel
theorem dX12_goOn_34 : decode cX12_goOn 34 = .ok (.invokevirtual 157, 3) := by decide +kernel
theorem dX12_goOn_37 : decode cX12_goOn 37 = .ok (.goto 8, 3) := by decide +kernel
theorem dX12_goOn_40 : decode cX12_goOn 40 = .ok (.aload_n 0, 1) := by decide +kernel
theorem dX12_goOn_41 : decode cX12_goOn 41 = .ok (.iload_n 1, 1) := by decide +kernel
theorem dX12_goOn_42 : decode cX12_goOn 42 = .ok (.invokevirtual 367, 3) := by decide +kernel
theorem dX12_goOn_45 : decode cX12_goOn 45 = .ok (.ireturn, 1) := by decide +kernel
theorem dX12_least_0 : decode cX12_least 0 = .ok (.aload_n 0, 1) := by decide +kernel
theorem dX12_least_1 : decode cX12_least 1 = .ok (.getfield 355, 3) := by decide +kernel
theorem dX12_least_4 : decode cX12_least 4 = .ok (.ifCond .eq 24, 3) := by decide +kernel
theorem dX12_least_7 : decode cX12_least 7 = .ok (.aload_n 0, 1) := by decide +kernel
theorem dX12_least_8 : decode cX12_least 8 = .ok (.getfield 340, 3) := by decide +kernel
theorem dX12_least_11 : decode cX12_least 11 = .ok (.ifCond .eq 17, 3) := by decide +kernel
theorem dX12_least_14 : decode cX12_least 14 = .ok (.aload_n 0, 1) := by decide +kernel
theorem dX12_least_15 : decode cX12_least 15 = .ok (.getfield 352, 3) := by decide +kernel
theorem dX12_least_18 : decode cX12_least 18 = .ok (.ifCond .eq 10, 3) := by decide +kernel
theorem dX12_least_21 : decode cX12_least 21 = .ok (.aload_n 0, 1) := by decide +kernel
theorem dX12_least_22 : decode cX12_least 22 = .ok (.getfield 346, 3) := by decide +kernel
theorem dX12_least_25 : decode cX12_least 25 = .ok (.goto 5, 3) := by decide +kernel
theorem dX12_least_28 : decode cX12_least 28 = .ok (.bipush (-2), 2) := by decide +kernel
theorem dX12_least_30 : decode cX12_least 30 = .ok (.ireturn, 1) := by decide +kernel
theorem dX12_many_0 : decode cX12_many 0 = .ok (.aload_n 0, 1) := by decide +kernel
theorem dX12_many_1 : decode cX12_many 1 = .ok (.getfield 355, 3) := by decide +kernel
theorem dX12_many_4 : decode cX12_many 4 = .ok (.ifCond .eq 17, 3) := by decide +kernel
theorem dX12_many_7 : decode cX12_many 7 = .ok (.aload_n 0, 1) := by decide +kernel
theorem dX12_many_8 : decode cX12_many 8 = .ok (.getfield 340, 3) := by decide +kernel
theorem dX12_many_11 : decode cX12_many 11 = .ok (.ifCond .eq 10, 3) := by decide +kernel
theorem dX12_many_14 : decode cX12_many 14 = .ok (.aload_n 0, 1) := by decide +kernel
theorem dX12_many_15 : decode cX12_many 15 = .ok (.getfield 349, 3) := by decide +kernel
theorem dX12_many_18 : decode cX12_many 18 = .ok (.goto 5, 3) := by decide +kernel
theorem dX12_many_21 : decode cX12_many 21 = .ok (.bipush (-2), 2) := by decide +kernel
theorem dX12_many_23 : decode cX12_many 23 = .ok (.ireturn, 1) := by decide +kernel
theorem dX12_row_0 : decode cX12_row 0 = .ok (.aload_n 0, 1) := by decide +kernel
theorem dX12_row_1 : decode cX12_row 1 = .ok (.getfield 355, 3) := by decide +kernel
theorem dX12_row_4 : decode cX12_row 4 = .ok (.ifCond .ne 6, 3) := by decide +kernel
theorem dX12_row_7 : decode cX12_row 7 = .ok (.bipush (-2), 2) := by decide +kernel
theorem dX12_row_9 : decode cX12_row 9 = .ok (.ireturn, 1) := by decide +kernel
theorem dX12_row_10 : decode cX12_row 10 = .ok (.iload_n 2, 1) := by decide +kernel
theorem dX12_row_11 : decode cX12_row 11 = .ok (.aload_n 0, 1) := by decide +kernel
theorem dX12_row_12 : decode cX12_row 12 = .ok (.getfield 278, 3) := by decide +kernel
theorem dX12_row_15 : decode cX12_row 15 = .ok (.aload_n 0, 1) := by decide +kernel
theorem dX12_row_16 : decode cX12_row 16 = .ok (.getfield 299, 3) := by decide +kernel
theorem dX12_row_19 : decode cX12_row 19 = .ok (.invokestatic 129, 3) := by decide +kernel
theorem dX12_row_22 : decode cX12_row 22 = .ok (.ifCond .eq 12, 3) := by decide +kernel
theorem dX12_row_25 : decode cX12_row 25 = .ok (.iload_n 3, 1) := by decide +kernel
theorem dX12_row_26 : decode cX12_row 26 = .ok (.iconst 0, 1) := by decide +kernel
theorem dX12_row_27 : decode cX12_row 27 = .ok (.iconst 2, 1) := by decide +kernel
theorem dX12_row_28 : decode cX12_row 28 = .ok (.invokestatic 129, 3) := by decide +kernel
theorem dX12_row_31 : decode cX12_row 31 = .ok (.ifCond .ne 5, 3) := by decide +kernel
theorem dX12_row_34 : decode cX12_row 34 = .ok (.iconst (-1), 1) := by decide +kernel
theorem dX12_row_35 : decode cX12_row 35 = .ok (.ireturn, 1) := by decide +kernel
theorem dX12_row_36 : decode cX12_row 36 = .ok (.aload_n 0, 1) := by decide +kernel
theorem dX12_row_37 : decode cX12_row 37 = .ok (.iload_n 1, 1) := by decide +kernel
theorem dX12_row_38 : decode cX12_row 38 = .ok (.invokevirtual 379, 3) := by decide +kernel
theorem dX12_row_41 : decode cX12_row 41 = .ok (.ifCond .eq 18, 3) := by decide +kernel
theorem dX12_row_44 : decode cX12_row 44 = .ok (.aload_n 0, 1) := by decide +kernel
theorem dX12_row_45 : decode cX12_row 45 = .ok (.getfield 105, 3) := by decide +kernel
theorem dX12_row_48 : decode cX12_row 48 = .ok (.aload_n 0, 1) := by decide +kernel
theorem dX12_row_49 : decode cX12_row 49 = .ok (.iload_n 1, 1) := by decide +kernel
theorem dX12_row_50 : decode cX12_row 50 = .ok (.iload_n 2, 1) := by decide +kernel
theorem dX12_row_51 : decode cX12_row 51 = .ok (.iload_n 3, 1) := by decide +kernel
theorem dX12_row_52 : decode cX12_row 52 = .ok (.invokevirtual 322, 3) := by decide +kernel
theorem dX12_row_55 : decode cX12_row 55 = .ok (.iaload, 1) := by decide +kernel
theorem dX12_row_56 : decode cX12_row 56 = .ok (.goto 5, 3) := by decide +kernel
theorem dX12_row_59 : decode cX12_row 59 = .ok (.bipush (-2), 2) := by decide +kernel
theorem dX12_row_61 : decode cX12_row 61 = .ok (.ireturn, 1) := by decide +kernel
theorem dX12_spoil_0 : decode cX12_spoil 0 = .ok (.aload_n 0, 1) := by decide +kernel
theorem dX12_spoil_1 : decode cX12_spoil 1 = .ok (.getfield 355, 3) := by decide +kernel
theorem dX12_spoil_4 : decode cX12_spoil 4 = .ok (.ifCond .ne 6, 3) := by decide +kernel
theorem dX12_spoil_7 : decode cX12_spoil 7 = .ok (.bipush (-2), 2) := by decide +kernel
theorem dX12_spoil_9 : decode cX12_spoil 9 = .ok (.ireturn, 1) := by decide +kernel
theorem dX12_spoil_10 : decode cX12_spoil 10 = .ok (.iload_n 2, 1) := by decide +kernel
theorem dX12_spoil_11 : decode cX12_spoil 11 = .ok (.aload_n 0, 1) := by decide +kernel
theorem dX12_spoil_12 : decode cX12_spoil 12 = .ok (.getfield 278, 3) := by decide +kernel
theorem dX12_spoil_15 : decode cX12_spoil 15 = .ok (.aload_n 0, 1) := by decide +kernel
theorem dX12_spoil_16 : decode cX12_spoil 16 = .ok (.getfield 299, 3) := by decide +kernel
theorem dX12_spoil_19 : decode cX12_spoil 19 = .ok (.invokestatic 129, 3) := by decide +kernel
theorem dX12_spoil_22 : decode cX12_spoil 22 = .ok (.ifCond .eq 24, 3) := by decide +kernel
theorem dX12_spoil_25 : decode cX12_spoil 25 = .ok (.iload_n 3, 1) := by decide +kernel
theorem dX12_spoil_26 : decode cX12_spoil 26 = .ok (.iconst 0, 1) := by decide +kernel
theorem dX12_spoil_27 : decode cX12_spoil 27 = .ok (.iconst 2, 1) := by decide +kernel
theorem dX12_spoil_28 : decode cX12_spoil 28 = .ok (.invokestatic 129, 3) := by decide +kernel
theorem dX12_spoil_31 : decode cX12_spoil 31 = .ok (.ifCond .eq 15, 3) := by decide +kernel
theorem dX12_spoil_34 : decode cX12_spoil 34 = .ok (.iload 4, 2) := by decide +kernel
theorem dX12_spoil_36 : decode cX12_spoil 36 = .ok (.iconst 0, 1) := by decide +kernel
theorem dX12_spoil_37 : decode cX12_spoil 37 = .ok (.ldc_w 314, 3) := by decide +kernel
theorem dX12_spoil_40 : decode cX12_spoil 40 = .ok (.invokestatic 129, 3) := by decide +kernel
theorem dX12_spoil_43 : decode cX12_spoil 43 = .ok (.ifCond .ne 5, 3) := by decide +kernel
theorem dX12_spoil_46 : decode cX12_spoil 46 = .ok (.iconst (-1), 1) := by decide +kernel
theorem dX12_spoil_47 : decode cX12_spoil 47 = .ok (.ireturn, 1) := by decide +kernel
theorem dX12_spoil_48 : decode cX12_spoil 48 = .ok (.aload_n 0, 1) := by decide +kernel
theorem dX12_spoil_49 : decode cX12_spoil 49 = .ok (.getfield 340, 3) := by decide +kernel
theorem dX12_spoil_52 : decode cX12_spoil 52 = .ok (.ifCond .eq 11, 3) := by decide +kernel
theorem dX12_spoil_55 : decode cX12_spoil 55 = .ok (.aload_n 0, 1) := by decide +kernel
theorem dX12_spoil_56 : decode cX12_spoil 56 = .ok (.iload_n 1, 1) := by decide +kernel
theorem dX12_spoil_57 : decode cX12_spoil 57 = .ok (.invokevirtual 379, 3) := by decide +kernel
theorem dX12_spoil_60 : decode cX12_spoil 60 = .ok (.ifCond .ne 6, 3) := by decide +kernel
theorem dX12_spoil_63 : decode cX12_spoil 63 = .ok (.bipush (-2), 2) := by decide +kernel
theorem dX12_spoil_65 : decode cX12_spoil 65 = .ok (.ireturn, 1) := by decide +kernel
theorem dX12_spoil_66 : decode cX12_spoil 66 = .ok (.aload_n 0, 1) := by decide +kernel
theorem dX12_spoil_67 : decode cX12_spoil 67 = .ok (.getfield 105, 3) := by decide +kernel
theorem dX12_spoil_70 : decode cX12_spoil 70 = .ok (.aload_n 0, 1) := by decide +kernel
theorem dX12_spoil_71 : decode cX12_spoil 71 = .ok (.iload_n 1, 1) := by decide +kernel
theorem dX12_spoil_72 : decode cX12_spoil 72 = .ok (.iload_n 2, 1) := by decide +kernel
theorem dX12_spoil_73 : decode cX12_spoil 73 = .ok (.iload_n 3, 1) := by decide +kernel
theorem dX12_spoil_74 : decode cX12_spoil 74 = .ok (.invokevirtual 322, 3) := by decide +kernel
theorem dX12_spoil_77 : decode cX12_spoil 77 = .ok (.iaload, 1) := by decide +kernel
theorem dX12_spoil_78 : decode cX12_spoil 78 = .ok (.istore 5, 2) := by decide +kernel
theorem dX12_spoil_80 : decode cX12_spoil 80 = .ok (.aload_n 0, 1) := by decide +kernel
theorem dX12_spoil_81 : decode cX12_spoil 81 = .ok (.getfield 105, 3) := by decide +kernel
theorem dX12_spoil_84 : decode cX12_spoil 84 = .ok (.aload_n 0, 1) := by decide +kernel
theorem dX12_spoil_85 : decode cX12_spoil 85 = .ok (.iload_n 1, 1) := by decide +kernel
theorem dX12_spoil_86 : decode cX12_spoil 86 = .ok (.iload_n 2, 1) := by decide +kernel
theorem dX12_spoil_87 : decode cX12_spoil 87 = .ok (.iload_n 3, 1) := by decide +kernel
theorem dX12_spoil_88 : decode cX12_spoil 88 = .ok (.invokevirtual 322, 3) := by decide +kernel
theorem dX12_spoil_91 : decode cX12_spoil 91 = .ok (.iload 4, 2) := by decide +kernel
theorem dX12_spoil_93 : decode cX12_spoil 93 = .ok (.iastore, 1) := by decide +kernel
theorem dX12_spoil_94 : decode cX12_spoil 94 = .ok (.iload 5, 2) := by decide +kernel
theorem dX12_spoil_96 : decode cX12_spoil 96 = .ok (.ireturn, 1) := by decide +kernel
theorem dX12_check_0 : decode cX12_check 0 = .ok (.aload_n 0, 1) := by decide +kernel
theorem dX12_check_1 : decode cX12_check 1 = .ok (.iconst 0, 1) := by decide +kernel
theorem dX12_check_2 : decode cX12_check 2 = .ok (.putfield 126, 3) := by decide +kernel
theorem dX12_check_5 : decode cX12_check 5 = .ok (.aload_n 0, 1) := by decide +kernel
theorem dX12_check_6 : decode cX12_check 6 = .ok (.getfield 355, 3) := by decide +kernel
theorem dX12_check_9 : decode cX12_check 9 = .ok (.ifCond .eq 10, 3) := by decide +kernel
theorem dX12_check_12 : decode cX12_check 12 = .ok (.aload_n 0, 1) := by decide +kernel
theorem dX12_check_13 : decode cX12_check 13 = .ok (.getfield 340, 3) := by decide +kernel
theorem dX12_check_16 : decode cX12_check 16 = .ok (.ifCond .ne 6, 3) := by decide +kernel
theorem dX12_check_19 : decode cX12_check 19 = .ok (.bipush (-2), 2) := by decide +kernel
theorem dX12_check_21 : decode cX12_check 21 = .ok (.ireturn, 1) := by decide +kernel
theorem dX12_check_22 : decode cX12_check 22 = .ok (.aload_n 0, 1) := by decide +kernel
theorem dX12_check_23 : decode cX12_check 23 = .ok (.getfield 53, 3) := by decide +kernel
theorem dX12_check_26 : decode cX12_check 26 = .ok (.aload_n 0, 1) := by decide +kernel
theorem dX12_check_27 : decode cX12_check 27 = .ok (.getfield 290, 3) := by decide +kernel
theorem dX12_check_30 : decode cX12_check 30 = .ok (.iaload, 1) := by decide +kernel
theorem dX12_check_31 : decode cX12_check 31 = .ok (.ifCond .ne 9, 3) := by decide +kernel
theorem dX12_check_34 : decode cX12_check 34 = .ok (.aload_n 0, 1) := by decide +kernel
theorem dX12_check_35 : decode cX12_check 35 = .ok (.iconst 1, 1) := by decide +kernel
theorem dX12_check_36 : decode cX12_check 36 = .ok (.invokevirtual 157, 3) := by decide +kernel
theorem dX12_check_39 : decode cX12_check 39 = .ok (.ireturn, 1) := by decide +kernel
theorem dX12_check_40 : decode cX12_check 40 = .ok (.aload_n 0, 1) := by decide +kernel
theorem dX12_check_41 : decode cX12_check 41 = .ok (.iconst 0, 1) := by decide +kernel
theorem dX12_check_42 : decode cX12_check 42 = .ok (.putfield 201, 3) := by decide +kernel
theorem dX12_check_45 : decode cX12_check 45 = .ok (.aload_n 0, 1) := by decide +kernel
theorem dX12_check_46 : decode cX12_check 46 = .ok (.invokevirtual 370, 3) := by decide +kernel
theorem dX12_check_49 : decode cX12_check 49 = .ok (.iconst 1, 1) := by decide +kernel
theorem dX12_check_50 : decode cX12_check 50 = .ok (.istore_n 1, 1) := by decide +kernel
theorem dX12_check_51 : decode cX12_check 51 = .ok (.iconst 0, 1) := by decide +kernel
theorem dX12_check_52 : decode cX12_check 52 = .ok (.istore_n 2, 1) := by decide +kernel
theorem dX12_check_53 : decode cX12_check 53 = .ok (.iload_n 2, 1) := by decide +kernel
theorem dX12_check_54 : decode cX12_check 54 = .ok (.aload_n 0, 1) := by decide +kernel
theorem dX12_check_55 : decode cX12_check 55 = .ok (.getfield 281, 3) := by decide +kernel
theorem dX12_check_58 : decode cX12_check 58 = .ok (.if_icmp .ge 99, 3) := by decide +kernel
theorem dX12_check_61 : decode cX12_check 61 = .ok (.aload_n 0, 1) := by decide +kernel
theorem dX12_check_62 : decode cX12_check 62 = .ok (.iload_n 2, 1) := by decide +kernel
theorem dX12_check_63 : decode cX12_check 63 = .ok (.invokevirtual 284, 3) := by decide +kernel
theorem dX12_check_66 : decode cX12_check 66 = .ok (.ifCond .eq 85, 3) := by decide +kernel
theorem dX12_check_69 : decode cX12_check 69 = .ok (.aload_n 0, 1) := by decide +kernel
theorem dX12_check_70 : decode cX12_check 70 = .ok (.iload_n 2, 1) := by decide +kernel
theorem dX12_check_71 : decode cX12_check 71 = .ok (.invokevirtual 333, 3) := by decide +kernel
theorem dX12_check_74 : decode cX12_check 74 = .ok (.iconst 0, 1) := by decide +kernel
theorem dX12_check_75 : decode cX12_check 75 = .ok (.istore_n 3, 1) := by decide +kernel
theorem dX12_check_76 : decode cX12_check 76 = .ok (.iload_n 3, 1) := by decide +kernel
theorem dX12_check_77 : decode cX12_check 77 = .ok (.iconst 3, 1) := by decide +kernel
theorem dX12_check_78 : decode cX12_check 78 = .ok (.aload_n 0, 1) := by decide +kernel
theorem dX12_check_79 : decode cX12_check 79 = .ok (.getfield 299, 3) := by decide +kernel
theorem dX12_check_82 : decode cX12_check 82 = .ok (.aload_n 0, 1) := by decide +kernel
theorem dX12_check_83 : decode cX12_check 83 = .ok (.getfield 278, 3) := by decide +kernel
theorem dX12_check_86 : decode cX12_check 86 = .ok (.isub, 1) := by decide +kernel
theorem dX12_check_87 : decode cX12_check 87 = .ok (.iconst 1, 1) := by decide +kernel
theorem dX12_check_88 : decode cX12_check 88 = .ok (.iadd, 1) := by decide +kernel
theorem dX12_check_89 : decode cX12_check 89 = .ok (.imul, 1) := by decide +kernel
theorem dX12_check_90 : decode cX12_check 90 = .ok (.if_icmp .ge 61, 3) := by decide +kernel
theorem dX12_check_93 : decode cX12_check 93 = .ok (.aload_n 0, 1) := by decide +kernel
theorem dX12_check_94 : decode cX12_check 94 = .ok (.getfield 278, 3) := by decide +kernel
theorem dX12_check_97 : decode cX12_check 97 = .ok (.iload_n 3, 1) := by decide +kernel
theorem dX12_check_98 : decode cX12_check 98 = .ok (.iconst 3, 1) := by decide +kernel
theorem dX12_check_99 : decode cX12_check 99 = .ok (.idiv, 1) := by decide +kernel
theorem dX12_check_100 : decode cX12_check 100 = .ok (.iadd, 1) := by decide +kernel
theorem dX12_check_101 : decode cX12_check 101 = .ok (.istore 4, 2) := by decide +kernel
theorem dX12_check_103 : decode cX12_check 103 = .ok (.aload_n 0, 1) := by decide +kernel
theorem dX12_check_104 : decode cX12_check 104 = .ok (.iload_n 2, 1) := by decide +kernel
theorem dX12_check_105 : decode cX12_check 105 = .ok (.iload 4, 2) := by decide +kernel
theorem dX12_check_107 : decode cX12_check 107 = .ok (.iload_n 3, 1) := by decide +kernel
theorem dX12_check_108 : decode cX12_check 108 = .ok (.iconst 3, 1) := by decide +kernel
theorem dX12_check_109 : decode cX12_check 109 = .ok (.irem, 1) := by decide +kernel
theorem dX12_check_110 : decode cX12_check 110 = .ok (.invokevirtual 336, 3) := by decide +kernel
theorem dX12_check_113 : decode cX12_check 113 = .ok (.iload_n 1, 1) := by decide +kernel
theorem dX12_check_114 : decode cX12_check 114 = .ok (.ifCond .eq 29, 3) := by decide +kernel
theorem dX12_check_117 : decode cX12_check 117 = .ok (.aload_n 0, 1) := by decide +kernel
theorem dX12_check_118 : decode cX12_check 118 = .ok (.getfield 105, 3) := by decide +kernel
theorem dX12_check_121 : decode cX12_check 121 = .ok (.aload_n 0, 1) := by decide +kernel
theorem dX12_check_122 : decode cX12_check 122 = .ok (.iload_n 2, 1) := by decide +kernel
theorem dX12_check_123 : decode cX12_check 123 = .ok (.iload 4, 2) := by decide +kernel
theorem dX12_check_125 : decode cX12_check 125 = .ok (.iload_n 3, 1) := by decide +kernel
theorem dX12_check_126 : decode cX12_check 126 = .ok (.iconst 3, 1) := by decide +kernel
theorem dX12_check_127 : decode cX12_check 127 = .ok (.irem, 1) := by decide +kernel
theorem dX12_check_128 : decode cX12_check 128 = .ok (.invokevirtual 322, 3) := by decide +kernel
theorem dX12_check_131 : decode cX12_check 131 = .ok (.iaload, 1) := by decide +kernel
theorem dX12_check_132 : decode cX12_check 132 = .ok (.aload_n 0, 1) := by decide +kernel
theorem dX12_check_133 : decode cX12_check 133 = .ok (.getfield 302, 3) := by decide +kernel
theorem dX12_check_136 : decode cX12_check 136 = .ok (.if_icmp .ne 7, 3) := by decide +kernel
theorem dX12_check_139 : decode cX12_check 139 = .ok (.iconst 1, 1) := by decide +kernel
theorem dX12_check_140 : decode cX12_check 140 = .ok (.goto 4, 3) := by decide +kernel
theorem dX12_check_143 : decode cX12_check 143 = .ok (.iconst 0, 1) := by decide +kernel
theorem dX12_check_144 : decode cX12_check 144 = .ok (.istore_n 1, 1) := by decide +kernel
theorem dX12_check_145 : decode cX12_check 145 = .ok (.iinc 3 1, 3) := by decide +kernel
theorem dX12_check_148 : decode cX12_check 148 = .ok (.goto (-72), 3) := by decide +kernel
theorem dX12_check_151 : decode cX12_check 151 = .ok (.iinc 2 1, 3) := by decide +kernel
theorem dX12_check_154 : decode cX12_check 154 = .ok (.goto (-101), 3) := by decide +kernel
theorem dX12_check_157 : decode cX12_check 157 = .ok (.aload_n 0, 1) := by decide +kernel
theorem dX12_check_158 : decode cX12_check 158 = .ok (.invokevirtual 343, 3) := by decide +kernel
theorem dX12_check_161 : decode cX12_check 161 = .ok (.iload_n 1, 1) := by decide +kernel
theorem dX12_check_162 : decode cX12_check 162 = .ok (.ifCond .eq 18, 3) := by decide +kernel
theorem dX12_check_165 : decode cX12_check 165 = .ok (.aload_n 0, 1) := by decide +kernel
theorem dX12_check_166 : decode cX12_check 166 = .ok (.getfield 302, 3) := by decide +kernel
theorem dX12_check_169 : decode cX12_check 169 = .ok (.aload_n 0, 1) := by decide +kernel
theorem dX12_check_170 : decode cX12_check 170 = .ok (.getfield 346, 3) := by decide +kernel
theorem dX12_check_173 : decode cX12_check 173 = .ok (.if_icmp .ne 7, 3) := by decide +kernel
theorem dX12_check_176 : decode cX12_check 176 = .ok (.iconst 1, 1) := by decide +kernel
theorem dX12_check_177 : decode cX12_check 177 = .ok (.goto 4, 3) := by decide +kernel
theorem dX12_check_180 : decode cX12_check 180 = .ok (.iconst 0, 1) := by decide +kernel
theorem dX12_check_181 : decode cX12_check 181 = .ok (.ireturn, 1) := by decide +kernel
theorem dX12_print_0 : decode cX12_print 0 = .ok (.iload_n 1, 1) := by decide +kernel
theorem dX12_print_1 : decode cX12_print 1 = .ok (.invokestatic 153, 3) := by decide +kernel
theorem dX12_print_4 : decode cX12_print 4 = .ok (.ifCond .ne 5, 3) := by decide +kernel
theorem dX12_print_7 : decode cX12_print 7 = .ok (.iconst (-1), 1) := by decide +kernel
theorem dX12_print_8 : decode cX12_print 8 = .ok (.ireturn, 1) := by decide +kernel
theorem dX12_print_9 : decode cX12_print 9 = .ok (.aload_n 0, 1) := by decide +kernel
theorem dX12_print_10 : decode cX12_print 10 = .ok (.iconst 0, 1) := by decide +kernel
theorem dX12_print_11 : decode cX12_print 11 = .ok (.putfield 126, 3) := by decide +kernel
theorem dX12_print_14 : decode cX12_print 14 = .ok (.aload_n 0, 1) := by decide +kernel
theorem dX12_print_15 : decode cX12_print 15 = .ok (.iload_n 1, 1) := by decide +kernel
theorem dX12_print_16 : decode cX12_print 16 = .ok (.invokevirtual 165, 3) := by decide +kernel
theorem dX12_print_19 : decode cX12_print 19 = .ok (.istore_n 2, 1) := by decide +kernel
theorem dX12_print_20 : decode cX12_print 20 = .ok (.iload_n 2, 1) := by decide +kernel
theorem dX12_print_21 : decode cX12_print 21 = .ok (.ifCond .le 9, 3) := by decide +kernel
theorem dX12_print_24 : decode cX12_print 24 = .ok (.aload_n 0, 1) := by decide +kernel
theorem dX12_print_25 : decode cX12_print 25 = .ok (.iload_n 2, 1) := by decide +kernel
theorem dX12_print_26 : decode cX12_print 26 = .ok (.invokevirtual 157, 3) := by decide +kernel
theorem dX12_print_29 : decode cX12_print 29 = .ok (.ireturn, 1) := by decide +kernel
theorem dX12_print_30 : decode cX12_print 30 = .ok (.aload_n 0, 1) := by decide +kernel
theorem dX12_print_31 : decode cX12_print 31 = .ok (.iconst 0, 1) := by decide +kernel
theorem dX12_print_32 : decode cX12_print 32 = .ok (.putfield 382, 3) := by decide +kernel
theorem dX12_print_35 : decode cX12_print 35 = .ok (.iconst 0, 1) := by decide +kernel
theorem dX12_print_36 : decode cX12_print 36 = .ok (.istore_n 3, 1) := by decide +kernel
theorem dX12_print_37 : decode cX12_print 37 = .ok (.iload_n 3, 1) := by decide +kernel
theorem dX12_print_38 : decode cX12_print 38 = .ok (.aload_n 0, 1) := by decide +kernel
theorem dX12_print_39 : decode cX12_print 39 = .ok (.getfield 13, 3) := by decide +kernel
theorem dX12_print_42 : decode cX12_print 42 = .ok (.iconst 2, 1) := by decide +kernel
theorem dX12_print_43 : decode cX12_print 43 = .ok (.iload_n 1, 1) := by decide +kernel
theorem dX12_print_44 : decode cX12_print 44 = .ok (.imul, 1) := by decide +kernel
theorem dX12_print_45 : decode cX12_print 45 = .ok (.iaload, 1) := by decide +kernel
theorem dX12_print_46 : decode cX12_print 46 = .ok (.if_icmp .ge 115, 3) := by decide +kernel
theorem dX12_print_49 : decode cX12_print 49 = .ok (.aload_n 0, 1) := by decide +kernel
theorem dX12_print_50 : decode cX12_print 50 = .ok (.iload_n 1, 1) := by decide +kernel
theorem dX12_print_51 : decode cX12_print 51 = .ok (.iload_n 3, 1) := by decide +kernel
theorem dX12_print_52 : decode cX12_print 52 = .ok (.invokevirtual 150, 3) := by decide +kernel
theorem dX12_print_55 : decode cX12_print 55 = .ok (.istore 4, 2) := by decide +kernel
theorem dX12_print_57 : decode cX12_print 57 = .ok (.iload_n 3, 1) := by decide +kernel
theorem dX12_print_58 : decode cX12_print 58 = .ok (.ifCond .le 9, 3) := by decide +kernel
theorem dX12_print_61 : decode cX12_print 61 = .ok (.aload_n 0, 1) := by decide +kernel
theorem dX12_print_62 : decode cX12_print 62 = .ok (.bipush 32, 2) := by decide +kernel
theorem dX12_print_64 : decode cX12_print 64 = .ok (.invokevirtual 385, 3) := by decide +kernel
theorem dX12_print_67 : decode cX12_print 67 = .ok (.iload 4, 2) := by decide +kernel
theorem dX12_print_69 : decode cX12_print 69 = .ok (.ifCond .ne 9, 3) := by decide +kernel
theorem dX12_print_72 : decode cX12_print 72 = .ok (.aload_n 0, 1) := by decide +kernel
theorem dX12_print_73 : decode cX12_print 73 = .ok (.bipush 82, 2) := by decide +kernel
theorem dX12_print_75 : decode cX12_print 75 = .ok (.invokevirtual 385, 3) := by decide +kernel
theorem dX12_print_78 : decode cX12_print 78 = .ok (.iload 4, 2) := by decide +kernel
theorem dX12_print_80 : decode cX12_print 80 = .ok (.bipush 100, 2) := by decide +kernel
theorem dX12_print_82 : decode cX12_print 82 = .ok (.if_icmp .lt 15, 3) := by decide +kernel
theorem dX12_print_85 : decode cX12_print 85 = .ok (.aload_n 0, 1) := by decide +kernel
theorem dX12_print_86 : decode cX12_print 86 = .ok (.bipush 48, 2) := by decide +kernel
theorem dX12_print_88 : decode cX12_print 88 = .ok (.iload 4, 2) := by decide +kernel
theorem dX12_print_90 : decode cX12_print 90 = .ok (.bipush 100, 2) := by decide +kernel
theorem dX12_print_92 : decode cX12_print 92 = .ok (.idiv, 1) := by decide +kernel
theorem dX12_print_93 : decode cX12_print 93 = .ok (.iadd, 1) := by decide +kernel
theorem dX12_print_94 : decode cX12_print 94 = .ok (.invokevirtual 385, 3) := by decide +kernel
theorem dX12_print_97 : decode cX12_print 97 = .ok (.iload 4, 2) := by decide +kernel
theorem dX12_print_99 : decode cX12_print 99 = .ok (.bipush 10, 2) := by decide +kernel
theorem dX12_print_101 : decode cX12_print 101 = .ok (.if_icmp .lt 18, 3) := by decide +kernel
theorem dX12_print_104 : decode cX12_print 104 = .ok (.aload_n 0, 1) := by decide +kernel
theorem dX12_print_105 : decode cX12_print 105 = .ok (.bipush 48, 2) := by decide +kernel
theorem dX12_print_107 : decode cX12_print 107 = .ok (.iload 4, 2) := by decide +kernel
theorem dX12_print_109 : decode cX12_print 109 = .ok (.bipush 10, 2) := by decide +kernel
theorem dX12_print_111 : decode cX12_print 111 = .ok (.idiv, 1) := by decide +kernel
theorem dX12_print_112 : decode cX12_print 112 = .ok (.bipush 10, 2) := by decide +kernel
theorem dX12_print_114 : decode cX12_print 114 = .ok (.irem, 1) := by decide +kernel
theorem dX12_print_115 : decode cX12_print 115 = .ok (.iadd, 1) := by decide +kernel
theorem dX12_print_116 : decode cX12_print 116 = .ok (.invokevirtual 385, 3) := by decide +kernel
theorem dX12_print_119 : decode cX12_print 119 = .ok (.iload 4, 2) := by decide +kernel
theorem dX12_print_121 : decode cX12_print 121 = .ok (.ifCond .le 15, 3) := by decide +kernel
theorem dX12_print_124 : decode cX12_print 124 = .ok (.aload_n 0, 1) := by decide +kernel
theorem dX12_print_125 : decode cX12_print 125 = .ok (.bipush 48, 2) := by decide +kernel
theorem dX12_print_127 : decode cX12_print 127 = .ok (.iload 4, 2) := by decide +kernel
theorem dX12_print_129 : decode cX12_print 129 = .ok (.bipush 10, 2) := by decide +kernel
theorem dX12_print_131 : decode cX12_print 131 = .ok (.irem, 1) := by decide +kernel
theorem dX12_print_132 : decode cX12_print 132 = .ok (.iadd, 1) := by decide +kernel
theorem dX12_print_133 : decode cX12_print 133 = .ok (.invokevirtual 385, 3) := by decide +kernel
theorem dX12_print_136 : decode cX12_print 136 = .ok (.aload_n 0, 1) := by decide +kernel
theorem dX12_print_137 : decode cX12_print 137 = .ok (.bipush 58, 2) := by decide +kernel
theorem dX12_print_139 : decode cX12_print 139 = .ok (.invokevirtual 385, 3) := by decide +kernel
theorem dX12_print_142 : decode cX12_print 142 = .ok (.aload_n 0, 1) := by decide +kernel
theorem dX12_print_143 : decode cX12_print 143 = .ok (.bipush 48, 2) := by decide +kernel
theorem dX12_print_145 : decode cX12_print 145 = .ok (.aload_n 0, 1) := by decide +kernel
theorem dX12_print_146 : decode cX12_print 146 = .ok (.iload_n 1, 1) := by decide +kernel
theorem dX12_print_147 : decode cX12_print 147 = .ok (.iload_n 3, 1) := by decide +kernel
theorem dX12_print_148 : decode cX12_print 148 = .ok (.invokevirtual 146, 3) := by decide +kernel
theorem dX12_print_151 : decode cX12_print 151 = .ok (.iadd, 1) := by decide +kernel
theorem dX12_print_152 : decode cX12_print 152 = .ok (.invokevirtual 385, 3) := by decide +kernel
theorem dX12_print_155 : decode cX12_print 155 = .ok (.iinc 3 1, 3) := by decide +kernel
theorem dX12_print_158 : decode cX12_print 158 = .ok (.goto (-121), 3) := by decide +kernel
theorem dX12_print_161 : decode cX12_print 161 = .ok (.aload_n 0, 1) := by decide +kernel
theorem dX12_print_162 : decode cX12_print 162 = .ok (.getfield 382, 3) := by decide +kernel
theorem dX12_print_165 : decode cX12_print 165 = .ok (.ireturn, 1) := by decide +kernel
theorem dX12_read_0 : decode cX12_read 0 = .ok (.iload_n 1, 1) := by decide +kernel
theorem dX12_read_1 : decode cX12_read 1 = .ok (.invokestatic 153, 3) := by decide +kernel
theorem dX12_read_4 : decode cX12_read 4 = .ok (.ifCond .ne 5, 3) := by decide +kernel
theorem dX12_read_7 : decode cX12_read 7 = .ok (.iconst (-1), 1) := by decide +kernel
theorem dX12_read_8 : decode cX12_read 8 = .ok (.ireturn, 1) := by decide +kernel
theorem dX12_read_9 : decode cX12_read 9 = .ok (.aload_n 0, 1) := by decide +kernel
theorem dX12_read_10 : decode cX12_read 10 = .ok (.iconst 0, 1) := by decide +kernel
theorem dX12_read_11 : decode cX12_read 11 = .ok (.putfield 126, 3) := by decide +kernel
theorem dX12_read_14 : decode cX12_read 14 = .ok (.aload_n 0, 1) := by decide +kernel
theorem dX12_read_15 : decode cX12_read 15 = .ok (.invokevirtual 394, 3) := by decide +kernel
theorem dX12_read_18 : decode cX12_read 18 = .ok (.istore_n 2, 1) := by decide +kernel
theorem dX12_read_19 : decode cX12_read 19 = .ok (.iload_n 2, 1) := by decide +kernel
theorem dX12_read_20 : decode cX12_read 20 = .ok (.ifCond .lt 8, 3) := by decide +kernel
theorem dX12_read_23 : decode cX12_read 23 = .ok (.bipush (-100), 2) := by decide +kernel
theorem dX12_read_25 : decode cX12_read 25 = .ok (.iload_n 2, 1) := by decide +kernel
theorem dX12_read_26 : decode cX12_read 26 = .ok (.isub, 1) := by decide +kernel
theorem dX12_read_27 : decode cX12_read 27 = .ok (.ireturn, 1) := by decide +kernel
theorem dX12_read_28 : decode cX12_read 28 = .ok (.aload_n 0, 1) := by decide +kernel
theorem dX12_read_29 : decode cX12_read 29 = .ok (.iload_n 1, 1) := by decide +kernel
theorem dX12_read_30 : decode cX12_read 30 = .ok (.invokevirtual 161, 3) := by decide +kernel
theorem dX12_read_33 : decode cX12_read 33 = .ok (.aload_n 0, 1) := by decide +kernel
theorem dX12_read_34 : decode cX12_read 34 = .ok (.getfield 9, 3) := by decide +kernel
theorem dX12_read_37 : decode cX12_read 37 = .ok (.iload_n 1, 1) := by decide +kernel
theorem dX12_read_38 : decode cX12_read 38 = .ok (.iconst 1, 1) := by decide +kernel
theorem dX12_read_39 : decode cX12_read 39 = .ok (.bastore, 1) := by decide +kernel
theorem dX12_read_40 : decode cX12_read 40 = .ok (.aload_n 0, 1) := by decide +kernel
theorem dX12_read_41 : decode cX12_read 41 = .ok (.getfield 13, 3) := by decide +kernel
theorem dX12_read_44 : decode cX12_read 44 = .ok (.iconst 2, 1) := by decide +kernel
theorem dX12_read_45 : decode cX12_read 45 = .ok (.iload_n 1, 1) := by decide +kernel
theorem dX12_read_46 : decode cX12_read 46 = .ok (.imul, 1) := by decide +kernel
theorem dX12_read_47 : decode cX12_read 47 = .ok (.aload_n 0, 1) := by decide +kernel
theorem dX12_read_48 : decode cX12_read 48 = .ok (.getfield 388, 3) := by decide +kernel
theorem dX12_read_51 : decode cX12_read 51 = .ok (.iastore, 1) := by decide +kernel
theorem dX12_read_52 : decode cX12_read 52 = .ok (.aload_n 0, 1) := by decide +kernel
theorem dX12_read_53 : decode cX12_read 53 = .ok (.getfield 13, 3) := by decide +kernel
theorem dX12_read_56 : decode cX12_read 56 = .ok (.iconst 2, 1) := by decide +kernel
theorem dX12_read_57 : decode cX12_read 57 = .ok (.iload_n 1, 1) := by decide +kernel
theorem dX12_read_58 : decode cX12_read 58 = .ok (.imul, 1) := by decide +kernel
theorem dX12_read_59 : decode cX12_read 59 = .ok (.iconst 1, 1) := by decide +kernel
theorem dX12_read_60 : decode cX12_read 60 = .ok (.iadd, 1) := by decide +kernel
theorem dX12_read_61 : decode cX12_read 61 = .ok (.aload_n 0, 1) := by decide +kernel
theorem dX12_read_62 : decode cX12_read 62 = .ok (.getfield 388, 3) := by decide +kernel
theorem dX12_read_65 : decode cX12_read 65 = .ok (.iastore, 1) := by decide +kernel
theorem dX12_read_66 : decode cX12_read 66 = .ok (.iconst 0, 1) := by decide +kernel
theorem dX12_read_67 : decode cX12_read 67 = .ok (.istore_n 3, 1) := by decide +kernel
theorem dX12_read_68 : decode cX12_read 68 = .ok (.iload_n 3, 1) := by decide +kernel
theorem dX12_read_69 : decode cX12_read 69 = .ok (.aload_n 0, 1) := by decide +kernel
theorem dX12_read_70 : decode cX12_read 70 = .ok (.getfield 388, 3) := by decide +kernel
theorem dX12_read_73 : decode cX12_read 73 = .ok (.if_icmp .ge 47, 3) := by decide +kernel
theorem dX12_read_76 : decode cX12_read 76 = .ok (.aload_n 0, 1) := by decide +kernel
theorem dX12_read_77 : decode cX12_read 77 = .ok (.getfield 17, 3) := by decide +kernel
theorem dX12_read_80 : decode cX12_read 80 = .ok (.bipush 48, 2) := by decide +kernel
theorem dX12_read_82 : decode cX12_read 82 = .ok (.iload_n 1, 1) := by decide +kernel
theorem dX12_read_83 : decode cX12_read 83 = .ok (.imul, 1) := by decide +kernel
theorem dX12_read_84 : decode cX12_read 84 = .ok (.iload_n 3, 1) := by decide +kernel
theorem dX12_read_85 : decode cX12_read 85 = .ok (.iadd, 1) := by decide +kernel
theorem dX12_read_86 : decode cX12_read 86 = .ok (.aload_n 0, 1) := by decide +kernel
theorem dX12_read_87 : decode cX12_read 87 = .ok (.getfield 120, 3) := by decide +kernel
theorem dX12_read_90 : decode cX12_read 90 = .ok (.iload_n 3, 1) := by decide +kernel
theorem dX12_read_91 : decode cX12_read 91 = .ok (.iaload, 1) := by decide +kernel
theorem dX12_read_92 : decode cX12_read 92 = .ok (.iastore, 1) := by decide +kernel
theorem dX12_read_93 : decode cX12_read 93 = .ok (.aload_n 0, 1) := by decide +kernel
theorem dX12_read_94 : decode cX12_read 94 = .ok (.getfield 17, 3) := by decide +kernel
theorem dX12_read_97 : decode cX12_read 97 = .ok (.bipush 24, 2) := by decide +kernel
theorem dX12_read_99 : decode cX12_read 99 = .ok (.iconst 2, 1) := by decide +kernel
theorem dX12_read_100 : decode cX12_read 100 = .ok (.iload_n 1, 1) := by decide +kernel
theorem dX12_read_101 : decode cX12_read 101 = .ok (.imul, 1) := by decide +kernel
theorem dX12_read_102 : decode cX12_read 102 = .ok (.iconst 1, 1) := by decide +kernel
theorem dX12_read_103 : decode cX12_read 103 = .ok (.iadd, 1) := by decide +kernel
theorem dX12_read_104 : decode cX12_read 104 = .ok (.imul, 1) := by decide +kernel
theorem dX12_read_105 : decode cX12_read 105 = .ok (.iload_n 3, 1) := by decide +kernel
theorem dX12_read_106 : decode cX12_read 106 = .ok (.iadd, 1) := by decide +kernel
theorem dX12_read_107 : decode cX12_read 107 = .ok (.aload_n 0, 1) := by decide +kernel
theorem dX12_read_108 : decode cX12_read 108 = .ok (.getfield 123, 3) := by decide +kernel
theorem dX12_read_111 : decode cX12_read 111 = .ok (.iload_n 3, 1) := by decide +kernel
theorem dX12_read_112 : decode cX12_read 112 = .ok (.iaload, 1) := by decide +kernel
theorem dX12_read_113 : decode cX12_read 113 = .ok (.iastore, 1) := by decide +kernel
theorem dX12_read_114 : decode cX12_read 114 = .ok (.iinc 3 1, 3) := by decide +kernel
theorem dX12_read_117 : decode cX12_read 117 = .ok (.goto (-49), 3) := by decide +kernel
theorem dX12_read_120 : decode cX12_read 120 = .ok (.aload_n 0, 1) := by decide +kernel
theorem dX12_read_121 : decode cX12_read 121 = .ok (.getfield 388, 3) := by decide +kernel
theorem dX12_read_124 : decode cX12_read 124 = .ok (.ireturn, 1) := by decide +kernel
theorem dX12_put_0 : decode cX12_put 0 = .ok (.iload_n 1, 1) := by decide +kernel
theorem dX12_put_1 : decode cX12_put 1 = .ok (.iconst 0, 1) := by decide +kernel
theorem dX12_put_2 : decode cX12_put 2 = .ok (.aload_n 0, 1) := by decide +kernel
theorem dX12_put_3 : decode cX12_put 3 = .ok (.getfield 382, 3) := by decide +kernel
theorem dX12_put_6 : decode cX12_put 6 = .ok (.invokestatic 129, 3) := by decide +kernel
theorem dX12_put_9 : decode cX12_put 9 = .ok (.ifCond .eq 21, 3) := by decide +kernel
theorem dX12_put_12 : decode cX12_put 12 = .ok (.iload_n 1, 1) := by decide +kernel
theorem dX12_put_13 : decode cX12_put 13 = .ok (.sipush 160, 3) := by decide +kernel
theorem dX12_put_16 : decode cX12_put 16 = .ok (.if_icmp .ge 14, 3) := by decide +kernel
theorem dX12_put_19 : decode cX12_put 19 = .ok (.iload_n 2, 1) := by decide +kernel
theorem dX12_put_20 : decode cX12_put 20 = .ok (.bipush 32, 2) := by decide +kernel
theorem dX12_put_22 : decode cX12_put 22 = .ok (.bipush 126, 2) := by decide +kernel
theorem dX12_put_24 : decode cX12_put 24 = .ok (.invokestatic 129, 3) := by decide +kernel
theorem dX12_put_27 : decode cX12_put 27 = .ok (.ifCond .ne 5, 3) := by decide +kernel
theorem dX12_put_30 : decode cX12_put 30 = .ok (.iconst (-1), 1) := by decide +kernel
theorem dX12_put_31 : decode cX12_put 31 = .ok (.ireturn, 1) := by decide +kernel
theorem dX12_put_32 : decode cX12_put 32 = .ok (.aload_n 0, 1) := by decide +kernel
theorem dX12_put_33 : decode cX12_put 33 = .ok (.iload_n 1, 1) := by decide +kernel
theorem dX12_put_34 : decode cX12_put 34 = .ok (.aload_n 0, 1) := by decide +kernel
theorem dX12_put_35 : decode cX12_put 35 = .ok (.getfield 382, 3) := by decide +kernel
theorem dX12_put_38 : decode cX12_put 38 = .ok (.if_icmp .ne 9, 3) := by decide +kernel
theorem dX12_put_41 : decode cX12_put 41 = .ok (.iload_n 1, 1) := by decide +kernel
theorem dX12_put_42 : decode cX12_put 42 = .ok (.iconst 1, 1) := by decide +kernel
theorem dX12_put_43 : decode cX12_put 43 = .ok (.iadd, 1) := by decide +kernel
theorem dX12_put_44 : decode cX12_put 44 = .ok (.goto 7, 3) := by decide +kernel
theorem dX12_put_47 : decode cX12_put 47 = .ok (.aload_n 0, 1) := by decide +kernel
theorem dX12_put_48 : decode cX12_put 48 = .ok (.getfield 382, 3) := by decide +kernel
theorem dX12_put_51 : decode cX12_put 51 = .ok (.putfield 382, 3) := by decide +kernel
theorem dX12_put_54 : decode cX12_put 54 = .ok (.aload_n 0, 1) := by decide +kernel
theorem dX12_put_55 : decode cX12_put 55 = .ok (.getfield 87, 3) := by decide +kernel
theorem dX12_put_58 : decode cX12_put 58 = .ok (.iload_n 1, 1) := by decide +kernel
theorem dX12_put_59 : decode cX12_put 59 = .ok (.iload_n 2, 1) := by decide +kernel
theorem dX12_put_60 : decode cX12_put 60 = .ok (.iastore, 1) := by decide +kernel
theorem dX12_put_61 : decode cX12_put 61 = .ok (.iconst 1, 1) := by decide +kernel
theorem dX12_put_62 : decode cX12_put 62 = .ok (.ireturn, 1) := by decide +kernel
theorem dX12_cutLine_0 : decode cX12_cutLine 0 = .ok (.iload_n 1, 1) := by decide +kernel
theorem dX12_cutLine_1 : decode cX12_cutLine 1 = .ok (.iconst 0, 1) := by decide +kernel
theorem dX12_cutLine_2 : decode cX12_cutLine 2 = .ok (.aload_n 0, 1) := by decide +kernel
theorem dX12_cutLine_3 : decode cX12_cutLine 3 = .ok (.getfield 382, 3) := by decide +kernel
theorem dX12_cutLine_6 : decode cX12_cutLine 6 = .ok (.invokestatic 129, 3) := by decide +kernel
theorem dX12_cutLine_9 : decode cX12_cutLine 9 = .ok (.ifCond .ne 5, 3) := by decide +kernel
theorem dX12_cutLine_12 : decode cX12_cutLine 12 = .ok (.iconst (-1), 1) := by decide +kernel
theorem dX12_cutLine_13 : decode cX12_cutLine 13 = .ok (.ireturn, 1) := by decide +kernel
theorem dX12_cutLine_14 : decode cX12_cutLine 14 = .ok (.aload_n 0, 1) := by decide +kernel
theorem dX12_cutLine_15 : decode cX12_cutLine 15 = .ok (.getfield 382, 3) := by decide +kernel
theorem dX12_cutLine_18 : decode cX12_cutLine 18 = .ok (.istore_n 2, 1) := by decide +kernel
theorem dX12_cutLine_19 : decode cX12_cutLine 19 = .ok (.aload_n 0, 1) := by decide +kernel
theorem dX12_cutLine_20 : decode cX12_cutLine 20 = .ok (.iload_n 1, 1) := by decide +kernel
theorem dX12_cutLine_21 : decode cX12_cutLine 21 = .ok (.putfield 382, 3) := by decide +kernel
theorem dX12_cutLine_24 : decode cX12_cutLine 24 = .ok (.iload_n 2, 1) := by decide +kernel
theorem dX12_cutLine_25 : decode cX12_cutLine 25 = .ok (.ireturn, 1) := by decide +kernel
theorem dX12_character_0 : decode cX12_character 0 = .ok (.iload_n 1, 1) := by decide +kernel
theorem dX12_character_1 : decode cX12_character 1 = .ok (.iconst 0, 1) := by decide +kernel
theorem dX12_character_2 : decode cX12_character 2 = .ok (.aload_n 0, 1) := by decide +kernel
theorem dX12_character_3 : decode cX12_character 3 = .ok (.getfield 382, 3) := by decide +kernel
theorem dX12_character_6 : decode cX12_character 6 = .ok (.iconst 1, 1) := by decide +kernel
theorem dX12_character_7 : decode cX12_character 7 = .ok (.isub, 1) := by decide +kernel
theorem dX12_character_8 : decode cX12_character 8 = .ok (.invokestatic 129, 3) := by decide +kernel
theorem dX12_character_11 : decode cX12_character 11 = .ok (.ifCond .eq 12, 3) := by decide +kernel
theorem dX12_character_14 : decode cX12_character 14 = .ok (.aload_n 0, 1) := by decide +kernel
theorem dX12_character_15 : decode cX12_character 15 = .ok (.getfield 87, 3) := by decide +kernel
theorem dX12_character_18 : decode cX12_character 18 = .ok (.iload_n 1, 1) := by decide +kernel
theorem dX12_character_19 : decode cX12_character 19 = .ok (.iaload, 1) := by decide +kernel
theorem dX12_character_20 : decode cX12_character 20 = .ok (.goto 5, 3) := by decide +kernel
theorem dX12_character_23 : decode cX12_character 23 = .ok (.bipush (-2), 2) := by decide +kernel
theorem dX12_character_25 : decode cX12_character 25 = .ok (.ireturn, 1) := by decide +kernel
theorem dX12_status_0 : decode cX12_status 0 = .ok (.aload_n 0, 1) := by decide +kernel
theorem dX12_status_1 : decode cX12_status 1 = .ok (.getfield 126, 3) := by decide +kernel
theorem dX12_status_4 : decode cX12_status 4 = .ok (.ireturn, 1) := by decide +kernel
theorem dX12_trace_0 : decode cX12_trace 0 = .ok (.iload_n 1, 1) := by decide +kernel
theorem dX12_trace_1 : decode cX12_trace 1 = .ok (.iconst 0, 1) := by decide +kernel
theorem dX12_trace_2 : decode cX12_trace 2 = .ok (.aload_n 0, 1) := by decide +kernel
theorem dX12_trace_3 : decode cX12_trace 3 = .ok (.getfield 198, 3) := by decide +kernel
theorem dX12_trace_6 : decode cX12_trace 6 = .ok (.bipush 60, 2) := by decide +kernel
theorem dX12_trace_8 : decode cX12_trace 8 = .ok (.if_icmp .ge 10, 3) := by decide +kernel
theorem dX12_trace_11 : decode cX12_trace 11 = .ok (.aload_n 0, 1) := by decide +kernel
theorem dX12_trace_12 : decode cX12_trace 12 = .ok (.getfield 198, 3) := by decide +kernel
theorem dX12_trace_15 : decode cX12_trace 15 = .ok (.goto 5, 3) := by decide +kernel
theorem dX12_trace_18 : decode cX12_trace 18 = .ok (.bipush 60, 2) := by decide +kernel
theorem dX12_trace_20 : decode cX12_trace 20 = .ok (.iconst 1, 1) := by decide +kernel
theorem dX12_trace_21 : decode cX12_trace 21 = .ok (.isub, 1) := by decide +kernel
theorem dX12_trace_22 : decode cX12_trace 22 = .ok (.invokestatic 129, 3) := by decide +kernel
theorem dX12_trace_25 : decode cX12_trace 25 = .ok (.ifCond .eq 12, 3) := by decide +kernel
theorem dX12_trace_28 : decode cX12_trace 28 = .ok (.aload_n 0, 1) := by decide +kernel
theorem dX12_trace_29 : decode cX12_trace 29 = .ok (.getfield 69, 3) := by decide +kernel
theorem dX12_trace_32 : decode cX12_trace 32 = .ok (.iload_n 1, 1) := by decide +kernel
theorem dX12_trace_33 : decode cX12_trace 33 = .ok (.iaload, 1) := by decide +kernel
theorem dX12_trace_34 : decode cX12_trace 34 = .ok (.goto 5, 3) := by decide +kernel
theorem dX12_trace_37 : decode cX12_trace 37 = .ok (.bipush (-2), 2) := by decide +kernel
theorem dX12_trace_39 : decode cX12_trace 39 = .ok (.ireturn, 1) := by decide +kernel
theorem dX12_count_0 : decode cX12_count 0 = .ok (.iconst 0, 1) := by decide +kernel
theorem dX12_count_1 : decode cX12_count 1 = .ok (.istore_n 2, 1) := by decide +kernel
theorem dX12_count_2 : decode cX12_count 2 = .ok (.iload_n 1, 1) := by decide +kernel
theorem dX12_count_3 : decode cX12_count 3 = .ok (.tableswitch 160 0 7 #[45, 50, 55, 60, 93, 126, 142, 147], 45) := by decide +kernel
theorem dX12_count_48 : decode cX12_count 48 = .ok (.aload_n 0, 1) := by decide +kernel
theorem dX12_count_49 : decode cX12_count 49 = .ok (.getfield 245, 3) := by decide +kernel
theorem dX12_count_52 : decode cX12_count 52 = .ok (.ireturn, 1) := by decide +kernel
theorem dX12_count_53 : decode cX12_count 53 = .ok (.aload_n 0, 1) := by decide +kernel
theorem dX12_count_54 : decode cX12_count 54 = .ok (.getfield 133, 3) := by decide +kernel
theorem dX12_count_57 : decode cX12_count 57 = .ok (.ireturn, 1) := by decide +kernel
theorem dX12_count_58 : decode cX12_count 58 = .ok (.aload_n 0, 1) := by decide +kernel
theorem dX12_count_59 : decode cX12_count 59 = .ok (.getfield 198, 3) := by decide +kernel
theorem dX12_count_62 : decode cX12_count 62 = .ok (.ireturn, 1) := by decide +kernel
theorem dX12_count_63 : decode cX12_count 63 = .ok (.iconst 0, 1) := by decide +kernel
theorem dX12_count_64 : decode cX12_count 64 = .ok (.istore_n 3, 1) := by decide +kernel
theorem dX12_count_65 : decode cX12_count 65 = .ok (.iload_n 3, 1) := by decide +kernel
theorem dX12_count_66 : decode cX12_count 66 = .ok (.bipush 6, 2) := by decide +kernel
theorem dX12_count_68 : decode cX12_count 68 = .ok (.if_icmp .ge 26, 3) := by decide +kernel
theorem dX12_count_71 : decode cX12_count 71 = .ok (.iload_n 2, 1) := by decide +kernel
theorem dX12_count_72 : decode cX12_count 72 = .ok (.aload_n 0, 1) := by decide +kernel
theorem dX12_count_73 : decode cX12_count 73 = .ok (.getfield 9, 3) := by decide +kernel
theorem dX12_count_76 : decode cX12_count 76 = .ok (.iload_n 3, 1) := by decide +kernel
theorem dX12_count_77 : decode cX12_count 77 = .ok (.baload, 1) := by decide +kernel
theorem dX12_count_78 : decode cX12_count 78 = .ok (.ifCond .eq 7, 3) := by decide +kernel
theorem dX12_count_81 : decode cX12_count 81 = .ok (.iconst 1, 1) := by decide +kernel
theorem dX12_count_82 : decode cX12_count 82 = .ok (.goto 4, 3) := by decide +kernel
theorem dX12_count_85 : decode cX12_count 85 = .ok (.iconst 0, 1) := by decide +kernel
theorem dX12_count_86 : decode cX12_count 86 = .ok (.iadd, 1) := by decide +kernel
theorem dX12_count_87 : decode cX12_count 87 = .ok (.istore_n 2, 1) := by decide +kernel
theorem dX12_count_88 : decode cX12_count 88 = .ok (.iinc 3 1, 3) := by decide +kernel
theorem dX12_count_91 : decode cX12_count 91 = .ok (.goto (-26), 3) := by decide +kernel
theorem dX12_count_94 : decode cX12_count 94 = .ok (.iload_n 2, 1) := by decide +kernel
theorem dX12_count_95 : decode cX12_count 95 = .ok (.ireturn, 1) := by decide +kernel
theorem dX12_count_96 : decode cX12_count 96 = .ok (.iconst 0, 1) := by decide +kernel
theorem dX12_count_97 : decode cX12_count 97 = .ok (.istore_n 3, 1) := by decide +kernel
theorem dX12_count_98 : decode cX12_count 98 = .ok (.iload_n 3, 1) := by decide +kernel
theorem dX12_count_99 : decode cX12_count 99 = .ok (.bipush 16, 2) := by decide +kernel
theorem dX12_count_101 : decode cX12_count 101 = .ok (.if_icmp .ge 26, 3) := by decide +kernel
theorem dX12_count_104 : decode cX12_count 104 = .ok (.iload_n 2, 1) := by decide +kernel
theorem dX12_count_105 : decode cX12_count 105 = .ok (.aload_n 0, 1) := by decide +kernel
theorem dX12_count_106 : decode cX12_count 106 = .ok (.getfield 53, 3) := by decide +kernel
theorem dX12_count_109 : decode cX12_count 109 = .ok (.iload_n 3, 1) := by decide +kernel
theorem dX12_count_110 : decode cX12_count 110 = .ok (.iaload, 1) := by decide +kernel
theorem dX12_count_111 : decode cX12_count 111 = .ok (.ifCond .le 7, 3) := by decide +kernel
theorem dX12_count_114 : decode cX12_count 114 = .ok (.iconst 1, 1) := by decide +kernel
theorem dX12_count_115 : decode cX12_count 115 = .ok (.goto 4, 3) := by decide +kernel
theorem dX12_count_118 : decode cX12_count 118 = .ok (.iconst 0, 1) := by decide +kernel
theorem dX12_count_119 : decode cX12_count 119 = .ok (.iadd, 1) := by decide +kernel
theorem dX12_count_120 : decode cX12_count 120 = .ok (.istore_n 2, 1) := by decide +kernel
theorem dX12_count_121 : decode cX12_count 121 = .ok (.iinc 3 1, 3) := by decide +kernel
theorem dX12_count_124 : decode cX12_count 124 = .ok (.goto (-26), 3) := by decide +kernel
theorem dX12_count_127 : decode cX12_count 127 = .ok (.iload_n 2, 1) := by decide +kernel
theorem dX12_count_128 : decode cX12_count 128 = .ok (.ireturn, 1) := by decide +kernel
theorem dX12_count_129 : decode cX12_count 129 = .ok (.aload_n 0, 1) := by decide +kernel
theorem dX12_count_130 : decode cX12_count 130 = .ok (.getfield 355, 3) := by decide +kernel
theorem dX12_count_133 : decode cX12_count 133 = .ok (.ifCond .eq 10, 3) := by decide +kernel
theorem dX12_count_136 : decode cX12_count 136 = .ok (.aload_n 0, 1) := by decide +kernel
theorem dX12_count_137 : decode cX12_count 137 = .ok (.getfield 361, 3) := by decide +kernel
theorem dX12_count_140 : decode cX12_count 140 = .ok (.goto 4, 3) := by decide +kernel
theorem dX12_count_143 : decode cX12_count 143 = .ok (.iconst 0, 1) := by decide +kernel
theorem dX12_count_144 : decode cX12_count 144 = .ok (.ireturn, 1) := by decide +kernel
theorem dX12_count_145 : decode cX12_count 145 = .ok (.aload_n 0, 1) := by decide +kernel
theorem dX12_count_146 : decode cX12_count 146 = .ok (.getfield 174, 3) := by decide +kernel
theorem dX12_count_149 : decode cX12_count 149 = .ok (.ireturn, 1) := by decide +kernel
theorem dX12_count_150 : decode cX12_count 150 = .ok (.aload_n 0, 1) := by decide +kernel
theorem dX12_count_151 : decode cX12_count 151 = .ok (.getfield 136, 3) := by decide +kernel
theorem dX12_count_154 : decode cX12_count 154 = .ok (.ifCond .eq 7, 3) := by decide +kernel
theorem dX12_count_157 : decode cX12_count 157 = .ok (.iconst 1, 1) := by decide +kernel
theorem dX12_count_158 : decode cX12_count 158 = .ok (.goto 4, 3) := by decide +kernel
theorem dX12_count_161 : decode cX12_count 161 = .ok (.iconst 0, 1) := by decide +kernel
theorem dX12_count_162 : decode cX12_count 162 = .ok (.ireturn, 1) := by decide +kernel
theorem dX12_count_163 : decode cX12_count 163 = .ok (.iconst (-1), 1) := by decide +kernel
theorem dX12_count_164 : decode cX12_count 164 = .ok (.ireturn, 1) := by decide +kernel
end
section
abbrev oX0 (r : Nat → Nat) (v : Nat → Int32) : List Value := [.ref (r 0)]
abbrev oX1 (r : Nat → Nat) (v : Nat → Int32) : List Value := [.ref (r 0), .ref (r 1), .int (v 2), .int (v 3), .int (v 4), .int (v 5), .int (v 6), .int (v 7), .int (v 8), .int (v 9), .int (v 10), .int (v 11), .ref (r 12), .ref (r 13), .ref (r 14), .ref (r 15), .ref (r 16)]
abbrev oX2 (r : Nat → Nat) (v : Nat → Int32) : List Value := [.ref (r 0)]
abbrev oX3 (r : Nat → Nat) (v : Nat → Int32) : List Value := [.ref (r 0)]
abbrev oX4 (r : Nat → Nat) (v : Nat → Int32) : List Value := [.ref (r 0), .int (v 1), .int (v 2)]
abbrev oX5 (r : Nat → Nat) (v : Nat → Int32) : List Value := [.ref (r 0), .int (v 1), .int (v 2), .int (v 3), .int (v 4), .int (v 5), .int (v 6), .int (v 7), .int (v 8), .int (v 9), .null]
abbrev oX6 (r : Nat → Nat) (v : Nat → Int32) : List Value := [.ref (r 0)]
abbrev oX8 (r : Nat → Nat) (v : Nat → Int32) : List Value := [.int (v 0), .ref (r 1)]
abbrev oX10 (r : Nat → Nat) (v : Nat → Int32) : List Value := [.ref (r 0), .ref (r 1), .ref (r 2), .int (v 3), .int (v 4)]
abbrev oX11 (r : Nat → Nat) (v : Nat → Int32) : List Value := [.ref (r 0), .ref (r 1), .ref (r 2), .ref (r 3), .ref (r 4), .ref (r 5), .ref (r 6), .ref (r 7), .ref (r 8), .ref (r 9), .ref (r 10), .int (v 11), .int (v 12), .int (v 13), .int (v 14), .int (v 15), .int (v 16)]
abbrev oX12 (r : Nat → Nat) (v : Nat → Int32) : List Value := [.int (v 0), .int (v 1), .ref (r 2), .ref (r 3), .ref (r 4), .int (v 5), .int (v 6), .int (v 7), .ref (r 8), .ref (r 9), .int (v 10), .ref (r 11), .ref (r 12), .int (v 13), .ref (r 14), .ref (r 15), .ref (r 16), .ref (r 17), .int (v 18), .ref (r 19), .ref (r 20), .ref (r 21), .ref (r 22), .ref (r 23), .int (v 24), .int (v 25), .ref (r 26), .int (v 27), .int (v 28), .ref (r 29), .int (v 30), .int (v 31), .ref (r 32), .ref (r 33), .ref (r 34), .ref (r 35), .ref (r 36), .ref (r 37), .int (v 38), .ref (r 39), .int (v 40), .int (v 41), .int (v 42), .ref (r 43), .int (v 44), .int (v 45), .int (v 46), .int (v 47), .int (v 48), .int (v 49), .int (v 50), .ref (r 51), .ref (r 52), .ref (r 53), .int (v 54), .int (v 55), .int (v 56), .int (v 57), .int (v 58), .int (v 59), .ref (r 60), .ref (r 61), .ref (r 62), .ref (r 63), .int (v 64), .int (v 65), .int (v 66), .ref (r 67), .ref (r 68), .ref (r 69), .int (v 70)]
theorem iX0 : ∀ w ∈ u_ws "TuneSchool$Cadence" TX0 1, w ∈ gtb := by
  intro w hw
  obtain ⟨j, hj, rfl⟩ := List.mem_map.mp hw
  have hj := List.mem_range.mp hj
  match j, hj with
  | 0, _ => exact q2_171
  | j + 1, hj => omega
theorem iX1 : ∀ w ∈ u_ws "TuneSchool$Desk" TX1 17, w ∈ gtb := by
  intro w hw
  obtain ⟨j, hj, rfl⟩ := List.mem_map.mp hw
  have hj := List.mem_range.mp hj
  match j, hj with
  | 0, _ => exact q1_152
  | 1, _ => exact q1_154
  | 2, _ => exact q1_156
  | 3, _ => exact q1_158
  | 4, _ => exact q1_160
  | 5, _ => exact q1_162
  | 6, _ => exact q1_164
  | 7, _ => exact q1_166
  | 8, _ => exact q1_168
  | 9, _ => exact q1_170
  | 10, _ => exact q1_172
  | 11, _ => exact q1_174
  | 12, _ => exact q1_176
  | 13, _ => exact q1_178
  | 14, _ => exact q1_180
  | 15, _ => exact q1_182
  | 16, _ => exact q1_184
  | j + 17, hj => omega
theorem iX2 : ∀ w ∈ u_ws "TuneSchool$Interval" TX2 1, w ∈ gtb := by
  intro w hw
  obtain ⟨j, hj, rfl⟩ := List.mem_map.mp hw
  have hj := List.mem_range.mp hj
  match j, hj with
  | 0, _ => exact q2_176
  | j + 1, hj => omega
theorem iX3 : ∀ w ∈ u_ws "TuneSchool$Leap" TX3 1, w ∈ gtb := by
  intro w hw
  obtain ⟨j, hj, rfl⟩ := List.mem_map.mp hw
  have hj := List.mem_range.mp hj
  match j, hj with
  | 0, _ => exact q2_163
  | j + 1, hj => omega
theorem iX4 : ∀ w ∈ u_ws "TuneSchool$Line" TX4 3, w ∈ gtb := by
  intro w hw
  obtain ⟨j, hj, rfl⟩ := List.mem_map.mp hw
  have hj := List.mem_range.mp hj
  match j, hj with
  | 0, _ => exact q1_198
  | 1, _ => exact q1_200
  | 2, _ => exact q1_202
  | j + 3, hj => omega
theorem iX5 : ∀ w ∈ u_ws "TuneSchool$Moment" TX5 11, w ∈ gtb := by
  intro w hw
  obtain ⟨j, hj, rfl⟩ := List.mem_map.mp hw
  have hj := List.mem_range.mp hj
  match j, hj with
  | 0, _ => exact q1_98
  | 1, _ => exact q1_100
  | 2, _ => exact q1_102
  | 3, _ => exact q1_104
  | 4, _ => exact q1_106
  | 5, _ => exact q1_108
  | 6, _ => exact q1_110
  | 7, _ => exact q1_112
  | 8, _ => exact q1_114
  | 9, _ => exact q1_116
  | 10, _ => exact q1_118
  | j + 11, hj => omega
theorem iX6 : ∀ w ∈ u_ws "TuneSchool$Motion" TX6 1, w ∈ gtb := by
  intro w hw
  obtain ⟨j, hj, rfl⟩ := List.mem_map.mp hw
  have hj := List.mem_range.mp hj
  match j, hj with
  | 0, _ => exact q2_153
  | j + 1, hj => omega
theorem iX8 : ∀ w ∈ u_ws "TuneSchool$School" TX8 2, w ∈ gtb := by
  intro w hw
  obtain ⟨j, hj, rfl⟩ := List.mem_map.mp hw
  have hj := List.mem_range.mp hj
  match j, hj with
  | 0, _ => exact q2_192
  | 1, _ => exact q2_194
  | j + 2, hj => omega
theorem iX10 : ∀ w ∈ u_ws "TuneSchool$Voice" TX10 5, w ∈ gtb := by
  intro w hw
  obtain ⟨j, hj, rfl⟩ := List.mem_map.mp hw
  have hj := List.mem_range.mp hj
  match j, hj with
  | 0, _ => exact q1_47
  | 1, _ => exact q1_49
  | 2, _ => exact q1_51
  | 3, _ => exact q1_53
  | 4, _ => exact q1_55
  | j + 5, hj => omega
theorem iX11 : ∀ w ∈ u_ws "TuneSchool" TX11 17, w ∈ gtb := by
  intro w hw
  obtain ⟨j, hj, rfl⟩ := List.mem_map.mp hw
  have hj := List.mem_range.mp hj
  match j, hj with
  | 0, _ => exact q1_224
  | 1, _ => exact q1_226
  | 2, _ => exact q1_228
  | 3, _ => exact q1_230
  | 4, _ => exact q1_232
  | 5, _ => exact q1_234
  | 6, _ => exact q1_236
  | 7, _ => exact q1_238
  | 8, _ => exact q2_0
  | 9, _ => exact q2_2
  | 10, _ => exact q2_4
  | 11, _ => exact q2_6
  | 12, _ => exact q2_8
  | 13, _ => exact q2_10
  | 14, _ => exact q2_12
  | 15, _ => exact q2_14
  | 16, _ => exact q2_16
  | j + 17, hj => omega
theorem iX12 : ∀ w ∈ u_ws "TuneSchoolModel" TX12 71, w ∈ gtb := by
  intro w hw
  obtain ⟨j, hj, rfl⟩ := List.mem_map.mp hw
  have hj := List.mem_range.mp hj
  match j, hj with
  | 0, _ => exact q5_63
  | 1, _ => exact q5_65
  | 2, _ => exact q5_67
  | 3, _ => exact q5_69
  | 4, _ => exact q5_71
  | 5, _ => exact q5_73
  | 6, _ => exact q5_75
  | 7, _ => exact q5_77
  | 8, _ => exact q5_79
  | 9, _ => exact q5_81
  | 10, _ => exact q5_83
  | 11, _ => exact q5_85
  | 12, _ => exact q5_87
  | 13, _ => exact q5_89
  | 14, _ => exact q5_91
  | 15, _ => exact q5_93
  | 16, _ => exact q5_95
  | 17, _ => exact q5_97
  | 18, _ => exact q5_99
  | 19, _ => exact q5_101
  | 20, _ => exact q5_103
  | 21, _ => exact q5_105
  | 22, _ => exact q5_107
  | 23, _ => exact q5_109
  | 24, _ => exact q5_111
  | 25, _ => exact q5_113
  | 26, _ => exact q5_115
  | 27, _ => exact q5_117
  | 28, _ => exact q5_119
  | 29, _ => exact q5_121
  | 30, _ => exact q5_123
  | 31, _ => exact q5_125
  | 32, _ => exact q5_127
  | 33, _ => exact q5_129
  | 34, _ => exact q5_131
  | 35, _ => exact q5_133
  | 36, _ => exact q5_135
  | 37, _ => exact q5_137
  | 38, _ => exact q5_139
  | 39, _ => exact q5_141
  | 40, _ => exact q5_143
  | 41, _ => exact q5_145
  | 42, _ => exact q5_147
  | 43, _ => exact q5_149
  | 44, _ => exact q5_151
  | 45, _ => exact q5_153
  | 46, _ => exact q5_155
  | 47, _ => exact q5_157
  | 48, _ => exact q5_159
  | 49, _ => exact q5_161
  | 50, _ => exact q5_163
  | 51, _ => exact q5_165
  | 52, _ => exact q5_167
  | 53, _ => exact q5_169
  | 54, _ => exact q5_171
  | 55, _ => exact q5_173
  | 56, _ => exact q5_175
  | 57, _ => exact q5_177
  | 58, _ => exact q5_179
  | 59, _ => exact q5_181
  | 60, _ => exact q5_183
  | 61, _ => exact q5_185
  | 62, _ => exact q5_187
  | 63, _ => exact q5_189
  | 64, _ => exact q5_191
  | 65, _ => exact q5_193
  | 66, _ => exact q5_195
  | 67, _ => exact q5_197
  | 68, _ => exact q5_199
  | 69, _ => exact q5_201
  | 70, _ => exact q5_203
  | j + 71, hj => omega
theorem md_X11_init : mdOk yX11_init 0 := by decide +kernel
theorem md_X11_voice : mdOk yX11_voice 2 := by decide +kernel
theorem md_X11_drop : mdOk yX11_drop 1 := by decide +kernel
theorem md_X11_note : mdOk yX11_note 4 := by decide +kernel
theorem md_X11_cut : mdOk yX11_cut 3 := by decide +kernel
theorem md_X11_size : mdOk yX11_size 2 := by decide +kernel
theorem md_X11_number : mdOk yX11_number 3 := by decide +kernel
theorem md_X11_end : mdOk yX11_end 1 := by decide +kernel
theorem md_X11_sounds : mdOk yX11_sounds 2 := by decide +kernel
theorem md_X11_transpose : mdOk yX11_transpose 2 := by decide +kernel
theorem md_X11_copy : mdOk yX11_copy 5 := by decide +kernel
theorem md_X11_undo : mdOk yX11_undo 0 := by decide +kernel
theorem md_X11_rule : mdOk yX11_rule 2 := by decide +kernel
theorem md_X11_school : mdOk yX11_school 3 := by decide +kernel
theorem md_X11_clear : mdOk yX11_clear 1 := by decide +kernel
theorem md_X11_truth : mdOk yX11_truth 4 := by decide +kernel
theorem md_X11_is : mdOk yX11_is 2 := by decide +kernel
theorem md_X11_seat : mdOk yX11_seat 3 := by decide +kernel
theorem md_X11_seated : mdOk yX11_seated 2 := by decide +kernel
theorem md_X11_strong : mdOk yX11_strong 1 := by decide +kernel
theorem md_X11_key : mdOk yX11_key 1 := by decide +kernel
theorem md_X11_weight : mdOk yX11_weight 2 := by decide +kernel
theorem md_X11_faults : mdOk yX11_faults 1 := by decide +kernel
theorem md_X11_fault : mdOk yX11_fault 2 := by decide +kernel
theorem md_X11_mend : mdOk yX11_mend 1 := by decide +kernel
theorem md_X11_canon : mdOk yX11_canon 5 := by decide +kernel
theorem md_X11_canons : mdOk yX11_canons 4 := by decide +kernel
theorem md_X11_follows : mdOk yX11_follows 5 := by decide +kernel
theorem md_X11_set : mdOk yX11_set 7 := by decide +kernel
theorem md_X11_goOn : mdOk yX11_goOn 1 := by decide +kernel
theorem md_X11_least : mdOk yX11_least 0 := by decide +kernel
theorem md_X11_many : mdOk yX11_many 0 := by decide +kernel
theorem md_X11_row : mdOk yX11_row 3 := by decide +kernel
theorem md_X11_spoil : mdOk yX11_spoil 4 := by decide +kernel
theorem md_X11_check : mdOk yX11_check 0 := by decide +kernel
theorem md_X11_print : mdOk yX11_print 1 := by decide +kernel
theorem md_X11_read : mdOk yX11_read 1 := by decide +kernel
theorem md_X11_put : mdOk yX11_put 2 := by decide +kernel
theorem md_X11_cutLine : mdOk yX11_cutLine 1 := by decide +kernel
theorem md_X11_character : mdOk yX11_character 1 := by decide +kernel
theorem md_X11_status : mdOk yX11_status 0 := by decide +kernel
theorem md_X11_trace : mdOk yX11_trace 1 := by decide +kernel
theorem md_X11_count : mdOk yX11_count 1 := by decide +kernel
theorem md_X11_isWithin : mdOk yX11_isWithin 3 := by decide +kernel
theorem md_X11_isVoice : mdOk yX11_isVoice 1 := by decide +kernel
theorem md_X11_isRow : mdOk yX11_isRow 1 := by decide +kernel
theorem md_X11_isPlace : mdOk yX11_isPlace 1 := by decide +kernel
theorem md_X11_isFollower : mdOk yX11_isFollower 3 := by decide +kernel
theorem md_X11_finding : mdOk yX11_finding 1 := by decide +kernel
theorem md_X11_fine : mdOk yX11_fine 1 := by decide +kernel
theorem md_X11_keep : mdOk yX11_keep 1 := by decide +kernel
theorem md_X11_goThrough : mdOk yX11_goThrough 1 := by decide +kernel
theorem md_X11_voicesThere : mdOk yX11_voicesThere 0 := by decide +kernel
theorem md_X11_placesTaken : mdOk yX11_placesTaken 0 := by decide +kernel
theorem md_X11_newRule : mdOk yX11_newRule 1 := by decide +kernel
theorem md_X11_standsAs : mdOk yX11_standsAs 2 := by decide +kernel
theorem md_X10_init : mdOk yX10_init 0 := by decide +kernel
theorem md_X10_renew : mdOk yX10_renew 1 := by decide +kernel
theorem md_X10_becomeAs : mdOk yX10_becomeAs 1 := by decide +kernel
theorem md_X5_init : mdOk yX5_init 0 := by decide +kernel
theorem md_X5_openTrace : mdOk yX5_openTrace 0 := by decide +kernel
theorem md_X1_init : mdOk yX1_init 1 := by decide +kernel
theorem md_X1_isWorked : mdOk yX1_isWorked 0 := by decide +kernel
theorem md_X4_init : mdOk yX4_init 0 := by decide +kernel
theorem md_X4_wrongPlace : mdOk yX4_wrongPlace 1 := by decide +kernel
theorem md_X9_init : mdOk yX9_init 0 := by decide +kernel
theorem md_X7_init : mdOk yX7_init 0 := by decide +kernel
theorem md_X2_init : mdOk yX2_init 0 := by decide +kernel
theorem md_X6_init : mdOk yX6_init 0 := by decide +kernel
theorem md_X0_init : mdOk yX0_init 0 := by decide +kernel
theorem md_X3_init : mdOk yX3_init 0 := by decide +kernel
theorem md_X8_init : mdOk yX8_init 2 := by decide +kernel
theorem md_J7_fill_53178 : mdOk yJ7_fill_53178 2 := by decide +kernel
theorem md_X12_init : mdOk yX12_init 0 := by decide +kernel
theorem md_X12_in : mdOk yX12_in 3 := by decide +kernel
theorem md_X12_isVoice : mdOk yX12_isVoice 1 := by decide +kernel
theorem md_X12_isPlace : mdOk yX12_isPlace 1 := by decide +kernel
theorem md_X12_finds : mdOk yX12_finds 1 := by decide +kernel
theorem md_X12_keep : mdOk yX12_keep 1 := by decide +kernel
theorem md_X12_against : mdOk yX12_against 1 := by decide +kernel
theorem md_X12_againstCanon : mdOk yX12_againstCanon 2 := by decide +kernel
theorem md_X12_beginTrace : mdOk yX12_beginTrace 0 := by decide +kernel
theorem md_X12_wrongIn : mdOk yX12_wrongIn 0 := by decide +kernel
theorem md_X12_voice : mdOk yX12_voice 2 := by decide +kernel
theorem md_X12_drop : mdOk yX12_drop 1 := by decide +kernel
theorem md_X12_note : mdOk yX12_note 4 := by decide +kernel
theorem md_X12_cut : mdOk yX12_cut 3 := by decide +kernel
theorem md_X12_size : mdOk yX12_size 2 := by decide +kernel
theorem md_X12_number : mdOk yX12_number 3 := by decide +kernel
theorem md_X12_end : mdOk yX12_end 1 := by decide +kernel
theorem md_X12_sounds : mdOk yX12_sounds 2 := by decide +kernel
theorem md_X12_transpose : mdOk yX12_transpose 2 := by decide +kernel
theorem md_X12_copy : mdOk yX12_copy 5 := by decide +kernel
theorem md_X12_undo : mdOk yX12_undo 0 := by decide +kernel
theorem md_X12_rule : mdOk yX12_rule 2 := by decide +kernel
theorem md_X12_school : mdOk yX12_school 3 := by decide +kernel
theorem md_X12_clear : mdOk yX12_clear 1 := by decide +kernel
theorem md_X12_truth : mdOk yX12_truth 4 := by decide +kernel
theorem md_X12_is : mdOk yX12_is 2 := by decide +kernel
theorem md_X12_seat : mdOk yX12_seat 3 := by decide +kernel
theorem md_X12_seated : mdOk yX12_seated 2 := by decide +kernel
theorem md_X12_strong : mdOk yX12_strong 1 := by decide +kernel
theorem md_X12_key : mdOk yX12_key 1 := by decide +kernel
theorem md_X12_weight : mdOk yX12_weight 2 := by decide +kernel
theorem md_X12_faults : mdOk yX12_faults 1 := by decide +kernel
theorem md_X12_fault : mdOk yX12_fault 2 := by decide +kernel
theorem md_X12_mend : mdOk yX12_mend 1 := by decide +kernel
theorem md_X12_canon : mdOk yX12_canon 5 := by decide +kernel
theorem md_X12_canons : mdOk yX12_canons 4 := by decide +kernel
theorem md_X12_follows : mdOk yX12_follows 5 := by decide +kernel
theorem md_X12_set : mdOk yX12_set 7 := by decide +kernel
theorem md_X12_goOn : mdOk yX12_goOn 1 := by decide +kernel
theorem md_X12_least : mdOk yX12_least 0 := by decide +kernel
theorem md_X12_many : mdOk yX12_many 0 := by decide +kernel
theorem md_X12_row : mdOk yX12_row 3 := by decide +kernel
theorem md_X12_spoil : mdOk yX12_spoil 4 := by decide +kernel
theorem md_X12_check : mdOk yX12_check 0 := by decide +kernel
theorem md_X12_print : mdOk yX12_print 1 := by decide +kernel
theorem md_X12_read : mdOk yX12_read 1 := by decide +kernel
theorem md_X12_put : mdOk yX12_put 2 := by decide +kernel
theorem md_X12_cutLine : mdOk yX12_cutLine 1 := by decide +kernel
theorem md_X12_character : mdOk yX12_character 1 := by decide +kernel
theorem md_X12_status : mdOk yX12_status 0 := by decide +kernel
theorem md_X12_trace : mdOk yX12_trace 1 := by decide +kernel
theorem md_X12_count : mdOk yX12_count 1 := by decide +kernel
theorem vin {i : Int32} {n : Nat} (h1 : 0 ≤ i.toInt) (h2 : i.toInt < n) : vp_in i n := vp_in_iff.mpr ⟨h1, h2⟩
theorem i_le {x y : Int32} {a b : Int} (hx : x.toInt = a) (hy : y.toInt = b) (h : x ≤ y) : a ≤ b := by rw [← hx, ← hy]; exact Int32.le_iff_toInt_le.mp h
theorem i_nle {x y : Int32} {a b : Int} (hx : x.toInt = a) (hy : y.toInt = b) (h : ¬ x ≤ y) : b < a := by rw [Int32.le_iff_toInt_le, hx, hy] at h; omega
theorem i_lt {x y : Int32} {a b : Int} (hx : x.toInt = a) (hy : y.toInt = b) (h : x < y) : a < b := by rw [← hx, ← hy]; exact Int32.lt_iff_toInt_lt.mp h
theorem i_nlt {x y : Int32} {a b : Int} (hx : x.toInt = a) (hy : y.toInt = b) (h : ¬ x < y) : b ≤ a := by rw [Int32.lt_iff_toInt_lt, hx, hy] at h; omega
theorem i_eq {x y : Int32} {a b : Int} (hx : x.toInt = a) (hy : y.toInt = b) (h : x = y) : a = b := by rw [← hx, ← hy, h]
theorem i_neq {x y : Int32} {a b : Int} (hx : x.toInt = a) (hy : y.toInt = b) (h : ¬ x = y) : ¬ a = b := fun q => h (Int32.toInt_inj.mp (by rw [hx, hy, q]))
section ROWS
variable {p : Program} {l : Launch} {e : Env} {R : Room} {s : State} {m : MethodId} {args : Array Value} {below : List Frame} {meth : Method} {c : Code} {H : Heap} {locs : List Loc} {cells slots : Nat} {Q : State → Prop}
variable {D : va_G} {k : Nat → ClassId} {A : Nat → Prop} {ws : va_W} {H0 : Heap} {cc : ByteArray} {pc : Nat} {rest : List Value} {ls : Array Slot} {a : Nat} {x y v : Int32}
theorem ev_iadd (hx : p.tables.exec = Jvm.exec) (hb : c.code = cc) (hdg : decode cc pc = .ok (.iadd, 1)) (hv : x + y = v) (kk : W p l e R s m args below meth c H locs cells slots Q (F0 m (pc + 1) ls (.int v :: rest))) : W p l e R s m args below meth c H locs cells slots Q (F0 m pc ls (.int y :: .int x :: rest)) := lv_iadd hx hb hdg (by rw [hv]; exact kk)
theorem ev_isub (hx : p.tables.exec = Jvm.exec) (hb : c.code = cc) (hdg : decode cc pc = .ok (.isub, 1)) (hv : x - y = v) (kk : W p l e R s m args below meth c H locs cells slots Q (F0 m (pc + 1) ls (.int v :: rest))) : W p l e R s m args below meth c H locs cells slots Q (F0 m pc ls (.int y :: .int x :: rest)) := lv_isub hx hb hdg (by rw [hv]; exact kk)
theorem ev_imul (hx : p.tables.exec = Jvm.exec) (hb : c.code = cc) (hdg : decode cc pc = .ok (.imul, 1)) (hv : x * y = v) (kk : W p l e R s m args below meth c H locs cells slots Q (F0 m (pc + 1) ls (.int v :: rest))) : W p l e R s m args below meth c H locs cells slots Q (F0 m pc ls (.int y :: .int x :: rest)) := lv_imul hx hb hdg (by rw [hv]; exact kk)
theorem ldI (hx : p.tables.exec = Jvm.exec) (hb : c.code = cc) (hK : va_K D clsL (tyL k) s) (hP : va_P D clsL ws H) (q0 : Nat) {n : Nat} {f : Nat → Int32} (ha : ws[q0]? = some (a, .inl (k 0, n, .inl f))) {i : Int32} (hin : vp_in i n) (hv : f i.toNatClampNeg = v) (hdg : decode cc pc = .ok (.iaload, 1))
    (kk : W p l e R s m args below meth c H locs cells slots Q (F0 m (pc + 1) ls (.int v :: rest))) : W p l e R s m args below meth c H locs cells slots Q (F0 m pc ls (.int i :: .ref a :: rest)) := va_iald hx hb hK hP q0 0 ha rfl hin hdg (by rw [hv]; exact kk)
theorem ldZ (hx : p.tables.exec = Jvm.exec) (hb : c.code = cc) (hK : va_K D clsL (tyL k) s) (hP : va_P D clsL ws H) (q0 : Nat) {n : Nat} {f : Nat → Int32} (ha : ws[q0]? = some (a, .inl (k 1, n, .inl f))) {i : Int32} (hin : vp_in i n) (hv : f i.toNatClampNeg = v) (hdg : decode cc pc = .ok (.baload, 1))
    (kk : W p l e R s m args below meth c H locs cells slots Q (F0 m (pc + 1) ls (.int v :: rest))) : W p l e R s m args below meth c H locs cells slots Q (F0 m pc ls (.int i :: .ref a :: rest)) := va_zald hx hb hK hP q0 1 ha rfl hin hdg (by rw [hv]; exact kk)
theorem ldQ (hx : p.tables.exec = Jvm.exec) (hb : c.code = cc) (hK : va_K D clsL (tyL k) s) (hP : va_P D clsL ws H) (q0 t0 : Nat) {C : String} (ht : (tyL k)[t0]? = some (k t0, .object C)) {n w : Nat} {f : Nat → Option Nat} (ha : ws[q0]? = some (a, .inl (k t0, n, .inr (.inr (.inr (.inr f)))))) {i : Int32} (hin : vp_in i n) (hv : f i.toNatClampNeg = some w) (hdg : decode cc pc = .ok (.aaload, 1))
    (kk : W p l e R s m args below meth c H locs cells slots Q (F0 m (pc + 1) ls (.ref w :: rest))) : W p l e R s m args below meth c H locs cells slots Q (F0 m pc ls (.int i :: .ref a :: rest)) := va_aldq hx hb hK hP q0 t0 ha ht hin hdg (by rw [hv]; exact kk)
theorem ldN (hx : p.tables.exec = Jvm.exec) (hb : c.code = cc) (hK : va_K D clsL (tyL k) s) (hP : va_P D clsL ws H) (q0 t0 : Nat) {C : String} (ht : (tyL k)[t0]? = some (k t0, .object C)) {n : Nat} {f : Nat → Option Nat} (ha : ws[q0]? = some (a, .inl (k t0, n, .inr (.inr (.inr (.inr f)))))) {i : Int32} (hin : vp_in i n) (hv : f i.toNatClampNeg = none) (hdg : decode cc pc = .ok (.aaload, 1))
    (kk : W p l e R s m args below meth c H locs cells slots Q (F0 m (pc + 1) ls (.null :: rest))) : W p l e R s m args below meth c H locs cells slots Q (F0 m pc ls (.int i :: .ref a :: rest)) := va_aldq hx hb hK hP q0 t0 ha ht hin hdg (by rw [hv]; exact kk)
theorem stI (hx : p.tables.exec = Jvm.exec) (hb : c.code = cc) (hK : va_K D clsL (tyL k) s) (hP : va_P D clsL ws H) (hD : va_D A ws) (hS : va_S A H0 H locs) (q0 : Nat) {n : Nat} {f : Nat → Int32} (ha : ws[q0]? = some (a, .inl (k 0, n, .inl f))) {i : Int32} (hin : vp_in i n) (hdg : decode cc pc = .ok (.iastore, 1))
    (kk : ∀ (H1 : Heap) (locs1 : List Loc), va_P D clsL (ws.set q0 (a, .inl (k 0, n, .inl (upd f i.toNatClampNeg x)))) H1 → va_D A (ws.set q0 (a, .inl (k 0, n, .inl (upd f i.toNatClampNeg x)))) → va_S A H0 H1 locs1 → W p l e R s m args below meth c H1 locs1 cells slots Q (F0 m (pc + 1) ls rest)) : W p l e R s m args below meth c H locs cells slots Q (F0 m pc ls (.int x :: .int i :: .ref a :: rest)) := va_iast hx hb hK hP hD hS q0 0 ha rfl hin hdg kk
theorem stZ (hx : p.tables.exec = Jvm.exec) (hb : c.code = cc) (hK : va_K D clsL (tyL k) s) (hP : va_P D clsL ws H) (hD : va_D A ws) (hS : va_S A H0 H locs) (q0 : Nat) {n : Nat} {f : Nat → Int32} (ha : ws[q0]? = some (a, .inl (k 1, n, .inl f))) {i : Int32} (hin : vp_in i n) (hdg : decode cc pc = .ok (.bastore, 1))
    (kk : ∀ (H1 : Heap) (locs1 : List Loc), va_P D clsL (ws.set q0 (a, .inl (k 1, n, .inl (upd f i.toNatClampNeg (vp_nar .boolean x))))) H1 → va_D A (ws.set q0 (a, .inl (k 1, n, .inl (upd f i.toNatClampNeg (vp_nar .boolean x))))) → va_S A H0 H1 locs1 → W p l e R s m args below meth c H1 locs1 cells slots Q (F0 m (pc + 1) ls rest)) : W p l e R s m args below meth c H locs cells slots Q (F0 m pc ls (.int x :: .int i :: .ref a :: rest)) := va_zast hx hb hK hP hD hS q0 1 ha rfl hin hdg kk
end ROWS
end
