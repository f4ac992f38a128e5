section
-- ===== PART A: goes FIRST, ahead of the names: the tables' words, and 'selects' of the private methods out of them =====
/-- a private method of a class that the tables say can be made, by its rows of tables_1 -/
def lw_okq (q : MethodName × Nat) : Prop := (q.1.cls ≠ "java/lang/invoke/MethodHandle" ∧ q.1.cls ≠ "java/lang/invoke/VarHandle") ∧ Cond.instantiable q.1.cls q.2 ∈ tables_1 ∧ Cond.privateMethod q.1 ∈ tables_1 ∧ Cond.instanceMethod q.1 ∈ tables_1
theorem lw_p0 : lw_okq (⟨"EggTown", "readActs", "(I)Z"⟩, 19) := ⟨⟨by decide +kernel, by decide +kernel⟩, List.mem_of_getElem? (i := 23) (by decide +kernel), List.mem_of_getElem? (i := 665) (by decide +kernel), List.mem_of_getElem? (i := 666) (by decide +kernel)⟩
theorem lw_p1 : lw_okq (⟨"EggTown$Acts", "line", "(LEggTown$Tape;I)Z"⟩, 6) := ⟨⟨by decide +kernel, by decide +kernel⟩, List.mem_of_getElem? (i := 289) (by decide +kernel), List.mem_of_getElem? (i := 673) (by decide +kernel), List.mem_of_getElem? (i := 674) (by decide +kernel)⟩
theorem lw_p2 : lw_okq (⟨"EggTown$Acts", "someEggs", "(LEggTown$Tape;)Z"⟩, 6) := ⟨⟨by decide +kernel, by decide +kernel⟩, List.mem_of_getElem? (i := 289) (by decide +kernel), List.mem_of_getElem? (i := 680) (by decide +kernel), List.mem_of_getElem? (i := 681) (by decide +kernel)⟩
theorem lw_p3 : lw_okq (⟨"EggTown$Acts", "oneEgg", "(LEggTown$Tape;I)Z"⟩, 6) := ⟨⟨by decide +kernel, by decide +kernel⟩, List.mem_of_getElem? (i := 289) (by decide +kernel), List.mem_of_getElem? (i := 684) (by decide +kernel), List.mem_of_getElem? (i := 685) (by decide +kernel)⟩
theorem lw_p4 : lw_okq (⟨"EggTown$Acts", "whatIsDone", "(LEggTown$Tape;I)Z"⟩, 6) := ⟨⟨by decide +kernel, by decide +kernel⟩, List.mem_of_getElem? (i := 289) (by decide +kernel), List.mem_of_getElem? (i := 693) (by decide +kernel), List.mem_of_getElem? (i := 694) (by decide +kernel)⟩
theorem lw_p5 : lw_okq (⟨"EggTown$Law", "start", "(LEggTown$Town;I)V"⟩, 10) := ⟨⟨by decide +kernel, by decide +kernel⟩, List.mem_of_getElem? (i := 245) (by decide +kernel), List.mem_of_getElem? (i := 736) (by decide +kernel), List.mem_of_getElem? (i := 737) (by decide +kernel)⟩
theorem lw_p6 : lw_okq (⟨"EggTown$Law", "ask", "(I)I"⟩, 10) := ⟨⟨by decide +kernel, by decide +kernel⟩, List.mem_of_getElem? (i := 245) (by decide +kernel), List.mem_of_getElem? (i := 740) (by decide +kernel), List.mem_of_getElem? (i := 741) (by decide +kernel)⟩
theorem lw_p7 : lw_okq (⟨"EggTown$Law", "run", "(II)I"⟩, 10) := ⟨⟨by decide +kernel, by decide +kernel⟩, List.mem_of_getElem? (i := 245) (by decide +kernel), List.mem_of_getElem? (i := 744) (by decide +kernel), List.mem_of_getElem? (i := 745) (by decide +kernel)⟩
theorem lw_p8 : lw_okq (⟨"EggTown$Law", "push", "(I)V"⟩, 10) := ⟨⟨by decide +kernel, by decide +kernel⟩, List.mem_of_getElem? (i := 245) (by decide +kernel), List.mem_of_getElem? (i := 748) (by decide +kernel), List.mem_of_getElem? (i := 749) (by decide +kernel)⟩
theorem lw_p9 : lw_okq (⟨"EggTown$Law", "pop", "()I"⟩, 10) := ⟨⟨by decide +kernel, by decide +kernel⟩, List.mem_of_getElem? (i := 245) (by decide +kernel), List.mem_of_getElem? (i := 752) (by decide +kernel), List.mem_of_getElem? (i := 753) (by decide +kernel)⟩
theorem lw_p10 : lw_okq (⟨"EggTown$Town", "strikeOrLay", "(ILEggTown$Law;)V"⟩, 10) := ⟨⟨by decide +kernel, by decide +kernel⟩, List.mem_of_getElem? (i := 57) (by decide +kernel), List.mem_of_getElem? (i := 828) (by decide +kernel), List.mem_of_getElem? (i := 829) (by decide +kernel)⟩
theorem lw_p11 : lw_okq (⟨"EggTown$Town", "draw", "()I"⟩, 10) := ⟨⟨by decide +kernel, by decide +kernel⟩, List.mem_of_getElem? (i := 57) (by decide +kernel), List.mem_of_getElem? (i := 832) (by decide +kernel), List.mem_of_getElem? (i := 833) (by decide +kernel)⟩
theorem lw_p12 : lw_okq (⟨"EggTown$Town", "mayGoBad", "(ILEggTown$Law;)V"⟩, 10) := ⟨⟨by decide +kernel, by decide +kernel⟩, List.mem_of_getElem? (i := 57) (by decide +kernel), List.mem_of_getElem? (i := 846) (by decide +kernel), List.mem_of_getElem? (i := 847) (by decide +kernel)⟩
theorem lw_p13 : lw_okq (⟨"EggTown", "firstBadDay", "(I)I"⟩, 19) := ⟨⟨by decide +kernel, by decide +kernel⟩, List.mem_of_getElem? (i := 23) (by decide +kernel), List.mem_of_getElem? (i := 863) (by decide +kernel), List.mem_of_getElem? (i := 864) (by decide +kernel)⟩
theorem lw_p14 : lw_okq (⟨"EggTown$Plan", "findFits", "(LEggTown$Town;LEggTown$Law;I)V"⟩, 13) := ⟨⟨by decide +kernel, by decide +kernel⟩, List.mem_of_getElem? (i := 315) (by decide +kernel), List.mem_of_getElem? (i := 917) (by decide +kernel), List.mem_of_getElem? (i := 918) (by decide +kernel)⟩
theorem lw_p15 : lw_okq (⟨"EggTown$Plan", "isFit", "(II)Z"⟩, 13) := ⟨⟨by decide +kernel, by decide +kernel⟩, List.mem_of_getElem? (i := 315) (by decide +kernel), List.mem_of_getElem? (i := 922) (by decide +kernel), List.mem_of_getElem? (i := 923) (by decide +kernel)⟩
def lw_privs_1 : List (MethodName × Nat) := [(⟨"EggTown", "readActs", "(I)Z"⟩, 19), (⟨"EggTown$Acts", "line", "(LEggTown$Tape;I)Z"⟩, 6), (⟨"EggTown$Acts", "someEggs", "(LEggTown$Tape;)Z"⟩, 6), (⟨"EggTown$Acts", "oneEgg", "(LEggTown$Tape;I)Z"⟩, 6), (⟨"EggTown$Acts", "whatIsDone", "(LEggTown$Tape;I)Z"⟩, 6), (⟨"EggTown$Law", "start", "(LEggTown$Town;I)V"⟩, 10), (⟨"EggTown$Law", "ask", "(I)I"⟩, 10), (⟨"EggTown$Law", "run", "(II)I"⟩, 10), (⟨"EggTown$Law", "push", "(I)V"⟩, 10), (⟨"EggTown$Law", "pop", "()I"⟩, 10), (⟨"EggTown$Town", "strikeOrLay", "(ILEggTown$Law;)V"⟩, 10), (⟨"EggTown$Town", "draw", "()I"⟩, 10), (⟨"EggTown$Town", "mayGoBad", "(ILEggTown$Law;)V"⟩, 10), (⟨"EggTown", "firstBadDay", "(I)I"⟩, 19), (⟨"EggTown$Plan", "findFits", "(LEggTown$Town;LEggTown$Law;I)V"⟩, 13), (⟨"EggTown$Plan", "isFit", "(II)Z"⟩, 13)]
theorem lw_r1 : ∀ q ∈ lw_privs_1, lw_okq q := List.forall_mem_cons.mpr ⟨lw_p0, List.forall_mem_cons.mpr ⟨lw_p1, List.forall_mem_cons.mpr ⟨lw_p2, List.forall_mem_cons.mpr ⟨lw_p3, List.forall_mem_cons.mpr ⟨lw_p4, List.forall_mem_cons.mpr ⟨lw_p5, List.forall_mem_cons.mpr ⟨lw_p6, List.forall_mem_cons.mpr ⟨lw_p7, List.forall_mem_cons.mpr ⟨lw_p8, List.forall_mem_cons.mpr ⟨lw_p9, List.forall_mem_cons.mpr ⟨lw_p10, List.forall_mem_cons.mpr ⟨lw_p11, List.forall_mem_cons.mpr ⟨lw_p12, List.forall_mem_cons.mpr ⟨lw_p13, List.forall_mem_cons.mpr ⟨lw_p14, List.forall_mem_cons.mpr ⟨lw_p15, fun _ h => absurd h List.not_mem_nil⟩⟩⟩⟩⟩⟩⟩⟩⟩⟩⟩⟩⟩⟩⟩⟩
theorem lw_p16 : lw_okq (⟨"EggTown$Plan", "findHopes", "()V"⟩, 13) := ⟨⟨by decide +kernel, by decide +kernel⟩, List.mem_of_getElem? (i := 315) (by decide +kernel), List.mem_of_getElem? (i := 928) (by decide +kernel), List.mem_of_getElem? (i := 929) (by decide +kernel)⟩
theorem lw_p17 : lw_okq (⟨"EggTown$Plan", "gain", "(II)I"⟩, 13) := ⟨⟨by decide +kernel, by decide +kernel⟩, List.mem_of_getElem? (i := 315) (by decide +kernel), List.mem_of_getElem? (i := 932) (by decide +kernel), List.mem_of_getElem? (i := 933) (by decide +kernel)⟩
theorem lw_p18 : lw_okq (⟨"EggTown$Plan", "choose", "(III)V"⟩, 13) := ⟨⟨by decide +kernel, by decide +kernel⟩, List.mem_of_getElem? (i := 315) (by decide +kernel), List.mem_of_getElem? (i := 937) (by decide +kernel), List.mem_of_getElem? (i := 938) (by decide +kernel)⟩
theorem lw_p19 : lw_okq (⟨"EggTown", "mostMinutes", "(I)I"⟩, 19) := ⟨⟨by decide +kernel, by decide +kernel⟩, List.mem_of_getElem? (i := 23) (by decide +kernel), List.mem_of_getElem? (i := 960) (by decide +kernel), List.mem_of_getElem? (i := 961) (by decide +kernel)⟩
theorem lw_p20 : lw_okq (⟨"EggTown", "takesRoom", "(I)Z"⟩, 19) := ⟨⟨by decide +kernel, by decide +kernel⟩, List.mem_of_getElem? (i := 23) (by decide +kernel), List.mem_of_getElem? (i := 964) (by decide +kernel), List.mem_of_getElem? (i := 965) (by decide +kernel)⟩
theorem lw_p21 : lw_okq (⟨"EggTown", "bestHatch", "(I)I"⟩, 19) := ⟨⟨by decide +kernel, by decide +kernel⟩, List.mem_of_getElem? (i := 23) (by decide +kernel), List.mem_of_getElem? (i := 972) (by decide +kernel), List.mem_of_getElem? (i := 973) (by decide +kernel)⟩
theorem lw_p22 : lw_okq (⟨"EggTown", "tellEggs", "(II)Z"⟩, 19) := ⟨⟨by decide +kernel, by decide +kernel⟩, List.mem_of_getElem? (i := 23) (by decide +kernel), List.mem_of_getElem? (i := 980) (by decide +kernel), List.mem_of_getElem? (i := 981) (by decide +kernel)⟩
theorem lw_p23 : lw_okq (⟨"EggTown", "share", "(IIII)I"⟩, 19) := ⟨⟨by decide +kernel, by decide +kernel⟩, List.mem_of_getElem? (i := 23) (by decide +kernel), List.mem_of_getElem? (i := 988) (by decide +kernel), List.mem_of_getElem? (i := 989) (by decide +kernel)⟩
theorem lw_p24 : lw_okq (⟨"EggTown", "isSteady", "(II)Z"⟩, 19) := ⟨⟨by decide +kernel, by decide +kernel⟩, List.mem_of_getElem? (i := 23) (by decide +kernel), List.mem_of_getElem? (i := 1011) (by decide +kernel), List.mem_of_getElem? (i := 1012) (by decide +kernel)⟩
theorem lw_p25 : lw_okq (⟨"EggTown$Sets", "note", "(I)V"⟩, 5) := ⟨⟨by decide +kernel, by decide +kernel⟩, List.mem_of_getElem? (i := 361) (by decide +kernel), List.mem_of_getElem? (i := 1030) (by decide +kernel), List.mem_of_getElem? (i := 1031) (by decide +kernel)⟩
theorem lw_p26 : lw_okq (⟨"EggTown", "daysTillDone", "(III)I"⟩, 19) := ⟨⟨by decide +kernel, by decide +kernel⟩, List.mem_of_getElem? (i := 23) (by decide +kernel), List.mem_of_getElem? (i := 1055) (by decide +kernel), List.mem_of_getElem? (i := 1056) (by decide +kernel)⟩
theorem lw_p27 : lw_okq (⟨"EggTownModel", "isPerson", "(I)Z"⟩, 48) := ⟨⟨by decide +kernel, by decide +kernel⟩, List.mem_of_getElem? (i := 1113) (by decide +kernel), List.mem_of_getElem? (i := 1271) (by decide +kernel), List.mem_of_getElem? (i := 1272) (by decide +kernel)⟩
theorem lw_p28 : lw_okq (⟨"EggTownModel", "isHen", "(I)Z"⟩, 48) := ⟨⟨by decide +kernel, by decide +kernel⟩, List.mem_of_getElem? (i := 1113) (by decide +kernel), List.mem_of_getElem? (i := 1286) (by decide +kernel), List.mem_of_getElem? (i := 1287) (by decide +kernel)⟩
theorem lw_p29 : lw_okq (⟨"EggTownModel", "puts", "(II)V"⟩, 48) := ⟨⟨by decide +kernel, by decide +kernel⟩, List.mem_of_getElem? (i := 1113) (by decide +kernel), List.mem_of_getElem? (i := 1298) (by decide +kernel), List.mem_of_getElem? (i := 1299) (by decide +kernel)⟩
theorem lw_p30 : lw_okq (⟨"EggTownModel", "types", "(I)V"⟩, 48) := ⟨⟨by decide +kernel, by decide +kernel⟩, List.mem_of_getElem? (i := 1113) (by decide +kernel), List.mem_of_getElem? (i := 1306) (by decide +kernel), List.mem_of_getElem? (i := 1307) (by decide +kernel)⟩
theorem lw_p31 : lw_okq (⟨"EggTownModel", "readsClause", "()Z"⟩, 48) := ⟨⟨by decide +kernel, by decide +kernel⟩, List.mem_of_getElem? (i := 1113) (by decide +kernel), List.mem_of_getElem? (i := 1314) (by decide +kernel), List.mem_of_getElem? (i := 1315) (by decide +kernel)⟩
def lw_privs_2 : List (MethodName × Nat) := [(⟨"EggTown$Plan", "findHopes", "()V"⟩, 13), (⟨"EggTown$Plan", "gain", "(II)I"⟩, 13), (⟨"EggTown$Plan", "choose", "(III)V"⟩, 13), (⟨"EggTown", "mostMinutes", "(I)I"⟩, 19), (⟨"EggTown", "takesRoom", "(I)Z"⟩, 19), (⟨"EggTown", "bestHatch", "(I)I"⟩, 19), (⟨"EggTown", "tellEggs", "(II)Z"⟩, 19), (⟨"EggTown", "share", "(IIII)I"⟩, 19), (⟨"EggTown", "isSteady", "(II)Z"⟩, 19), (⟨"EggTown$Sets", "note", "(I)V"⟩, 5), (⟨"EggTown", "daysTillDone", "(III)I"⟩, 19), (⟨"EggTownModel", "isPerson", "(I)Z"⟩, 48), (⟨"EggTownModel", "isHen", "(I)Z"⟩, 48), (⟨"EggTownModel", "puts", "(II)V"⟩, 48), (⟨"EggTownModel", "types", "(I)V"⟩, 48), (⟨"EggTownModel", "readsClause", "()Z"⟩, 48)]
theorem lw_r2 : ∀ q ∈ lw_privs_2, lw_okq q := List.forall_mem_cons.mpr ⟨lw_p16, List.forall_mem_cons.mpr ⟨lw_p17, List.forall_mem_cons.mpr ⟨lw_p18, List.forall_mem_cons.mpr ⟨lw_p19, List.forall_mem_cons.mpr ⟨lw_p20, List.forall_mem_cons.mpr ⟨lw_p21, List.forall_mem_cons.mpr ⟨lw_p22, List.forall_mem_cons.mpr ⟨lw_p23, List.forall_mem_cons.mpr ⟨lw_p24, List.forall_mem_cons.mpr ⟨lw_p25, List.forall_mem_cons.mpr ⟨lw_p26, List.forall_mem_cons.mpr ⟨lw_p27, List.forall_mem_cons.mpr ⟨lw_p28, List.forall_mem_cons.mpr ⟨lw_p29, List.forall_mem_cons.mpr ⟨lw_p30, List.forall_mem_cons.mpr ⟨lw_p31, fun _ h => absurd h List.not_mem_nil⟩⟩⟩⟩⟩⟩⟩⟩⟩⟩⟩⟩⟩⟩⟩⟩
theorem lw_p32 : lw_okq (⟨"EggTownModel", "here", "()I"⟩, 48) := ⟨⟨by decide +kernel, by decide +kernel⟩, List.mem_of_getElem? (i := 1113) (by decide +kernel), List.mem_of_getElem? (i := 1318) (by decide +kernel), List.mem_of_getElem? (i := 1319) (by decide +kernel)⟩
theorem lw_p33 : lw_okq (⟨"EggTownModel", "wrongAt", "(II)Z"⟩, 48) := ⟨⟨by decide +kernel, by decide +kernel⟩, List.mem_of_getElem? (i := 1113) (by decide +kernel), List.mem_of_getElem? (i := 1325) (by decide +kernel), List.mem_of_getElem? (i := 1326) (by decide +kernel)⟩
theorem lw_p34 : lw_okq (⟨"EggTownModel", "readsSum", "()Z"⟩, 48) := ⟨⟨by decide +kernel, by decide +kernel⟩, List.mem_of_getElem? (i := 1113) (by decide +kernel), List.mem_of_getElem? (i := 1329) (by decide +kernel), List.mem_of_getElem? (i := 1330) (by decide +kernel)⟩
theorem lw_p35 : lw_okq (⟨"EggTownModel", "readsFactor", "()Z"⟩, 48) := ⟨⟨by decide +kernel, by decide +kernel⟩, List.mem_of_getElem? (i := 1113) (by decide +kernel), List.mem_of_getElem? (i := 1333) (by decide +kernel), List.mem_of_getElem? (i := 1334) (by decide +kernel)⟩
theorem lw_p36 : lw_okq (⟨"EggTownModel", "opens", "(I)Z"⟩, 48) := ⟨⟨by decide +kernel, by decide +kernel⟩, List.mem_of_getElem? (i := 1113) (by decide +kernel), List.mem_of_getElem? (i := 1337) (by decide +kernel), List.mem_of_getElem? (i := 1338) (by decide +kernel)⟩
theorem lw_p37 : lw_okq (⟨"EggTownModel", "isDigit", "()Z"⟩, 48) := ⟨⟨by decide +kernel, by decide +kernel⟩, List.mem_of_getElem? (i := 1113) (by decide +kernel), List.mem_of_getElem? (i := 1342) (by decide +kernel), List.mem_of_getElem? (i := 1343) (by decide +kernel)⟩
theorem lw_p38 : lw_okq (⟨"EggTownModel", "readsNumber", "()Z"⟩, 48) := ⟨⟨by decide +kernel, by decide +kernel⟩, List.mem_of_getElem? (i := 1113) (by decide +kernel), List.mem_of_getElem? (i := 1346) (by decide +kernel), List.mem_of_getElem? (i := 1347) (by decide +kernel)⟩
theorem lw_p39 : lw_okq (⟨"EggTownModel", "notes", "(II)V"⟩, 48) := ⟨⟨by decide +kernel, by decide +kernel⟩, List.mem_of_getElem? (i := 1113) (by decide +kernel), List.mem_of_getElem? (i := 1350) (by decide +kernel), List.mem_of_getElem? (i := 1351) (by decide +kernel)⟩
theorem lw_p40 : lw_okq (⟨"EggTownModel", "closesSums", "(Z)V"⟩, 48) := ⟨⟨by decide +kernel, by decide +kernel⟩, List.mem_of_getElem? (i := 1113) (by decide +kernel), List.mem_of_getElem? (i := 1360) (by decide +kernel), List.mem_of_getElem? (i := 1361) (by decide +kernel)⟩
theorem lw_p41 : lw_okq (⟨"EggTownModel", "waitTop", "()I"⟩, 48) := ⟨⟨by decide +kernel, by decide +kernel⟩, List.mem_of_getElem? (i := 1113) (by decide +kernel), List.mem_of_getElem? (i := 1364) (by decide +kernel), List.mem_of_getElem? (i := 1365) (by decide +kernel)⟩
theorem lw_p42 : lw_okq (⟨"EggTownModel", "hasOpenSum", "(I)Z"⟩, 48) := ⟨⟨by decide +kernel, by decide +kernel⟩, List.mem_of_getElem? (i := 1113) (by decide +kernel), List.mem_of_getElem? (i := 1368) (by decide +kernel), List.mem_of_getElem? (i := 1369) (by decide +kernel)⟩
theorem lw_p43 : lw_okq (⟨"EggTownModel", "readsCondition", "()Z"⟩, 48) := ⟨⟨by decide +kernel, by decide +kernel⟩, List.mem_of_getElem? (i := 1113) (by decide +kernel), List.mem_of_getElem? (i := 1372) (by decide +kernel), List.mem_of_getElem? (i := 1373) (by decide +kernel)⟩
theorem lw_p44 : lw_okq (⟨"EggTownModel", "readsCompared", "()Z"⟩, 48) := ⟨⟨by decide +kernel, by decide +kernel⟩, List.mem_of_getElem? (i := 1113) (by decide +kernel), List.mem_of_getElem? (i := 1376) (by decide +kernel), List.mem_of_getElem? (i := 1377) (by decide +kernel)⟩
theorem lw_p45 : lw_okq (⟨"EggTownModel", "endsPiece", "()V"⟩, 48) := ⟨⟨by decide +kernel, by decide +kernel⟩, List.mem_of_getElem? (i := 1113) (by decide +kernel), List.mem_of_getElem? (i := 1380) (by decide +kernel), List.mem_of_getElem? (i := 1381) (by decide +kernel)⟩
theorem lw_p46 : lw_okq (⟨"EggTownModel", "lands", "(Z)V"⟩, 48) := ⟨⟨by decide +kernel, by decide +kernel⟩, List.mem_of_getElem? (i := 1113) (by decide +kernel), List.mem_of_getElem? (i := 1384) (by decide +kernel), List.mem_of_getElem? (i := 1385) (by decide +kernel)⟩
theorem lw_p47 : lw_okq (⟨"EggTownModel", "jumps", "(I)V"⟩, 48) := ⟨⟨by decide +kernel, by decide +kernel⟩, List.mem_of_getElem? (i := 1113) (by decide +kernel), List.mem_of_getElem? (i := 1388) (by decide +kernel), List.mem_of_getElem? (i := 1389) (by decide +kernel)⟩
def lw_privs_3 : List (MethodName × Nat) := [(⟨"EggTownModel", "here", "()I"⟩, 48), (⟨"EggTownModel", "wrongAt", "(II)Z"⟩, 48), (⟨"EggTownModel", "readsSum", "()Z"⟩, 48), (⟨"EggTownModel", "readsFactor", "()Z"⟩, 48), (⟨"EggTownModel", "opens", "(I)Z"⟩, 48), (⟨"EggTownModel", "isDigit", "()Z"⟩, 48), (⟨"EggTownModel", "readsNumber", "()Z"⟩, 48), (⟨"EggTownModel", "notes", "(II)V"⟩, 48), (⟨"EggTownModel", "closesSums", "(Z)V"⟩, 48), (⟨"EggTownModel", "waitTop", "()I"⟩, 48), (⟨"EggTownModel", "hasOpenSum", "(I)Z"⟩, 48), (⟨"EggTownModel", "readsCondition", "()Z"⟩, 48), (⟨"EggTownModel", "readsCompared", "()Z"⟩, 48), (⟨"EggTownModel", "endsPiece", "()V"⟩, 48), (⟨"EggTownModel", "lands", "(Z)V"⟩, 48), (⟨"EggTownModel", "jumps", "(I)V"⟩, 48)]
theorem lw_r3 : ∀ q ∈ lw_privs_3, lw_okq q := List.forall_mem_cons.mpr ⟨lw_p32, List.forall_mem_cons.mpr ⟨lw_p33, List.forall_mem_cons.mpr ⟨lw_p34, List.forall_mem_cons.mpr ⟨lw_p35, List.forall_mem_cons.mpr ⟨lw_p36, List.forall_mem_cons.mpr ⟨lw_p37, List.forall_mem_cons.mpr ⟨lw_p38, List.forall_mem_cons.mpr ⟨lw_p39, List.forall_mem_cons.mpr ⟨lw_p40, List.forall_mem_cons.mpr ⟨lw_p41, List.forall_mem_cons.mpr ⟨lw_p42, List.forall_mem_cons.mpr ⟨lw_p43, List.forall_mem_cons.mpr ⟨lw_p44, List.forall_mem_cons.mpr ⟨lw_p45, List.forall_mem_cons.mpr ⟨lw_p46, List.forall_mem_cons.mpr ⟨lw_p47, fun _ h => absurd h List.not_mem_nil⟩⟩⟩⟩⟩⟩⟩⟩⟩⟩⟩⟩⟩⟩⟩⟩
theorem lw_p48 : lw_okq (⟨"EggTownModel", "takes", "(I)Z"⟩, 48) := ⟨⟨by decide +kernel, by decide +kernel⟩, List.mem_of_getElem? (i := 1113) (by decide +kernel), List.mem_of_getElem? (i := 1392) (by decide +kernel), List.mem_of_getElem? (i := 1393) (by decide +kernel)⟩
theorem lw_p49 : lw_okq (⟨"EggTownModel", "readsLines", "(I)Z"⟩, 48) := ⟨⟨by decide +kernel, by decide +kernel⟩, List.mem_of_getElem? (i := 1113) (by decide +kernel), List.mem_of_getElem? (i := 1400) (by decide +kernel), List.mem_of_getElem? (i := 1401) (by decide +kernel)⟩
theorem lw_p50 : lw_okq (⟨"EggTownModel", "readsLine", "()Z"⟩, 48) := ⟨⟨by decide +kernel, by decide +kernel⟩, List.mem_of_getElem? (i := 1113) (by decide +kernel), List.mem_of_getElem? (i := 1404) (by decide +kernel), List.mem_of_getElem? (i := 1405) (by decide +kernel)⟩
theorem lw_p51 : lw_okq (⟨"EggTownModel", "readsEggs", "()I"⟩, 48) := ⟨⟨by decide +kernel, by decide +kernel⟩, List.mem_of_getElem? (i := 1113) (by decide +kernel), List.mem_of_getElem? (i := 1408) (by decide +kernel), List.mem_of_getElem? (i := 1409) (by decide +kernel)⟩
theorem lw_p52 : lw_okq (⟨"EggTownModel", "readsEgg", "(I)Z"⟩, 48) := ⟨⟨by decide +kernel, by decide +kernel⟩, List.mem_of_getElem? (i := 1113) (by decide +kernel), List.mem_of_getElem? (i := 1412) (by decide +kernel), List.mem_of_getElem? (i := 1413) (by decide +kernel)⟩
theorem lw_p53 : lw_okq (⟨"EggTownModel", "isInHandful", "(II)Z"⟩, 48) := ⟨⟨by decide +kernel, by decide +kernel⟩, List.mem_of_getElem? (i := 1113) (by decide +kernel), List.mem_of_getElem? (i := 1416) (by decide +kernel), List.mem_of_getElem? (i := 1417) (by decide +kernel)⟩
theorem lw_p54 : lw_okq (⟨"EggTownModel", "does", "(I)Z"⟩, 48) := ⟨⟨by decide +kernel, by decide +kernel⟩, List.mem_of_getElem? (i := 1113) (by decide +kernel), List.mem_of_getElem? (i := 1420) (by decide +kernel), List.mem_of_getElem? (i := 1421) (by decide +kernel)⟩
theorem lw_p55 : lw_okq (⟨"EggTownModel", "canBe", "(I)Z"⟩, 48) := ⟨⟨by decide +kernel, by decide +kernel⟩, List.mem_of_getElem? (i := 1113) (by decide +kernel), List.mem_of_getElem? (i := 1424) (by decide +kernel), List.mem_of_getElem? (i := 1425) (by decide +kernel)⟩
theorem lw_p56 : lw_okq (⟨"EggTownModel", "isWork", "(I)Z"⟩, 48) := ⟨⟨by decide +kernel, by decide +kernel⟩, List.mem_of_getElem? (i := 1113) (by decide +kernel), List.mem_of_getElem? (i := 1428) (by decide +kernel), List.mem_of_getElem? (i := 1429) (by decide +kernel)⟩
theorem lw_p57 : lw_okq (⟨"EggTownModel", "isDone", "(I)Z"⟩, 48) := ⟨⟨by decide +kernel, by decide +kernel⟩, List.mem_of_getElem? (i := 1113) (by decide +kernel), List.mem_of_getElem? (i := 1432) (by decide +kernel), List.mem_of_getElem? (i := 1433) (by decide +kernel)⟩
theorem lw_p58 : lw_okq (⟨"EggTownModel", "isWhole", "(I)Z"⟩, 48) := ⟨⟨by decide +kernel, by decide +kernel⟩, List.mem_of_getElem? (i := 1113) (by decide +kernel), List.mem_of_getElem? (i := 1436) (by decide +kernel), List.mem_of_getElem? (i := 1437) (by decide +kernel)⟩
theorem lw_p59 : lw_okq (⟨"EggTownModel", "isEgg", "(I)Z"⟩, 48) := ⟨⟨by decide +kernel, by decide +kernel⟩, List.mem_of_getElem? (i := 1113) (by decide +kernel), List.mem_of_getElem? (i := 1440) (by decide +kernel), List.mem_of_getElem? (i := 1441) (by decide +kernel)⟩
theorem lw_p60 : lw_okq (⟨"EggTownModel", "gives", "(II)V"⟩, 48) := ⟨⟨by decide +kernel, by decide +kernel⟩, List.mem_of_getElem? (i := 1113) (by decide +kernel), List.mem_of_getElem? (i := 1444) (by decide +kernel), List.mem_of_getElem? (i := 1445) (by decide +kernel)⟩
theorem lw_p61 : lw_okq (⟨"EggTownModel", "worksBy", "(II)V"⟩, 48) := ⟨⟨by decide +kernel, by decide +kernel⟩, List.mem_of_getElem? (i := 1113) (by decide +kernel), List.mem_of_getElem? (i := 1448) (by decide +kernel), List.mem_of_getElem? (i := 1449) (by decide +kernel)⟩
theorem lw_p62 : lw_okq (⟨"EggTownModel", "worthFor", "(II)I"⟩, 48) := ⟨⟨by decide +kernel, by decide +kernel⟩, List.mem_of_getElem? (i := 1113) (by decide +kernel), List.mem_of_getElem? (i := 1452) (by decide +kernel), List.mem_of_getElem? (i := 1453) (by decide +kernel)⟩
theorem lw_p63 : lw_okq (⟨"EggTownModel", "feelsEgg", "(I)V"⟩, 48) := ⟨⟨by decide +kernel, by decide +kernel⟩, List.mem_of_getElem? (i := 1113) (by decide +kernel), List.mem_of_getElem? (i := 1456) (by decide +kernel), List.mem_of_getElem? (i := 1457) (by decide +kernel)⟩
def lw_privs_4 : List (MethodName × Nat) := [(⟨"EggTownModel", "takes", "(I)Z"⟩, 48), (⟨"EggTownModel", "readsLines", "(I)Z"⟩, 48), (⟨"EggTownModel", "readsLine", "()Z"⟩, 48), (⟨"EggTownModel", "readsEggs", "()I"⟩, 48), (⟨"EggTownModel", "readsEgg", "(I)Z"⟩, 48), (⟨"EggTownModel", "isInHandful", "(II)Z"⟩, 48), (⟨"EggTownModel", "does", "(I)Z"⟩, 48), (⟨"EggTownModel", "canBe", "(I)Z"⟩, 48), (⟨"EggTownModel", "isWork", "(I)Z"⟩, 48), (⟨"EggTownModel", "isDone", "(I)Z"⟩, 48), (⟨"EggTownModel", "isWhole", "(I)Z"⟩, 48), (⟨"EggTownModel", "isEgg", "(I)Z"⟩, 48), (⟨"EggTownModel", "gives", "(II)V"⟩, 48), (⟨"EggTownModel", "worksBy", "(II)V"⟩, 48), (⟨"EggTownModel", "worthFor", "(II)I"⟩, 48), (⟨"EggTownModel", "feelsEgg", "(I)V"⟩, 48)]
theorem lw_r4 : ∀ q ∈ lw_privs_4, lw_okq q := List.forall_mem_cons.mpr ⟨lw_p48, List.forall_mem_cons.mpr ⟨lw_p49, List.forall_mem_cons.mpr ⟨lw_p50, List.forall_mem_cons.mpr ⟨lw_p51, List.forall_mem_cons.mpr ⟨lw_p52, List.forall_mem_cons.mpr ⟨lw_p53, List.forall_mem_cons.mpr ⟨lw_p54, List.forall_mem_cons.mpr ⟨lw_p55, List.forall_mem_cons.mpr ⟨lw_p56, List.forall_mem_cons.mpr ⟨lw_p57, List.forall_mem_cons.mpr ⟨lw_p58, List.forall_mem_cons.mpr ⟨lw_p59, List.forall_mem_cons.mpr ⟨lw_p60, List.forall_mem_cons.mpr ⟨lw_p61, List.forall_mem_cons.mpr ⟨lw_p62, List.forall_mem_cons.mpr ⟨lw_p63, fun _ h => absurd h List.not_mem_nil⟩⟩⟩⟩⟩⟩⟩⟩⟩⟩⟩⟩⟩⟩⟩⟩
theorem lw_p64 : lw_okq (⟨"EggTownModel", "feels", "()V"⟩, 48) := ⟨⟨by decide +kernel, by decide +kernel⟩, List.mem_of_getElem? (i := 1113) (by decide +kernel), List.mem_of_getElem? (i := 1460) (by decide +kernel), List.mem_of_getElem? (i := 1461) (by decide +kernel)⟩
theorem lw_p65 : lw_okq (⟨"EggTownModel", "byLaw", "(II)I"⟩, 48) := ⟨⟨by decide +kernel, by decide +kernel⟩, List.mem_of_getElem? (i := 1113) (by decide +kernel), List.mem_of_getElem? (i := 1464) (by decide +kernel), List.mem_of_getElem? (i := 1465) (by decide +kernel)⟩
theorem lw_p66 : lw_okq (⟨"EggTownModel", "comesTo", "(II)I"⟩, 48) := ⟨⟨by decide +kernel, by decide +kernel⟩, List.mem_of_getElem? (i := 1113) (by decide +kernel), List.mem_of_getElem? (i := 1468) (by decide +kernel), List.mem_of_getElem? (i := 1469) (by decide +kernel)⟩
theorem lw_p67 : lw_okq (⟨"EggTownModel", "breaks", "(I)V"⟩, 48) := ⟨⟨by decide +kernel, by decide +kernel⟩, List.mem_of_getElem? (i := 1113) (by decide +kernel), List.mem_of_getElem? (i := 1475) (by decide +kernel), List.mem_of_getElem? (i := 1476) (by decide +kernel)⟩
theorem lw_p68 : lw_okq (⟨"EggTownModel", "broods", "(I)V"⟩, 48) := ⟨⟨by decide +kernel, by decide +kernel⟩, List.mem_of_getElem? (i := 1113) (by decide +kernel), List.mem_of_getElem? (i := 1483) (by decide +kernel), List.mem_of_getElem? (i := 1484) (by decide +kernel)⟩
theorem lw_p69 : lw_okq (⟨"EggTownModel", "daysGo", "(I)V"⟩, 48) := ⟨⟨by decide +kernel, by decide +kernel⟩, List.mem_of_getElem? (i := 1113) (by decide +kernel), List.mem_of_getElem? (i := 1498) (by decide +kernel), List.mem_of_getElem? (i := 1499) (by decide +kernel)⟩
theorem lw_p70 : lw_okq (⟨"EggTownModel", "dayGoes", "()V"⟩, 48) := ⟨⟨by decide +kernel, by decide +kernel⟩, List.mem_of_getElem? (i := 1113) (by decide +kernel), List.mem_of_getElem? (i := 1502) (by decide +kernel), List.mem_of_getElem? (i := 1503) (by decide +kernel)⟩
theorem lw_p71 : lw_okq (⟨"EggTownModel", "draws", "()I"⟩, 48) := ⟨⟨by decide +kernel, by decide +kernel⟩, List.mem_of_getElem? (i := 1113) (by decide +kernel), List.mem_of_getElem? (i := 1506) (by decide +kernel), List.mem_of_getElem? (i := 1507) (by decide +kernel)⟩
theorem lw_p72 : lw_okq (⟨"EggTownModel", "feelsHen", "(II)V"⟩, 48) := ⟨⟨by decide +kernel, by decide +kernel⟩, List.mem_of_getElem? (i := 1113) (by decide +kernel), List.mem_of_getElem? (i := 1511) (by decide +kernel), List.mem_of_getElem? (i := 1512) (by decide +kernel)⟩
theorem lw_p73 : lw_okq (⟨"EggTownModel", "lays", "(I)V"⟩, 48) := ⟨⟨by decide +kernel, by decide +kernel⟩, List.mem_of_getElem? (i := 1113) (by decide +kernel), List.mem_of_getElem? (i := 1515) (by decide +kernel), List.mem_of_getElem? (i := 1516) (by decide +kernel)⟩
theorem lw_p74 : lw_okq (⟨"EggTownModel", "badBehind", "(I)I"⟩, 48) := ⟨⟨by decide +kernel, by decide +kernel⟩, List.mem_of_getElem? (i := 1113) (by decide +kernel), List.mem_of_getElem? (i := 1519) (by decide +kernel), List.mem_of_getElem? (i := 1520) (by decide +kernel)⟩
theorem lw_p75 : lw_okq (⟨"EggTownModel", "howMany", "(I)I"⟩, 48) := ⟨⟨by decide +kernel, by decide +kernel⟩, List.mem_of_getElem? (i := 1113) (by decide +kernel), List.mem_of_getElem? (i := 1527) (by decide +kernel), List.mem_of_getElem? (i := 1528) (by decide +kernel)⟩
theorem lw_p76 : lw_okq (⟨"EggTownModel", "badOn", "(I)I"⟩, 48) := ⟨⟨by decide +kernel, by decide +kernel⟩, List.mem_of_getElem? (i := 1113) (by decide +kernel), List.mem_of_getElem? (i := 1535) (by decide +kernel), List.mem_of_getElem? (i := 1536) (by decide +kernel)⟩
theorem lw_p77 : lw_okq (⟨"EggTownModel", "eggsOf", "(IZ)I"⟩, 48) := ⟨⟨by decide +kernel, by decide +kernel⟩, List.mem_of_getElem? (i := 1113) (by decide +kernel), List.mem_of_getElem? (i := 1544) (by decide +kernel), List.mem_of_getElem? (i := 1545) (by decide +kernel)⟩
theorem lw_p78 : lw_okq (⟨"EggTownModel", "hensOf", "(I)I"⟩, 48) := ⟨⟨by decide +kernel, by decide +kernel⟩, List.mem_of_getElem? (i := 1113) (by decide +kernel), List.mem_of_getElem? (i := 1548) (by decide +kernel), List.mem_of_getElem? (i := 1549) (by decide +kernel)⟩
theorem lw_p79 : lw_okq (⟨"EggTownModel", "laysOwn", "(II)V"⟩, 48) := ⟨⟨by decide +kernel, by decide +kernel⟩, List.mem_of_getElem? (i := 1113) (by decide +kernel), List.mem_of_getElem? (i := 1563) (by decide +kernel), List.mem_of_getElem? (i := 1564) (by decide +kernel)⟩
def lw_privs_5 : List (MethodName × Nat) := [(⟨"EggTownModel", "feels", "()V"⟩, 48), (⟨"EggTownModel", "byLaw", "(II)I"⟩, 48), (⟨"EggTownModel", "comesTo", "(II)I"⟩, 48), (⟨"EggTownModel", "breaks", "(I)V"⟩, 48), (⟨"EggTownModel", "broods", "(I)V"⟩, 48), (⟨"EggTownModel", "daysGo", "(I)V"⟩, 48), (⟨"EggTownModel", "dayGoes", "()V"⟩, 48), (⟨"EggTownModel", "draws", "()I"⟩, 48), (⟨"EggTownModel", "feelsHen", "(II)V"⟩, 48), (⟨"EggTownModel", "lays", "(I)V"⟩, 48), (⟨"EggTownModel", "badBehind", "(I)I"⟩, 48), (⟨"EggTownModel", "howMany", "(I)I"⟩, 48), (⟨"EggTownModel", "badOn", "(I)I"⟩, 48), (⟨"EggTownModel", "eggsOf", "(IZ)I"⟩, 48), (⟨"EggTownModel", "hensOf", "(I)I"⟩, 48), (⟨"EggTownModel", "laysOwn", "(II)V"⟩, 48)]
theorem lw_r5 : ∀ q ∈ lw_privs_5, lw_okq q := List.forall_mem_cons.mpr ⟨lw_p64, List.forall_mem_cons.mpr ⟨lw_p65, List.forall_mem_cons.mpr ⟨lw_p66, List.forall_mem_cons.mpr ⟨lw_p67, List.forall_mem_cons.mpr ⟨lw_p68, List.forall_mem_cons.mpr ⟨lw_p69, List.forall_mem_cons.mpr ⟨lw_p70, List.forall_mem_cons.mpr ⟨lw_p71, List.forall_mem_cons.mpr ⟨lw_p72, List.forall_mem_cons.mpr ⟨lw_p73, List.forall_mem_cons.mpr ⟨lw_p74, List.forall_mem_cons.mpr ⟨lw_p75, List.forall_mem_cons.mpr ⟨lw_p76, List.forall_mem_cons.mpr ⟨lw_p77, List.forall_mem_cons.mpr ⟨lw_p78, List.forall_mem_cons.mpr ⟨lw_p79, fun _ h => absurd h List.not_mem_nil⟩⟩⟩⟩⟩⟩⟩⟩⟩⟩⟩⟩⟩⟩⟩⟩
theorem lw_p80 : lw_okq (⟨"EggTownModel", "laysPlan", "(I)V"⟩, 48) := ⟨⟨by decide +kernel, by decide +kernel⟩, List.mem_of_getElem? (i := 1113) (by decide +kernel), List.mem_of_getElem? (i := 1567) (by decide +kernel), List.mem_of_getElem? (i := 1568) (by decide +kernel)⟩
theorem lw_p81 : lw_okq (⟨"EggTownModel", "laysSums", "(I)V"⟩, 48) := ⟨⟨by decide +kernel, by decide +kernel⟩, List.mem_of_getElem? (i := 1113) (by decide +kernel), List.mem_of_getElem? (i := 1571) (by decide +kernel), List.mem_of_getElem? (i := 1572) (by decide +kernel)⟩
theorem lw_p82 : lw_okq (⟨"EggTownModel", "planBy", "(III)I"⟩, 48) := ⟨⟨by decide +kernel, by decide +kernel⟩, List.mem_of_getElem? (i := 1113) (by decide +kernel), List.mem_of_getElem? (i := 1575) (by decide +kernel), List.mem_of_getElem? (i := 1576) (by decide +kernel)⟩
theorem lw_p83 : lw_okq (⟨"EggTownModel", "planSet", "(I)I"⟩, 48) := ⟨⟨by decide +kernel, by decide +kernel⟩, List.mem_of_getElem? (i := 1113) (by decide +kernel), List.mem_of_getElem? (i := 1582) (by decide +kernel), List.mem_of_getElem? (i := 1583) (by decide +kernel)⟩
theorem lw_p84 : lw_okq (⟨"EggTownModel", "heaviest", "(II)I"⟩, 48) := ⟨⟨by decide +kernel, by decide +kernel⟩, List.mem_of_getElem? (i := 1113) (by decide +kernel), List.mem_of_getElem? (i := 1590) (by decide +kernel), List.mem_of_getElem? (i := 1591) (by decide +kernel)⟩
theorem lw_p85 : lw_okq (⟨"EggTownModel", "hoursBy", "(III)I"⟩, 48) := ⟨⟨by decide +kernel, by decide +kernel⟩, List.mem_of_getElem? (i := 1113) (by decide +kernel), List.mem_of_getElem? (i := 1598) (by decide +kernel), List.mem_of_getElem? (i := 1599) (by decide +kernel)⟩
theorem lw_p86 : lw_okq (⟨"EggTownModel", "areEggs", "(II)Z"⟩, 48) := ⟨⟨by decide +kernel, by decide +kernel⟩, List.mem_of_getElem? (i := 1113) (by decide +kernel), List.mem_of_getElem? (i := 1606) (by decide +kernel), List.mem_of_getElem? (i := 1607) (by decide +kernel)⟩
theorem lw_p87 : lw_okq (⟨"EggTownModel", "leastOf", "(III)I"⟩, 48) := ⟨⟨by decide +kernel, by decide +kernel⟩, List.mem_of_getElem? (i := 1113) (by decide +kernel), List.mem_of_getElem? (i := 1610) (by decide +kernel), List.mem_of_getElem? (i := 1611) (by decide +kernel)⟩
theorem lw_p88 : lw_okq (⟨"EggTownModel", "rests", "(II)Z"⟩, 48) := ⟨⟨by decide +kernel, by decide +kernel⟩, List.mem_of_getElem? (i := 1113) (by decide +kernel), List.mem_of_getElem? (i := 1618) (by decide +kernel), List.mem_of_getElem? (i := 1619) (by decide +kernel)⟩
theorem lw_p89 : lw_okq (⟨"EggTownModel", "soldBy", "(I)I"⟩, 48) := ⟨⟨by decide +kernel, by decide +kernel⟩, List.mem_of_getElem? (i := 1113) (by decide +kernel), List.mem_of_getElem? (i := 1622) (by decide +kernel), List.mem_of_getElem? (i := 1623) (by decide +kernel)⟩
theorem lw_p90 : lw_okq (⟨"EggTownModel", "moreOf", "(I)I"⟩, 48) := ⟨⟨by decide +kernel, by decide +kernel⟩, List.mem_of_getElem? (i := 1113) (by decide +kernel), List.mem_of_getElem? (i := 1634) (by decide +kernel), List.mem_of_getElem? (i := 1635) (by decide +kernel)⟩
theorem lw_p91 : lw_okq (⟨"EggTownModel", "daysFor", "(II)I"⟩, 48) := ⟨⟨by decide +kernel, by decide +kernel⟩, List.mem_of_getElem? (i := 1113) (by decide +kernel), List.mem_of_getElem? (i := 1651) (by decide +kernel), List.mem_of_getElem? (i := 1652) (by decide +kernel)⟩
theorem lw_p92 : lw_okq (⟨"EggTownModel", "worksAll", "(II)V"⟩, 48) := ⟨⟨by decide +kernel, by decide +kernel⟩, List.mem_of_getElem? (i := 1113) (by decide +kernel), List.mem_of_getElem? (i := 1655) (by decide +kernel), List.mem_of_getElem? (i := 1656) (by decide +kernel)⟩
theorem lw_p93 : lw_okq (⟨"EggTownModel", "tapeNumber", "(I)I"⟩, 48) := ⟨⟨by decide +kernel, by decide +kernel⟩, List.mem_of_getElem? (i := 1113) (by decide +kernel), List.mem_of_getElem? (i := 1683) (by decide +kernel), List.mem_of_getElem? (i := 1684) (by decide +kernel)⟩
def lw_privs_6 : List (MethodName × Nat) := [(⟨"EggTownModel", "laysPlan", "(I)V"⟩, 48), (⟨"EggTownModel", "laysSums", "(I)V"⟩, 48), (⟨"EggTownModel", "planBy", "(III)I"⟩, 48), (⟨"EggTownModel", "planSet", "(I)I"⟩, 48), (⟨"EggTownModel", "heaviest", "(II)I"⟩, 48), (⟨"EggTownModel", "hoursBy", "(III)I"⟩, 48), (⟨"EggTownModel", "areEggs", "(II)Z"⟩, 48), (⟨"EggTownModel", "leastOf", "(III)I"⟩, 48), (⟨"EggTownModel", "rests", "(II)Z"⟩, 48), (⟨"EggTownModel", "soldBy", "(I)I"⟩, 48), (⟨"EggTownModel", "moreOf", "(I)I"⟩, 48), (⟨"EggTownModel", "daysFor", "(II)I"⟩, 48), (⟨"EggTownModel", "worksAll", "(II)V"⟩, 48), (⟨"EggTownModel", "tapeNumber", "(I)I"⟩, 48)]
theorem lw_r6 : ∀ q ∈ lw_privs_6, lw_okq q := List.forall_mem_cons.mpr ⟨lw_p80, List.forall_mem_cons.mpr ⟨lw_p81, List.forall_mem_cons.mpr ⟨lw_p82, List.forall_mem_cons.mpr ⟨lw_p83, List.forall_mem_cons.mpr ⟨lw_p84, List.forall_mem_cons.mpr ⟨lw_p85, List.forall_mem_cons.mpr ⟨lw_p86, List.forall_mem_cons.mpr ⟨lw_p87, List.forall_mem_cons.mpr ⟨lw_p88, List.forall_mem_cons.mpr ⟨lw_p89, List.forall_mem_cons.mpr ⟨lw_p90, List.forall_mem_cons.mpr ⟨lw_p91, List.forall_mem_cons.mpr ⟨lw_p92, List.forall_mem_cons.mpr ⟨lw_p93, fun _ h => absurd h List.not_mem_nil⟩⟩⟩⟩⟩⟩⟩⟩⟩⟩⟩⟩⟩⟩
def lw_privs : List (MethodName × Nat) := lw_privs_1 ++ (lw_privs_2 ++ (lw_privs_3 ++ (lw_privs_4 ++ (lw_privs_5 ++ (lw_privs_6)))))
def lw_tbl : List Cond := k2_sels lw_privs ++ tables_1
theorem lw_privs_ok : ∀ q ∈ lw_privs, lw_okq q := by
  show ∀ q ∈ lw_privs_1 ++ (lw_privs_2 ++ (lw_privs_3 ++ (lw_privs_4 ++ (lw_privs_5 ++ (lw_privs_6))))), lw_okq q
  exact List.forall_mem_append.mpr ⟨lw_r1, List.forall_mem_append.mpr ⟨lw_r2, List.forall_mem_append.mpr ⟨lw_r3, List.forall_mem_append.mpr ⟨lw_r4, List.forall_mem_append.mpr ⟨lw_r5, lw_r6⟩⟩⟩⟩⟩
-- ===== end of PART A; then your names; then what follows =====
end
section
def RX0 : String := "EggTown$Acts"
def TX0 : u_T := fun k => match k with
  | 0 => ("EggTown$Acts", "size", "I", false)
  | 1 => ("EggTown$Acts", "signs", "[I", true)
  | 2 => ("EggTown$Acts", "targets", "[I", true)
  | 3 => ("EggTown$Acts", "starts", "[I", true)
  | 4 => ("EggTown$Acts", "eggs", "[I", true)
  | _ => ("EggTown$Acts", "told", "I", false)
def tyX0 : Nat → FieldType := fun k => match k with
  | 0 => .int
  | 1 => .array .int
  | 2 => .array .int
  | 3 => .array .int
  | 4 => .array .int
  | _ => .int
abbrev wsX00 : List Cond := u_ws RX0 TX0 6
theorem nmX0 : ∀ a, a < 6 → ∀ b, b < 6 → a ≠ b → (TX0 a).2.1 ≠ (TX0 b).2.1 := by decide +kernel
theorem tyX0_ok : ∀ k, k < 6 → parseFieldDescriptor (TX0 k).2.2.1 = some (tyX0 k) := by decide +kernel
abbrev cX0_init : ByteArray := prog_2_method_1_code
def yX0_init : MethodName := ⟨RX0, "<init>", "()V"⟩
abbrev cX0_read : ByteArray := prog_2_method_2_code
def yX0_read : MethodName := ⟨RX0, "read", "(LEggTown$Tape;)Z"⟩
abbrev cX0_line : ByteArray := prog_2_method_3_code
def yX0_line : MethodName := ⟨RX0, "line", "(LEggTown$Tape;I)Z"⟩
abbrev cX0_someEggs : ByteArray := prog_2_method_4_code
def yX0_someEggs : MethodName := ⟨RX0, "someEggs", "(LEggTown$Tape;)Z"⟩
abbrev cX0_oneEgg : ByteArray := prog_2_method_5_code
def yX0_oneEgg : MethodName := ⟨RX0, "oneEgg", "(LEggTown$Tape;I)Z"⟩
abbrev cX0_whatIsDone : ByteArray := prog_2_method_6_code
def yX0_whatIsDone : MethodName := ⟨RX0, "whatIsDone", "(LEggTown$Tape;I)Z"⟩
abbrev cX0_canBe : ByteArray := prog_2_method_7_code
def yX0_canBe : MethodName := ⟨RX0, "canBe", "(ILEggTown$Town;)Z"⟩
abbrev cX0_carryOut : ByteArray := prog_2_method_8_code
def yX0_carryOut : MethodName := ⟨RX0, "carryOut", "(ILEggTown$Town;LEggTown$Law;)V"⟩
def RX1 : String := "EggTown$Eggs"
def TX1 : u_T := fun k => match k with
  | 0 => ("EggTown$Eggs", "size", "I", false)
  | 1 => ("EggTown$Eggs", "minutes", "[I", true)
  | 2 => ("EggTown$Eggs", "laidOn", "[I", true)
  | 3 => ("EggTown$Eggs", "layer", "[I", true)
  | 4 => ("EggTown$Eggs", "owner", "[I", true)
  | 5 => ("EggTown$Eggs", "brooded", "[I", true)
  | _ => ("EggTown$Eggs", "state", "[I", true)
def tyX1 : Nat → FieldType := fun k => match k with
  | 0 => .int
  | 1 => .array .int
  | 2 => .array .int
  | 3 => .array .int
  | 4 => .array .int
  | 5 => .array .int
  | _ => .array .int
abbrev wsX10 : List Cond := u_ws RX1 TX1 7
theorem nmX1 : ∀ a, a < 7 → ∀ b, b < 7 → a ≠ b → (TX1 a).2.1 ≠ (TX1 b).2.1 := by decide +kernel
theorem tyX1_ok : ∀ k, k < 7 → parseFieldDescriptor (TX1 k).2.2.1 = some (tyX1 k) := by decide +kernel
abbrev cX1_init : ByteArray := prog_3_method_1_code
def yX1_init : MethodName := ⟨RX1, "<init>", "()V"⟩
abbrev cX1_isLaid : ByteArray := prog_3_method_2_code
def yX1_isLaid : MethodName := ⟨RX1, "isLaid", "(I)Z"⟩
abbrev cX1_isWhole : ByteArray := prog_3_method_3_code
def yX1_isWhole : MethodName := ⟨RX1, "isWhole", "(I)Z"⟩
abbrev cX1_isWholeOf : ByteArray := prog_3_method_4_code
def yX1_isWholeOf : MethodName := ⟨RX1, "isWholeOf", "(II)Z"⟩
abbrev cX1_minutesAt : ByteArray := prog_3_method_5_code
def yX1_minutesAt : MethodName := ⟨RX1, "minutesAt", "(I)I"⟩
abbrev cX1_howMany : ByteArray := prog_3_method_6_code
def yX1_howMany : MethodName := ⟨RX1, "howMany", "(I)I"⟩
abbrev cX1_minutesOf : ByteArray := prog_3_method_7_code
def yX1_minutesOf : MethodName := ⟨RX1, "minutesOf", "(I)I"⟩
abbrev cX1_wholeOf : ByteArray := prog_3_method_8_code
def yX1_wholeOf : MethodName := ⟨RX1, "wholeOf", "(I[II)I"⟩
abbrev cX1_lay : ByteArray := prog_3_method_9_code
def yX1_lay : MethodName := ⟨RX1, "lay", "(IIII)V"⟩
abbrev cX1_sweepOut : ByteArray := prog_3_method_10_code
def yX1_sweepOut : MethodName := ⟨RX1, "sweepOut", "()I"⟩
abbrev cX1_copyFrom : ByteArray := prog_3_method_11_code
def yX1_copyFrom : MethodName := ⟨RX1, "copyFrom", "(LEggTown$Eggs;)V"⟩
def RX2 : String := "EggTown$Hens"
def TX2 : u_T := fun k => match k with
  | 0 => ("EggTown$Hens", "told", "I", false)
  | 1 => ("EggTown$Hens", "kind", "[I", true)
  | _ => ("EggTown$Hens", "owner", "[I", true)
def tyX2 : Nat → FieldType := fun k => match k with
  | 0 => .int
  | 1 => .array .int
  | _ => .array .int
abbrev wsX20 : List Cond := u_ws RX2 TX2 3
theorem nmX2 : ∀ a, a < 3 → ∀ b, b < 3 → a ≠ b → (TX2 a).2.1 ≠ (TX2 b).2.1 := by decide +kernel
theorem tyX2_ok : ∀ k, k < 3 → parseFieldDescriptor (TX2 k).2.2.1 = some (tyX2 k) := by decide +kernel
abbrev cX2_init : ByteArray := prog_4_method_1_code
def yX2_init : MethodName := ⟨RX2, "<init>", "()V"⟩
abbrev cX2_isTold : ByteArray := prog_4_method_2_code
def yX2_isTold : MethodName := ⟨RX2, "isTold", "(I)Z"⟩
abbrev cX2_tell : ByteArray := prog_4_method_3_code
def yX2_tell : MethodName := ⟨RX2, "tell", "(III)V"⟩
abbrev cX2_howManyOf : ByteArray := prog_4_method_4_code
def yX2_howManyOf : MethodName := ⟨RX2, "howManyOf", "(I)I"⟩
abbrev cX2_copyFrom : ByteArray := prog_4_method_5_code
def yX2_copyFrom : MethodName := ⟨RX2, "copyFrom", "(LEggTown$Hens;)V"⟩
def RX3 : String := "EggTown$Law"
def TX3 : u_T := fun k => match k with
  | 0 => ("EggTown$Law", "clauses", "I", false)
  | 1 => ("EggTown$Law", "letter", "[I", true)
  | 2 => ("EggTown$Law", "valueAt", "[I", true)
  | 3 => ("EggTown$Law", "conditionAt", "[I", true)
  | 4 => ("EggTown$Law", "endAt", "[I", true)
  | 5 => ("EggTown$Law", "size", "I", false)
  | 6 => ("EggTown$Law", "code", "[I", true)
  | 7 => ("EggTown$Law", "told", "[I", true)
  | 8 => ("EggTown$Law", "stack", "[I", true)
  | _ => ("EggTown$Law", "top", "I", false)
def tyX3 : Nat → FieldType := fun k => match k with
  | 0 => .int
  | 1 => .array .int
  | 2 => .array .int
  | 3 => .array .int
  | 4 => .array .int
  | 5 => .int
  | 6 => .array .int
  | 7 => .array .int
  | 8 => .array .int
  | _ => .int
abbrev wsX30 : List Cond := u_ws RX3 TX3 10
theorem nmX3 : ∀ a, a < 10 → ∀ b, b < 10 → a ≠ b → (TX3 a).2.1 ≠ (TX3 b).2.1 := by decide +kernel
theorem tyX3_ok : ∀ k, k < 10 → parseFieldDescriptor (TX3 k).2.2.1 = some (tyX3 k) := by decide +kernel
abbrev cX3_init : ByteArray := prog_5_method_1_code
def yX3_init : MethodName := ⟨RX3, "<init>", "()V"⟩
abbrev cX3_emit : ByteArray := prog_5_method_2_code
def yX3_emit : MethodName := ⟨RX3, "emit", "(II)V"⟩
abbrev cX3_aim : ByteArray := prog_5_method_3_code
def yX3_aim : MethodName := ⟨RX3, "aim", "(I)V"⟩
abbrev cX3_ofHen : ByteArray := prog_5_method_4_code
def yX3_ofHen : MethodName := ⟨RX3, "ofHen", "(ILEggTown$Town;II)I"⟩
abbrev cX3_ofEgg : ByteArray := prog_5_method_5_code
def yX3_ofEgg : MethodName := ⟨RX3, "ofEgg", "(ILEggTown$Town;II)I"⟩
abbrev cX3_ofSellers : ByteArray := prog_5_method_6_code
def yX3_ofSellers : MethodName := ⟨RX3, "ofSellers", "(LEggTown$Town;I)I"⟩
abbrev cX3_start : ByteArray := prog_5_method_7_code
def yX3_start : MethodName := ⟨RX3, "start", "(LEggTown$Town;I)V"⟩
abbrev cX3_ask : ByteArray := prog_5_method_8_code
def yX3_ask : MethodName := ⟨RX3, "ask", "(I)I"⟩
abbrev cX3_run : ByteArray := prog_5_method_9_code
def yX3_run : MethodName := ⟨RX3, "run", "(II)I"⟩
abbrev cX3_push : ByteArray := prog_5_method_10_code
def yX3_push : MethodName := ⟨RX3, "push", "(I)V"⟩
abbrev cX3_pop : ByteArray := prog_5_method_11_code
def yX3_pop : MethodName := ⟨RX3, "pop", "()I"⟩
abbrev cX3_reckon : ByteArray := prog_5_method_12_code
def yX3_reckon : MethodName := ⟨RX3, "reckon", "(III)I"⟩
def RX4 : String := "EggTown$LawReader"
def TX4 : u_T := fun k => match k with
  | _ => ("", "", "", false)
def tyX4 : Nat → FieldType := fun k => match k with
  | _ => .int
abbrev wsX40 : List Cond := u_ws RX4 TX4 0
theorem nmX4 : ∀ a, a < 0 → ∀ b, b < 0 → a ≠ b → (TX4 a).2.1 ≠ (TX4 b).2.1 := by decide +kernel
theorem tyX4_ok : ∀ k, k < 0 → parseFieldDescriptor (TX4 k).2.2.1 = some (tyX4 k) := by decide +kernel
abbrev cX4_read : ByteArray := prog_6_method_2_code
def yX4_read : MethodName := ⟨RX4, "read", "(LEggTown$Tape;LEggTown$Law;)Z"⟩
abbrev cX4_clause : ByteArray := prog_6_method_3_code
def yX4_clause : MethodName := ⟨RX4, "clause", "(LEggTown$Tape;LEggTown$Law;I)Z"⟩
abbrev cX4_condition : ByteArray := prog_6_method_4_code
def yX4_condition : MethodName := ⟨RX4, "condition", "(LEggTown$Tape;LEggTown$Law;I)Z"⟩
abbrev cX4_piece : ByteArray := prog_6_method_5_code
def yX4_piece : MethodName := ⟨RX4, "piece", "(LEggTown$Tape;LEggTown$Law;I)Z"⟩
abbrev cX4_comparison : ByteArray := prog_6_method_6_code
def yX4_comparison : MethodName := ⟨RX4, "comparison", "(LEggTown$Tape;LEggTown$Law;I)Z"⟩
abbrev cX4_sum : ByteArray := prog_6_method_7_code
def yX4_sum : MethodName := ⟨RX4, "sum", "(LEggTown$Tape;LEggTown$Law;I)Z"⟩
abbrev cX4_factor : ByteArray := prog_6_method_8_code
def yX4_factor : MethodName := ⟨RX4, "factor", "(LEggTown$Tape;LEggTown$Law;I)Z"⟩
abbrev cX4_number : ByteArray := prog_6_method_9_code
def yX4_number : MethodName := ⟨RX4, "number", "(LEggTown$Tape;LEggTown$Law;)Z"⟩
abbrev cX4_placeIn : ByteArray := prog_6_method_10_code
def yX4_placeIn : MethodName := ⟨RX4, "placeIn", "(Ljava/lang/String;I)I"⟩
def RX5 : String := "EggTown$People"
def TX5 : u_T := fun k => match k with
  | 0 => ("EggTown$People", "told", "I", false)
  | 1 => ("EggTown$People", "lived", "[I", true)
  | 2 => ("EggTown$People", "laid", "[I", true)
  | 3 => ("EggTown$People", "givenTo", "[I", true)
  | _ => ("EggTown$People", "givenBy", "[I", true)
def tyX5 : Nat → FieldType := fun k => match k with
  | 0 => .int
  | 1 => .array .int
  | 2 => .array .int
  | 3 => .array .int
  | _ => .array .int
abbrev wsX50 : List Cond := u_ws RX5 TX5 5
theorem nmX5 : ∀ a, a < 5 → ∀ b, b < 5 → a ≠ b → (TX5 a).2.1 ≠ (TX5 b).2.1 := by decide +kernel
theorem tyX5_ok : ∀ k, k < 5 → parseFieldDescriptor (TX5 k).2.2.1 = some (tyX5 k) := by decide +kernel
abbrev cX5_init : ByteArray := prog_7_method_1_code
def yX5_init : MethodName := ⟨RX5, "<init>", "()V"⟩
abbrev cX5_isTold : ByteArray := prog_7_method_2_code
def yX5_isTold : MethodName := ⟨RX5, "isTold", "(I)Z"⟩
abbrev cX5_tell : ByteArray := prog_7_method_3_code
def yX5_tell : MethodName := ⟨RX5, "tell", "(I)Z"⟩
abbrev cX5_live : ByteArray := prog_7_method_4_code
def yX5_live : MethodName := ⟨RX5, "live", "(II)V"⟩
abbrev cX5_excess : ByteArray := prog_7_method_5_code
def yX5_excess : MethodName := ⟨RX5, "excess", "(I)I"⟩
abbrev cX5_copyFrom : ByteArray := prog_7_method_6_code
def yX5_copyFrom : MethodName := ⟨RX5, "copyFrom", "(LEggTown$People;)V"⟩
def RX6 : String := "EggTown$Plan"
def TX6 : u_T := fun k => match k with
  | 0 => ("EggTown$Plan", "eggs", "[I", true)
  | 1 => ("EggTown$Plan", "towards", "[I", true)
  | 2 => ("EggTown$Plan", "size", "I", false)
  | 3 => ("EggTown$Plan", "works", "I", false)
  | 4 => ("EggTown$Plan", "numbers", "[I", true)
  | 5 => ("EggTown$Plan", "worth", "[I", true)
  | 6 => ("EggTown$Plan", "fit", "[I", true)
  | 7 => ("EggTown$Plan", "fits", "[I", true)
  | 8 => ("EggTown$Plan", "fewest", "[I", true)
  | 9 => ("EggTown$Plan", "hope", "[I", true)
  | 10 => ("EggTown$Plan", "row", "[I", true)
  | 11 => ("EggTown$Plan", "bestRow", "[I", true)
  | _ => ("EggTown$Plan", "best", "I", false)
def tyX6 : Nat → FieldType := fun k => match k with
  | 0 => .array .int
  | 1 => .array .int
  | 2 => .int
  | 3 => .int
  | 4 => .array .int
  | 5 => .array .int
  | 6 => .array .int
  | 7 => .array .int
  | 8 => .array .int
  | 9 => .array .int
  | 10 => .array .int
  | 11 => .array .int
  | _ => .int
abbrev wsX60 : List Cond := u_ws RX6 TX6 13
theorem nmX6 : ∀ a, a < 13 → ∀ b, b < 13 → a ≠ b → (TX6 a).2.1 ≠ (TX6 b).2.1 := by decide +kernel
theorem tyX6_ok : ∀ k, k < 13 → parseFieldDescriptor (TX6 k).2.2.1 = some (tyX6 k) := by decide +kernel
abbrev cX6_init : ByteArray := prog_8_method_1_code
def yX6_init : MethodName := ⟨RX6, "<init>", "()V"⟩
abbrev cX6_find : ByteArray := prog_8_method_2_code
def yX6_find : MethodName := ⟨RX6, "find", "(LEggTown$Town;LEggTown$Law;II)V"⟩
abbrev cX6_findFits : ByteArray := prog_8_method_3_code
def yX6_findFits : MethodName := ⟨RX6, "findFits", "(LEggTown$Town;LEggTown$Law;I)V"⟩
abbrev cX6_isFit : ByteArray := prog_8_method_4_code
def yX6_isFit : MethodName := ⟨RX6, "isFit", "(II)Z"⟩
abbrev cX6_findHopes : ByteArray := prog_8_method_5_code
def yX6_findHopes : MethodName := ⟨RX6, "findHopes", "()V"⟩
abbrev cX6_gain : ByteArray := prog_8_method_6_code
def yX6_gain : MethodName := ⟨RX6, "gain", "(II)I"⟩
abbrev cX6_choose : ByteArray := prog_8_method_7_code
def yX6_choose : MethodName := ⟨RX6, "choose", "(III)V"⟩
abbrev cX6_bestWorth : ByteArray := prog_8_method_8_code
def yX6_bestWorth : MethodName := ⟨RX6, "bestWorth", "()I"⟩
abbrev cX6_bestEggs : ByteArray := prog_8_method_9_code
def yX6_bestEggs : MethodName := ⟨RX6, "bestEggs", "()I"⟩
abbrev cX6_rowOf : ByteArray := prog_8_method_10_code
def yX6_rowOf : MethodName := ⟨RX6, "rowOf", "(I)I"⟩
def RX7 : String := "EggTown$Sets"
def TX7 : u_T := fun k => match k with
  | 0 => ("EggTown$Sets", "found", "I", false)
  | 1 => ("EggTown$Sets", "least", "I", false)
  | 2 => ("EggTown$Sets", "fewest", "I", false)
  | 3 => ("EggTown$Sets", "minutes", "[I", true)
  | _ => ("EggTown$Sets", "size", "I", false)
def tyX7 : Nat → FieldType := fun k => match k with
  | 0 => .int
  | 1 => .int
  | 2 => .int
  | 3 => .array .int
  | _ => .int
abbrev wsX70 : List Cond := u_ws RX7 TX7 5
theorem nmX7 : ∀ a, a < 5 → ∀ b, b < 5 → a ≠ b → (TX7 a).2.1 ≠ (TX7 b).2.1 := by decide +kernel
theorem tyX7_ok : ∀ k, k < 5 → parseFieldDescriptor (TX7 k).2.2.1 = some (tyX7 k) := by decide +kernel
abbrev cX7_init : ByteArray := prog_9_method_1_code
def yX7_init : MethodName := ⟨RX7, "<init>", "()V"⟩
abbrev cX7_fill : ByteArray := prog_9_method_2_code
def yX7_fill : MethodName := ⟨RX7, "fill", "(LEggTown$Eggs;[II)I"⟩
abbrev cX7_find : ByteArray := prog_9_method_3_code
def yX7_find : MethodName := ⟨RX7, "find", "(I)V"⟩
abbrev cX7_note : ByteArray := prog_9_method_4_code
def yX7_note : MethodName := ⟨RX7, "note", "(I)V"⟩
def RX8 : String := "EggTown$Tape"
def TX8 : u_T := fun k => match k with
  | 0 => ("EggTown$Tape", "bytes", "[I", true)
  | 1 => ("EggTown$Tape", "size", "I", false)
  | 2 => ("EggTown$Tape", "end", "I", false)
  | 3 => ("EggTown$Tape", "at", "I", false)
  | _ => ("EggTown$Tape", "fault", "I", false)
def tyX8 : Nat → FieldType := fun k => match k with
  | 0 => .array .int
  | 1 => .int
  | 2 => .int
  | 3 => .int
  | _ => .int
abbrev wsX80 : List Cond := u_ws RX8 TX8 5
theorem nmX8 : ∀ a, a < 5 → ∀ b, b < 5 → a ≠ b → (TX8 a).2.1 ≠ (TX8 b).2.1 := by decide +kernel
theorem tyX8_ok : ∀ k, k < 5 → parseFieldDescriptor (TX8 k).2.2.1 = some (tyX8 k) := by decide +kernel
abbrev cX8_init : ByteArray := prog_10_method_1_code
def yX8_init : MethodName := ⟨RX8, "<init>", "()V"⟩
abbrev cX8_addWord : ByteArray := prog_10_method_2_code
def yX8_addWord : MethodName := ⟨RX8, "addWord", "(I)V"⟩
abbrev cX8_holds : ByteArray := prog_10_method_3_code
def yX8_holds : MethodName := ⟨RX8, "holds", "(IIII)Z"⟩
abbrev cX8_byteAt : ByteArray := prog_10_method_4_code
def yX8_byteAt : MethodName := ⟨RX8, "byteAt", "(I)I"⟩
abbrev cX8_pairAt : ByteArray := prog_10_method_5_code
def yX8_pairAt : MethodName := ⟨RX8, "pairAt", "(I)I"⟩
abbrev cX8_wordAt : ByteArray := prog_10_method_6_code
def yX8_wordAt : MethodName := ⟨RX8, "wordAt", "(I)I"⟩
abbrev cX8_startText : ByteArray := prog_10_method_7_code
def yX8_startText : MethodName := ⟨RX8, "startText", "(I)V"⟩
abbrev cX8_sign : ByteArray := prog_10_method_8_code
def yX8_sign : MethodName := ⟨RX8, "sign", "()I"⟩
abbrev cX8_takes : ByteArray := prog_10_method_9_code
def yX8_takes : MethodName := ⟨RX8, "takes", "(I)Z"⟩
abbrev cX8_fails : ByteArray := prog_10_method_10_code
def yX8_fails : MethodName := ⟨RX8, "fails", "(I)Z"⟩
abbrev cX8_failsAt : ByteArray := prog_10_method_11_code
def yX8_failsAt : MethodName := ⟨RX8, "failsAt", "(II)Z"⟩
abbrev cX8_faultAnswer : ByteArray := prog_10_method_12_code
def yX8_faultAnswer : MethodName := ⟨RX8, "faultAnswer", "()I"⟩
abbrev cX8_copyFrom : ByteArray := prog_10_method_13_code
def yX8_copyFrom : MethodName := ⟨RX8, "copyFrom", "(LEggTown$Tape;)V"⟩
def RX9 : String := "EggTown$Town"
def TX9 : u_T := fun k => match k with
  | 0 => ("EggTown$Town", "day", "I", false)
  | 1 => ("EggTown$Town", "x", "I", false)
  | 2 => ("EggTown$Town", "hens", "LEggTown$Hens;", true)
  | 3 => ("EggTown$Town", "people", "LEggTown$People;", true)
  | 4 => ("EggTown$Town", "eggs", "LEggTown$Eggs;", true)
  | 5 => ("EggTown$Town", "works", "LEggTown$Works;", true)
  | 6 => ("EggTown$Town", "laidEggs", "I", false)
  | 7 => ("EggTown$Town", "laidMinutes", "I", false)
  | 8 => ("EggTown$Town", "badEggs", "I", false)
  | _ => ("EggTown$Town", "strikes", "I", false)
def tyX9 : Nat → FieldType := fun k => match k with
  | 0 => .int
  | 1 => .int
  | 2 => .object "EggTown$Hens"
  | 3 => .object "EggTown$People"
  | 4 => .object "EggTown$Eggs"
  | 5 => .object "EggTown$Works"
  | 6 => .int
  | 7 => .int
  | 8 => .int
  | _ => .int
abbrev wsX90 : List Cond := u_ws RX9 TX9 10
theorem nmX9 : ∀ a, a < 10 → ∀ b, b < 10 → a ≠ b → (TX9 a).2.1 ≠ (TX9 b).2.1 := by decide +kernel
theorem tyX9_ok : ∀ k, k < 10 → parseFieldDescriptor (TX9 k).2.2.1 = some (tyX9 k) := by decide +kernel
abbrev cX9_init : ByteArray := prog_11_method_1_code
def yX9_init : MethodName := ⟨RX9, "<init>", "()V"⟩
abbrev cX9_copyFrom : ByteArray := prog_11_method_2_code
def yX9_copyFrom : MethodName := ⟨RX9, "copyFrom", "(LEggTown$Town;)V"⟩
abbrev cX9_passDays : ByteArray := prog_11_method_3_code
def yX9_passDays : MethodName := ⟨RX9, "passDays", "(ILEggTown$Law;)V"⟩
abbrev cX9_passDay : ByteArray := prog_11_method_4_code
def yX9_passDay : MethodName := ⟨RX9, "passDay", "(LEggTown$Law;)Z"⟩
abbrev cX9_canLayFor : ByteArray := prog_11_method_5_code
def yX9_canLayFor : MethodName := ⟨RX9, "canLayFor", "(I)Z"⟩
abbrev cX9_draw : ByteArray := prog_11_method_6_code
def yX9_draw : MethodName := ⟨RX9, "draw", "()I"⟩
abbrev cX9_strikeOrLay : ByteArray := prog_11_method_7_code
def yX9_strikeOrLay : MethodName := ⟨RX9, "strikeOrLay", "(ILEggTown$Law;)V"⟩
abbrev cX9_mayGoBad : ByteArray := prog_11_method_8_code
def yX9_mayGoBad : MethodName := ⟨RX9, "mayGoBad", "(ILEggTown$Law;)V"⟩
abbrev cX9_breakEgg : ByteArray := prog_11_method_9_code
def yX9_breakEgg : MethodName := ⟨RX9, "breakEgg", "(I)V"⟩
abbrev cX9_breakFor : ByteArray := prog_11_method_10_code
def yX9_breakFor : MethodName := ⟨RX9, "breakFor", "(IILEggTown$Law;)V"⟩
abbrev cX9_breakAllFor : ByteArray := prog_11_method_11_code
def yX9_breakAllFor : MethodName := ⟨RX9, "breakAllFor", "(IILEggTown$Law;)V"⟩
abbrev cX9_give : ByteArray := prog_11_method_12_code
def yX9_give : MethodName := ⟨RX9, "give", "(II)V"⟩
abbrev cX9_brood : ByteArray := prog_11_method_13_code
def yX9_brood : MethodName := ⟨RX9, "brood", "(ILEggTown$Law;)V"⟩
def RX10 : String := "EggTown$Works"
def TX10 : u_T := fun k => match k with
  | 0 => ("EggTown$Works", "told", "I", false)
  | 1 => ("EggTown$Works", "needs", "[I", true)
  | 2 => ("EggTown$Works", "done", "[I", true)
  | 3 => ("EggTown$Works", "worth", "[I", true)
  | 4 => ("EggTown$Works", "by", "[I", true)
  | _ => ("EggTown$Works", "doneOn", "[I", true)
def tyX10 : Nat → FieldType := fun k => match k with
  | 0 => .int
  | 1 => .array .int
  | 2 => .array .int
  | 3 => .array .int
  | 4 => .array .int
  | _ => .array .int
abbrev wsX100 : List Cond := u_ws RX10 TX10 6
theorem nmX10 : ∀ a, a < 6 → ∀ b, b < 6 → a ≠ b → (TX10 a).2.1 ≠ (TX10 b).2.1 := by decide +kernel
theorem tyX10_ok : ∀ k, k < 6 → parseFieldDescriptor (TX10 k).2.2.1 = some (tyX10 k) := by decide +kernel
abbrev cX10_init : ByteArray := prog_12_method_1_code
def yX10_init : MethodName := ⟨RX10, "<init>", "()V"⟩
abbrev cX10_isTold : ByteArray := prog_12_method_2_code
def yX10_isTold : MethodName := ⟨RX10, "isTold", "(I)Z"⟩
abbrev cX10_tell : ByteArray := prog_12_method_3_code
def yX10_tell : MethodName := ⟨RX10, "tell", "(IIII)V"⟩
abbrev cX10_isDone : ByteArray := prog_12_method_4_code
def yX10_isDone : MethodName := ⟨RX10, "isDone", "(I)Z"⟩
abbrev cX10_isInTime : ByteArray := prog_12_method_5_code
def yX10_isInTime : MethodName := ⟨RX10, "isInTime", "(II)Z"⟩
abbrev cX10_add : ByteArray := prog_12_method_6_code
def yX10_add : MethodName := ⟨RX10, "add", "(III)V"⟩
abbrev cX10_copyFrom : ByteArray := prog_12_method_7_code
def yX10_copyFrom : MethodName := ⟨RX10, "copyFrom", "(LEggTown$Works;)V"⟩
def RX11 : String := "EggTown"
def TX11 : u_T := fun k => match k with
  | 0 => ("EggTown", "tape", "LEggTown$Tape;", true)
  | 1 => ("EggTown", "keptTape", "LEggTown$Tape;", true)
  | 2 => ("EggTown", "now", "LEggTown$Town;", true)
  | 3 => ("EggTown", "kept", "LEggTown$Town;", true)
  | 4 => ("EggTown", "trial", "LEggTown$Town;", true)
  | 5 => ("EggTown", "hasKept", "Z", false)
  | 6 => ("EggTown", "ruling", "LEggTown$Law;", false)
  | 7 => ("EggTown", "spare", "LEggTown$Law;", false)
  | 8 => ("EggTown", "lines", "LEggTown$Acts;", true)
  | 9 => ("EggTown", "planning", "LEggTown$Plan;", true)
  | 10 => ("EggTown", "sets", "LEggTown$Sets;", true)
  | 11 => ("EggTown", "handful", "[I", true)
  | 12 => ("EggTown", "lastDays", "[I", true)
  | 13 => ("EggTown", "room", "[I", true)
  | 14 => ("EggTown", "hours", "[I", true)
  | 15 => ("EggTown", "shares", "[I", true)
  | 16 => ("EggTown", "row", "[I", true)
  | 17 => ("EggTown", "bestRow", "[I", true)
  | _ => ("EggTown", "worths", "[I", true)
def tyX11 : Nat → FieldType := fun k => match k with
  | 0 => .object "EggTown$Tape"
  | 1 => .object "EggTown$Tape"
  | 2 => .object "EggTown$Town"
  | 3 => .object "EggTown$Town"
  | 4 => .object "EggTown$Town"
  | 5 => .boolean
  | 6 => .object "EggTown$Law"
  | 7 => .object "EggTown$Law"
  | 8 => .object "EggTown$Acts"
  | 9 => .object "EggTown$Plan"
  | 10 => .object "EggTown$Sets"
  | 11 => .array .int
  | 12 => .array .int
  | 13 => .array .int
  | 14 => .array .int
  | 15 => .array .int
  | 16 => .array .int
  | 17 => .array .int
  | _ => .array .int
abbrev wsX110 : List Cond := u_ws RX11 TX11 19
theorem nmX11 : ∀ a, a < 19 → ∀ b, b < 19 → a ≠ b → (TX11 a).2.1 ≠ (TX11 b).2.1 := by decide +kernel
theorem tyX11_ok : ∀ k, k < 19 → parseFieldDescriptor (TX11 k).2.2.1 = some (tyX11 k) := by decide +kernel
abbrev cX11_init : ByteArray := prog_1_method_1_code
def yX11_init : MethodName := ⟨RX11, "<init>", "()V"⟩
abbrev cX11_person : ByteArray := prog_1_method_2_code
def yX11_person : MethodName := ⟨RX11, "person", "(I)Z"⟩
abbrev cX11_hen : ByteArray := prog_1_method_3_code
def yX11_hen : MethodName := ⟨RX11, "hen", "(III)Z"⟩
abbrev cX11_fox : ByteArray := prog_1_method_4_code
def yX11_fox : MethodName := ⟨RX11, "fox", "(I)Z"⟩
abbrev cX11_work : ByteArray := prog_1_method_5_code
def yX11_work : MethodName := ⟨RX11, "work", "(IIII)Z"⟩
abbrev cX11_clean : ByteArray := prog_1_method_6_code
def yX11_clean : MethodName := ⟨RX11, "clean", "()I"⟩
abbrev cX11_feed : ByteArray := prog_1_method_7_code
def yX11_feed : MethodName := ⟨RX11, "feed", "(IIIII)I"⟩
abbrev cX11_law : ByteArray := prog_1_method_8_code
def yX11_law : MethodName := ⟨RX11, "law", "(I)I"⟩
abbrev cX11_acts : ByteArray := prog_1_method_9_code
def yX11_acts : MethodName := ⟨RX11, "acts", "(I)I"⟩
abbrev cX11_judged : ByteArray := prog_1_method_10_code
def yX11_judged : MethodName := ⟨RX11, "judged", "(I)I"⟩
abbrev cX11_readActs : ByteArray := prog_1_method_11_code
def yX11_readActs : MethodName := ⟨RX11, "readActs", "(I)Z"⟩
abbrev cX11_days : ByteArray := prog_1_method_12_code
def yX11_days : MethodName := ⟨RX11, "days", "(I)I"⟩
abbrev cX11_tried : ByteArray := prog_1_method_13_code
def yX11_tried : MethodName := ⟨RX11, "tried", "(II)I"⟩
abbrev cX11_egg : ByteArray := prog_1_method_14_code
def yX11_egg : MethodName := ⟨RX11, "egg", "(II)I"⟩
abbrev cX11_firstBadDay : ByteArray := prog_1_method_15_code
def yX11_firstBadDay : MethodName := ⟨RX11, "firstBadDay", "(I)I"⟩
abbrev cX11_personIs : ByteArray := prog_1_method_16_code
def yX11_personIs : MethodName := ⟨RX11, "personIs", "(II)I"⟩
abbrev cX11_workIs : ByteArray := prog_1_method_17_code
def yX11_workIs : MethodName := ⟨RX11, "workIs", "(II)I"⟩
abbrev cX11_plan : ByteArray := prog_1_method_18_code
def yX11_plan : MethodName := ⟨RX11, "plan", "(III)I"⟩
abbrev cX11_before : ByteArray := prog_1_method_19_code
def yX11_before : MethodName := ⟨RX11, "before", "(III)I"⟩
abbrev cX11_mostMinutes : ByteArray := prog_1_method_20_code
def yX11_mostMinutes : MethodName := ⟨RX11, "mostMinutes", "(I)I"⟩
abbrev cX11_takesRoom : ByteArray := prog_1_method_21_code
def yX11_takesRoom : MethodName := ⟨RX11, "takesRoom", "(I)Z"⟩
abbrev cX11_flock : ByteArray := prog_1_method_22_code
def yX11_flock : MethodName := ⟨RX11, "flock", "(III)I"⟩
abbrev cX11_bestHatch : ByteArray := prog_1_method_23_code
def yX11_bestHatch : MethodName := ⟨RX11, "bestHatch", "(I)I"⟩
abbrev cX11_rations : ByteArray := prog_1_method_24_code
def yX11_rations : MethodName := ⟨RX11, "rations", "(III)I"⟩
abbrev cX11_share : ByteArray := prog_1_method_25_code
def yX11_share : MethodName := ⟨RX11, "share", "(IIII)I"⟩
abbrev cX11_tellEggs : ByteArray := prog_1_method_26_code
def yX11_tellEggs : MethodName := ⟨RX11, "tellEggs", "(II)Z"⟩
abbrev cX11_hoards : ByteArray := prog_1_method_27_code
def yX11_hoards : MethodName := ⟨RX11, "hoards", "(II)I"⟩
abbrev cX11_isSteady : ByteArray := prog_1_method_28_code
def yX11_isSteady : MethodName := ⟨RX11, "isSteady", "(II)Z"⟩
abbrev cX11_yolks : ByteArray := prog_1_method_29_code
def yX11_yolks : MethodName := ⟨RX11, "yolks", "(III)I"⟩
abbrev cX11_thefts : ByteArray := prog_1_method_30_code
def yX11_thefts : MethodName := ⟨RX11, "thefts", "(I)I"⟩
abbrev cX11_baskets : ByteArray := prog_1_method_31_code
def yX11_baskets : MethodName := ⟨RX11, "baskets", "(III)I"⟩
abbrev cX11_latest : ByteArray := prog_1_method_32_code
def yX11_latest : MethodName := ⟨RX11, "latest", "(II)I"⟩
abbrev cX11_soonest : ByteArray := prog_1_method_33_code
def yX11_soonest : MethodName := ⟨RX11, "soonest", "(II)I"⟩
abbrev cX11_daysTillDone : ByteArray := prog_1_method_34_code
def yX11_daysTillDone : MethodName := ⟨RX11, "daysTillDone", "(III)I"⟩
abbrev cX11_barter : ByteArray := prog_1_method_35_code
def yX11_barter : MethodName := ⟨RX11, "barter", "(IIIII)I"⟩
abbrev cX11_isNearer : ByteArray := prog_1_method_36_code
def yX11_isNearer : MethodName := ⟨RX11, "isNearer", "(II)Z"⟩
abbrev cX11_seed : ByteArray := prog_1_method_37_code
def yX11_seed : MethodName := ⟨RX11, "seed", "(I)Z"⟩
abbrev cX11_keep : ByteArray := prog_1_method_38_code
def yX11_keep : MethodName := ⟨RX11, "keep", "()I"⟩
abbrev cX11_undo : ByteArray := prog_1_method_39_code
def yX11_undo : MethodName := ⟨RX11, "undo", "()Z"⟩
abbrev cX11_check : ByteArray := prog_1_method_40_code
def yX11_check : MethodName := ⟨RX11, "check", "(I)I"⟩
abbrev cX11_count : ByteArray := prog_1_method_41_code
def yX11_count : MethodName := ⟨RX11, "count", "(I)I"⟩
abbrev cX11_isWithin : ByteArray := prog_1_method_42_code
def yX11_isWithin : MethodName := ⟨RX11, "isWithin", "(III)Z"⟩
abbrev cX11_isIn : ByteArray := prog_1_method_43_code
def yX11_isIn : MethodName := ⟨RX11, "isIn", "(II)Z"⟩
abbrev cX11_isDigit : ByteArray := prog_1_method_44_code
def yX11_isDigit : MethodName := ⟨RX11, "isDigit", "(I)Z"⟩
def RX12 : String := "EggTownModel"
def TX12 : u_T := fun k => match k with
  | 0 => ("EggTownModel", "now", "[I", true)
  | 1 => ("EggTownModel", "aside", "[I", true)
  | 2 => ("EggTownModel", "kept", "[I", true)
  | 3 => ("EggTownModel", "tape", "[B", true)
  | 4 => ("EggTownModel", "taped", "I", false)
  | 5 => ("EggTownModel", "place0", "I", false)
  | 6 => ("EggTownModel", "length0", "I", false)
  | 7 => ("EggTownModel", "fault", "I", false)
  | 8 => ("EggTownModel", "number0", "I", false)
  | 9 => ("EggTownModel", "open", "I", false)
  | 10 => ("EggTownModel", "codeMany", "I", false)
  | 11 => ("EggTownModel", "waiting", "I", false)
  | 12 => ("EggTownModel", "saidMany", "I", false)
  | 13 => ("EggTownModel", "clauses", "I", false)
  | 14 => ("EggTownModel", "said", "[I", true)
  | 15 => ("EggTownModel", "waitsAt", "[I", true)
  | 16 => ("EggTownModel", "saidLetter", "[I", true)
  | 17 => ("EggTownModel", "saidFrom", "[I", true)
  | 18 => ("EggTownModel", "saidHalf", "[I", true)
  | 19 => ("EggTownModel", "saidTo", "[I", true)
  | 20 => ("EggTownModel", "codes", "[I", true)
  | 21 => ("EggTownModel", "clauseOf", "[I", true)
  | 22 => ("EggTownModel", "codeFrom", "[I", true)
  | 23 => ("EggTownModel", "codeHalf", "[I", true)
  | 24 => ("EggTownModel", "codeTo", "[I", true)
  | 25 => ("EggTownModel", "stack", "[I", true)
  | 26 => ("EggTownModel", "facts", "[I", true)
  | 27 => ("EggTownModel", "lineMany", "I", false)
  | 28 => ("EggTownModel", "lineFrom", "[I", true)
  | 29 => ("EggTownModel", "lineSign", "[I", true)
  | 30 => ("EggTownModel", "lineWhom", "[I", true)
  | 31 => ("EggTownModel", "lineEgg", "[I", true)
  | 32 => ("EggTownModel", "laidNow", "I", false)
  | 33 => ("EggTownModel", "minutesNow", "I", false)
  | 34 => ("EggTownModel", "badNow", "I", false)
  | 35 => ("EggTownModel", "strikes", "I", false)
  | 36 => ("EggTownModel", "ownMany", "I", false)
  | 37 => ("EggTownModel", "planMany", "I", false)
  | 38 => ("EggTownModel", "ownEgg", "[I", true)
  | 39 => ("EggTownModel", "planWork", "[I", true)
  | 40 => ("EggTownModel", "planBest", "[I", true)
  | 41 => ("EggTownModel", "planSum", "[I", true)
  | 42 => ("EggTownModel", "lastDay", "[I", true)
  | 43 => ("EggTownModel", "heavy", "[I", true)
  | 44 => ("EggTownModel", "onDay", "[I", true)
  | 45 => ("EggTownModel", "hoursOf", "[I", true)
  | 46 => ("EggTownModel", "keeps", "[I", true)
  | _ => ("EggTownModel", "isKept", "Z", false)
def tyX12 : Nat → FieldType := fun k => match k with
  | 0 => .array .int
  | 1 => .array .int
  | 2 => .array .int
  | 3 => .array .byte
  | 4 => .int
  | 5 => .int
  | 6 => .int
  | 7 => .int
  | 8 => .int
  | 9 => .int
  | 10 => .int
  | 11 => .int
  | 12 => .int
  | 13 => .int
  | 14 => .array .int
  | 15 => .array .int
  | 16 => .array .int
  | 17 => .array .int
  | 18 => .array .int
  | 19 => .array .int
  | 20 => .array .int
  | 21 => .array .int
  | 22 => .array .int
  | 23 => .array .int
  | 24 => .array .int
  | 25 => .array .int
  | 26 => .array .int
  | 27 => .int
  | 28 => .array .int
  | 29 => .array .int
  | 30 => .array .int
  | 31 => .array .int
  | 32 => .int
  | 33 => .int
  | 34 => .int
  | 35 => .int
  | 36 => .int
  | 37 => .int
  | 38 => .array .int
  | 39 => .array .int
  | 40 => .array .int
  | 41 => .array .int
  | 42 => .array .int
  | 43 => .array .int
  | 44 => .array .int
  | 45 => .array .int
  | 46 => .array .int
  | _ => .boolean
abbrev wsX120 : List Cond := u_ws RX12 TX12 48
theorem nmX12 : ∀ a, a < 48 → ∀ b, b < 48 → a ≠ b → (TX12 a).2.1 ≠ (TX12 b).2.1 := by decide +kernel
theorem tyX12_ok : ∀ k, k < 48 → parseFieldDescriptor (TX12 k).2.2.1 = some (tyX12 k) := by decide +kernel
abbrev cX12_init : ByteArray := prog_14_method_1_code
def yX12_init : MethodName := ⟨RX12, "<init>", "()V"⟩
abbrev cX12_in : ByteArray := prog_14_method_2_code
def yX12_in : MethodName := ⟨RX12, "in", "(III)Z"⟩
abbrev cX12_min : ByteArray := prog_14_method_3_code
def yX12_min : MethodName := ⟨RX12, "min", "(II)I"⟩
abbrev cX12_max : ByteArray := prog_14_method_4_code
def yX12_max : MethodName := ⟨RX12, "max", "(II)I"⟩
abbrev cX12_has : ByteArray := prog_14_method_5_code
def yX12_has : MethodName := ⟨RX12, "has", "(II)Z"⟩
abbrev cX12_bits : ByteArray := prog_14_method_6_code
def yX12_bits : MethodName := ⟨RX12, "bits", "(I)I"⟩
abbrev cX12_copies : ByteArray := prog_14_method_7_code
def yX12_copies : MethodName := ⟨RX12, "copies", "([I[I)V"⟩
abbrev cX12_isPerson : ByteArray := prog_14_method_8_code
def yX12_isPerson : MethodName := ⟨RX12, "isPerson", "(I)Z"⟩
abbrev cX12_isHen : ByteArray := prog_14_method_9_code
def yX12_isHen : MethodName := ⟨RX12, "isHen", "(I)Z"⟩
abbrev cX12_isWork : ByteArray := prog_14_method_10_code
def yX12_isWork : MethodName := ⟨RX12, "isWork", "(I)Z"⟩
abbrev cX12_isEgg : ByteArray := prog_14_method_11_code
def yX12_isEgg : MethodName := ⟨RX12, "isEgg", "(I)Z"⟩
abbrev cX12_isWhole : ByteArray := prog_14_method_12_code
def yX12_isWhole : MethodName := ⟨RX12, "isWhole", "(I)Z"⟩
abbrev cX12_isDone : ByteArray := prog_14_method_13_code
def yX12_isDone : MethodName := ⟨RX12, "isDone", "(I)Z"⟩
abbrev cX12_person : ByteArray := prog_14_method_14_code
def yX12_person : MethodName := ⟨RX12, "person", "(I)Z"⟩
abbrev cX12_hen : ByteArray := prog_14_method_15_code
def yX12_hen : MethodName := ⟨RX12, "hen", "(III)Z"⟩
abbrev cX12_fox : ByteArray := prog_14_method_16_code
def yX12_fox : MethodName := ⟨RX12, "fox", "(I)Z"⟩
abbrev cX12_work : ByteArray := prog_14_method_17_code
def yX12_work : MethodName := ⟨RX12, "work", "(IIII)Z"⟩
abbrev cX12_puts : ByteArray := prog_14_method_18_code
def yX12_puts : MethodName := ⟨RX12, "puts", "(II)V"⟩
abbrev cX12_clean : ByteArray := prog_14_method_19_code
def yX12_clean : MethodName := ⟨RX12, "clean", "()I"⟩
abbrev cX12_types : ByteArray := prog_14_method_20_code
def yX12_types : MethodName := ⟨RX12, "types", "(I)V"⟩
abbrev cX12_feed : ByteArray := prog_14_method_21_code
def yX12_feed : MethodName := ⟨RX12, "feed", "(IIIII)I"⟩
abbrev cX12_here : ByteArray := prog_14_method_22_code
def yX12_here : MethodName := ⟨RX12, "here", "()I"⟩
abbrev cX12_isDigit : ByteArray := prog_14_method_23_code
def yX12_isDigit : MethodName := ⟨RX12, "isDigit", "()Z"⟩
abbrev cX12_wrongAt : ByteArray := prog_14_method_24_code
def yX12_wrongAt : MethodName := ⟨RX12, "wrongAt", "(II)Z"⟩
abbrev cX12_takes : ByteArray := prog_14_method_25_code
def yX12_takes : MethodName := ⟨RX12, "takes", "(I)Z"⟩
abbrev cX12_readsNumber : ByteArray := prog_14_method_26_code
def yX12_readsNumber : MethodName := ⟨RX12, "readsNumber", "()Z"⟩
abbrev cX12_notes : ByteArray := prog_14_method_27_code
def yX12_notes : MethodName := ⟨RX12, "notes", "(II)V"⟩
abbrev cX12_opens : ByteArray := prog_14_method_28_code
def yX12_opens : MethodName := ⟨RX12, "opens", "(I)Z"⟩
abbrev cX12_waitTop : ByteArray := prog_14_method_29_code
def yX12_waitTop : MethodName := ⟨RX12, "waitTop", "()I"⟩
abbrev cX12_factOf : ByteArray := prog_14_method_30_code
def yX12_factOf : MethodName := ⟨RX12, "factOf", "(I)I"⟩
abbrev cX12_sumSign : ByteArray := prog_14_method_31_code
def yX12_sumSign : MethodName := ⟨RX12, "sumSign", "(I)I"⟩
abbrev cX12_closesSums : ByteArray := prog_14_method_32_code
def yX12_closesSums : MethodName := ⟨RX12, "closesSums", "(Z)V"⟩
abbrev cX12_readsFactor : ByteArray := prog_14_method_33_code
def yX12_readsFactor : MethodName := ⟨RX12, "readsFactor", "()Z"⟩
abbrev cX12_hasOpenSum : ByteArray := prog_14_method_34_code
def yX12_hasOpenSum : MethodName := ⟨RX12, "hasOpenSum", "(I)Z"⟩
abbrev cX12_readsSum : ByteArray := prog_14_method_35_code
def yX12_readsSum : MethodName := ⟨RX12, "readsSum", "()Z"⟩
abbrev cX12_endsPiece : ByteArray := prog_14_method_36_code
def yX12_endsPiece : MethodName := ⟨RX12, "endsPiece", "()V"⟩
abbrev cX12_lands : ByteArray := prog_14_method_37_code
def yX12_lands : MethodName := ⟨RX12, "lands", "(Z)V"⟩
abbrev cX12_jumps : ByteArray := prog_14_method_38_code
def yX12_jumps : MethodName := ⟨RX12, "jumps", "(I)V"⟩
abbrev cX12_readsCompared : ByteArray := prog_14_method_39_code
def yX12_readsCompared : MethodName := ⟨RX12, "readsCompared", "()Z"⟩
abbrev cX12_readsCondition : ByteArray := prog_14_method_40_code
def yX12_readsCondition : MethodName := ⟨RX12, "readsCondition", "()Z"⟩
abbrev cX12_isClause : ByteArray := prog_14_method_41_code
def yX12_isClause : MethodName := ⟨RX12, "isClause", "(I)Z"⟩
abbrev cX12_readsClause : ByteArray := prog_14_method_42_code
def yX12_readsClause : MethodName := ⟨RX12, "readsClause", "()Z"⟩
abbrev cX12_law : ByteArray := prog_14_method_43_code
def yX12_law : MethodName := ⟨RX12, "law", "(I)I"⟩
abbrev cX12_reckon : ByteArray := prog_14_method_44_code
def yX12_reckon : MethodName := ⟨RX12, "reckon", "(III)I"⟩
abbrev cX12_comesTo : ByteArray := prog_14_method_45_code
def yX12_comesTo : MethodName := ⟨RX12, "comesTo", "(II)I"⟩
abbrev cX12_byLaw : ByteArray := prog_14_method_46_code
def yX12_byLaw : MethodName := ⟨RX12, "byLaw", "(II)I"⟩
abbrev cX12_feels : ByteArray := prog_14_method_47_code
def yX12_feels : MethodName := ⟨RX12, "feels", "()V"⟩
abbrev cX12_feelsHen : ByteArray := prog_14_method_48_code
def yX12_feelsHen : MethodName := ⟨RX12, "feelsHen", "(II)V"⟩
abbrev cX12_feelsEgg : ByteArray := prog_14_method_49_code
def yX12_feelsEgg : MethodName := ⟨RX12, "feelsEgg", "(I)V"⟩
abbrev cX12_badBehind : ByteArray := prog_14_method_50_code
def yX12_badBehind : MethodName := ⟨RX12, "badBehind", "(I)I"⟩
abbrev cX12_badOn : ByteArray := prog_14_method_51_code
def yX12_badOn : MethodName := ⟨RX12, "badOn", "(I)I"⟩
abbrev cX12_worthFor : ByteArray := prog_14_method_52_code
def yX12_worthFor : MethodName := ⟨RX12, "worthFor", "(II)I"⟩
abbrev cX12_isInHandful : ByteArray := prog_14_method_53_code
def yX12_isInHandful : MethodName := ⟨RX12, "isInHandful", "(II)Z"⟩
abbrev cX12_readsEgg : ByteArray := prog_14_method_54_code
def yX12_readsEgg : MethodName := ⟨RX12, "readsEgg", "(I)Z"⟩
abbrev cX12_readsEggs : ByteArray := prog_14_method_55_code
def yX12_readsEggs : MethodName := ⟨RX12, "readsEggs", "()I"⟩
abbrev cX12_readsLine : ByteArray := prog_14_method_56_code
def yX12_readsLine : MethodName := ⟨RX12, "readsLine", "()Z"⟩
abbrev cX12_readsLines : ByteArray := prog_14_method_57_code
def yX12_readsLines : MethodName := ⟨RX12, "readsLines", "(I)Z"⟩
abbrev cX12_canBe : ByteArray := prog_14_method_58_code
def yX12_canBe : MethodName := ⟨RX12, "canBe", "(I)Z"⟩
abbrev cX12_gives : ByteArray := prog_14_method_59_code
def yX12_gives : MethodName := ⟨RX12, "gives", "(II)V"⟩
abbrev cX12_breaks : ByteArray := prog_14_method_60_code
def yX12_breaks : MethodName := ⟨RX12, "breaks", "(I)V"⟩
abbrev cX12_worksBy : ByteArray := prog_14_method_61_code
def yX12_worksBy : MethodName := ⟨RX12, "worksBy", "(II)V"⟩
abbrev cX12_broods : ByteArray := prog_14_method_62_code
def yX12_broods : MethodName := ⟨RX12, "broods", "(I)V"⟩
abbrev cX12_does : ByteArray := prog_14_method_63_code
def yX12_does : MethodName := ⟨RX12, "does", "(I)Z"⟩
abbrev cX12_acts : ByteArray := prog_14_method_64_code
def yX12_acts : MethodName := ⟨RX12, "acts", "(I)I"⟩
abbrev cX12_judged : ByteArray := prog_14_method_65_code
def yX12_judged : MethodName := ⟨RX12, "judged", "(I)I"⟩
abbrev cX12_draws : ByteArray := prog_14_method_66_code
def yX12_draws : MethodName := ⟨RX12, "draws", "()I"⟩
abbrev cX12_lays : ByteArray := prog_14_method_67_code
def yX12_lays : MethodName := ⟨RX12, "lays", "(I)V"⟩
abbrev cX12_dayGoes : ByteArray := prog_14_method_68_code
def yX12_dayGoes : MethodName := ⟨RX12, "dayGoes", "()V"⟩
abbrev cX12_daysGo : ByteArray := prog_14_method_69_code
def yX12_daysGo : MethodName := ⟨RX12, "daysGo", "(I)V"⟩
abbrev cX12_days : ByteArray := prog_14_method_70_code
def yX12_days : MethodName := ⟨RX12, "days", "(I)I"⟩
abbrev cX12_howMany : ByteArray := prog_14_method_71_code
def yX12_howMany : MethodName := ⟨RX12, "howMany", "(I)I"⟩
abbrev cX12_tried : ByteArray := prog_14_method_72_code
def yX12_tried : MethodName := ⟨RX12, "tried", "(II)I"⟩
abbrev cX12_egg : ByteArray := prog_14_method_73_code
def yX12_egg : MethodName := ⟨RX12, "egg", "(II)I"⟩
abbrev cX12_eggsOf : ByteArray := prog_14_method_74_code
def yX12_eggsOf : MethodName := ⟨RX12, "eggsOf", "(IZ)I"⟩
abbrev cX12_hensOf : ByteArray := prog_14_method_75_code
def yX12_hensOf : MethodName := ⟨RX12, "hensOf", "(I)I"⟩
abbrev cX12_personIs : ByteArray := prog_14_method_76_code
def yX12_personIs : MethodName := ⟨RX12, "personIs", "(II)I"⟩
abbrev cX12_workIs : ByteArray := prog_14_method_77_code
def yX12_workIs : MethodName := ⟨RX12, "workIs", "(II)I"⟩
abbrev cX12_laysOwn : ByteArray := prog_14_method_78_code
def yX12_laysOwn : MethodName := ⟨RX12, "laysOwn", "(II)V"⟩
abbrev cX12_laysSums : ByteArray := prog_14_method_79_code
def yX12_laysSums : MethodName := ⟨RX12, "laysSums", "(I)V"⟩
abbrev cX12_planBy : ByteArray := prog_14_method_80_code
def yX12_planBy : MethodName := ⟨RX12, "planBy", "(III)I"⟩
abbrev cX12_laysPlan : ByteArray := prog_14_method_81_code
def yX12_laysPlan : MethodName := ⟨RX12, "laysPlan", "(I)V"⟩
abbrev cX12_planSet : ByteArray := prog_14_method_82_code
def yX12_planSet : MethodName := ⟨RX12, "planSet", "(I)I"⟩
abbrev cX12_plan : ByteArray := prog_14_method_83_code
def yX12_plan : MethodName := ⟨RX12, "plan", "(III)I"⟩
abbrev cX12_heaviest : ByteArray := prog_14_method_84_code
def yX12_heaviest : MethodName := ⟨RX12, "heaviest", "(II)I"⟩
abbrev cX12_before : ByteArray := prog_14_method_85_code
def yX12_before : MethodName := ⟨RX12, "before", "(III)I"⟩
abbrev cX12_hoursBy : ByteArray := prog_14_method_86_code
def yX12_hoursBy : MethodName := ⟨RX12, "hoursBy", "(III)I"⟩
abbrev cX12_flock : ByteArray := prog_14_method_87_code
def yX12_flock : MethodName := ⟨RX12, "flock", "(III)I"⟩
abbrev cX12_leastOf : ByteArray := prog_14_method_88_code
def yX12_leastOf : MethodName := ⟨RX12, "leastOf", "(III)I"⟩
abbrev cX12_areEggs : ByteArray := prog_14_method_89_code
def yX12_areEggs : MethodName := ⟨RX12, "areEggs", "(II)Z"⟩
abbrev cX12_rations : ByteArray := prog_14_method_90_code
def yX12_rations : MethodName := ⟨RX12, "rations", "(III)I"⟩
abbrev cX12_soldBy : ByteArray := prog_14_method_91_code
def yX12_soldBy : MethodName := ⟨RX12, "soldBy", "(I)I"⟩
abbrev cX12_rests : ByteArray := prog_14_method_92_code
def yX12_rests : MethodName := ⟨RX12, "rests", "(II)Z"⟩
abbrev cX12_hoards : ByteArray := prog_14_method_93_code
def yX12_hoards : MethodName := ⟨RX12, "hoards", "(II)I"⟩
abbrev cX12_yolks : ByteArray := prog_14_method_94_code
def yX12_yolks : MethodName := ⟨RX12, "yolks", "(III)I"⟩
abbrev cX12_moreOf : ByteArray := prog_14_method_95_code
def yX12_moreOf : MethodName := ⟨RX12, "moreOf", "(I)I"⟩
abbrev cX12_thefts : ByteArray := prog_14_method_96_code
def yX12_thefts : MethodName := ⟨RX12, "thefts", "(I)I"⟩
abbrev cX12_baskets : ByteArray := prog_14_method_97_code
def yX12_baskets : MethodName := ⟨RX12, "baskets", "(III)I"⟩
abbrev cX12_latest : ByteArray := prog_14_method_98_code
def yX12_latest : MethodName := ⟨RX12, "latest", "(II)I"⟩
abbrev cX12_worksAll : ByteArray := prog_14_method_99_code
def yX12_worksAll : MethodName := ⟨RX12, "worksAll", "(II)V"⟩
abbrev cX12_daysFor : ByteArray := prog_14_method_100_code
def yX12_daysFor : MethodName := ⟨RX12, "daysFor", "(II)I"⟩
abbrev cX12_soonest : ByteArray := prog_14_method_101_code
def yX12_soonest : MethodName := ⟨RX12, "soonest", "(II)I"⟩
abbrev cX12_apart : ByteArray := prog_14_method_102_code
def yX12_apart : MethodName := ⟨RX12, "apart", "(II)I"⟩
abbrev cX12_barter : ByteArray := prog_14_method_103_code
def yX12_barter : MethodName := ⟨RX12, "barter", "(IIIII)I"⟩
abbrev cX12_seed : ByteArray := prog_14_method_104_code
def yX12_seed : MethodName := ⟨RX12, "seed", "(I)Z"⟩
abbrev cX12_keep : ByteArray := prog_14_method_105_code
def yX12_keep : MethodName := ⟨RX12, "keep", "()I"⟩
abbrev cX12_undo : ByteArray := prog_14_method_106_code
def yX12_undo : MethodName := ⟨RX12, "undo", "()Z"⟩
abbrev cX12_tapeNumber : ByteArray := prog_14_method_107_code
def yX12_tapeNumber : MethodName := ⟨RX12, "tapeNumber", "(I)I"⟩
abbrev cX12_check : ByteArray := prog_14_method_108_code
def yX12_check : MethodName := ⟨RX12, "check", "(I)I"⟩
abbrev cX12_count : ByteArray := prog_14_method_109_code
def yX12_count : MethodName := ⟨RX12, "count", "(I)I"⟩
def RJ11 : String := "java/lang/Character"
def TJ11 : u_T := fun k => match k with
  | _ => ("", "", "", false)
def tyJ11 : Nat → FieldType := fun k => match k with
  | _ => .int
abbrev wsJ110 : List Cond := u_ws RJ11 TJ11 0
theorem nmJ11 : ∀ a, a < 0 → ∀ b, b < 0 → a ≠ b → (TJ11 a).2.1 ≠ (TJ11 b).2.1 := by decide +kernel
theorem tyJ11_ok : ∀ k, k < 0 → parseFieldDescriptor (TJ11 k).2.2.1 = some (tyJ11 k) := by decide +kernel
abbrev cJ11_isValidCodePoint_9a6ad : ByteArray := prog_15_method_11_code
def yJ11_isValidCodePoint_9a6ad : MethodName := ⟨RJ11, "isValidCodePoint", "(I)Z"⟩
abbrev cJ11_highSurrogate_5068e : ByteArray := prog_15_method_28_code
def yJ11_highSurrogate_5068e : MethodName := ⟨RJ11, "highSurrogate", "(I)C"⟩
abbrev cJ11_lowSurrogate_5068e : ByteArray := prog_15_method_29_code
def yJ11_lowSurrogate_5068e : MethodName := ⟨RJ11, "lowSurrogate", "(I)C"⟩
def RJ6 : String := "java/lang/Integer"
def TJ6 : u_T := fun k => match k with
  | _ => ("", "", "", false)
def tyJ6 : Nat → FieldType := fun k => match k with
  | _ => .int
abbrev wsJ60 : List Cond := u_ws RJ6 TJ6 0
theorem nmJ6 : ∀ a, a < 0 → ∀ b, b < 0 → a ≠ b → (TJ6 a).2.1 ≠ (TJ6 b).2.1 := by decide +kernel
theorem tyJ6_ok : ∀ k, k < 0 → parseFieldDescriptor (TJ6 k).2.2.1 = some (tyJ6 k) := by decide +kernel
abbrev cJ6_bitCount_0f7a4 : ByteArray := prog_16_method_49_code
def yJ6_bitCount_0f7a4 : MethodName := ⟨RJ6, "bitCount", "(I)I"⟩
def RJ9 : String := "java/lang/Math"
def TJ9 : u_T := fun k => match k with
  | _ => ("", "", "", false)
def tyJ9 : Nat → FieldType := fun k => match k with
  | _ => .int
abbrev wsJ90 : List Cond := u_ws RJ9 TJ9 0
theorem nmJ9 : ∀ a, a < 0 → ∀ b, b < 0 → a ≠ b → (TJ9 a).2.1 ≠ (TJ9 b).2.1 := by decide +kernel
theorem tyJ9_ok : ∀ k, k < 0 → parseFieldDescriptor (TJ9 k).2.2.1 = some (tyJ9 k) := by decide +kernel
abbrev cJ9_abs_0f7a4 : ByteArray := prog_17_method_59_code
def yJ9_abs_0f7a4 : MethodName := ⟨RJ9, "abs", "(I)I"⟩
abbrev cJ9_max_7cf53 : ByteArray := prog_17_method_65_code
def yJ9_max_7cf53 : MethodName := ⟨RJ9, "max", "(II)I"⟩
abbrev cJ9_min_7cf53 : ByteArray := prog_17_method_69_code
def yJ9_min_7cf53 : MethodName := ⟨RJ9, "min", "(II)I"⟩
def RJ0 : String := "java/lang/String"
def TJ0 : u_T := fun k => match k with
  | _ => ("", "", "", false)
def tyJ0 : Nat → FieldType := fun k => match k with
  | _ => .int
abbrev wsJ00 : List Cond := u_ws RJ0 TJ0 0
theorem nmJ0 : ∀ a, a < 0 → ∀ b, b < 0 → a ≠ b → (TJ0 a).2.1 ≠ (TJ0 b).2.1 := by decide +kernel
theorem tyJ0_ok : ∀ k, k < 0 → parseFieldDescriptor (TJ0 k).2.2.1 = some (tyJ0 k) := by decide +kernel
abbrev cJ0_length_8abf5 : ByteArray := prog_18_method_54_code
def yJ0_length_8abf5 : MethodName := ⟨RJ0, "length", "()I"⟩
abbrev cJ0_indexOf_0f7a4 : ByteArray := prog_18_method_79_code
def yJ0_indexOf_0f7a4 : MethodName := ⟨RJ0, "indexOf", "(I)I"⟩
abbrev cJ0_indexOf_7cf53 : ByteArray := prog_18_method_80_code
def yJ0_indexOf_7cf53 : MethodName := ⟨RJ0, "indexOf", "(II)I"⟩
abbrev cJ0_coder_7d493 : ByteArray := prog_18_method_152_code
def yJ0_coder_7d493 : MethodName := ⟨RJ0, "coder", "()B"⟩
abbrev cJ0_isLatin1_aae02 : ByteArray := prog_18_method_154_code
def yJ0_isLatin1_aae02 : MethodName := ⟨RJ0, "isLatin1", "()Z"⟩
abbrev cJ0_checkBoundsBeginEnd_23922 : ByteArray := prog_18_method_158_code
def yJ0_checkBoundsBeginEnd_23922 : MethodName := ⟨RJ0, "checkBoundsBeginEnd", "(III)V"⟩
def RJ1 : String := "java/lang/StringLatin1"
def TJ1 : u_T := fun k => match k with
  | _ => ("", "", "", false)
def tyJ1 : Nat → FieldType := fun k => match k with
  | _ => .int
abbrev wsJ10 : List Cond := u_ws RJ1 TJ1 0
theorem nmJ1 : ∀ a, a < 0 → ∀ b, b < 0 → a ≠ b → (TJ1 a).2.1 ≠ (TJ1 b).2.1 := by decide +kernel
theorem tyJ1_ok : ∀ k, k < 0 → parseFieldDescriptor (TJ1 k).2.2.1 = some (tyJ1 k) := by decide +kernel
abbrev cJ1_canEncode_9a6ad : ByteArray := prog_19_method_4_code
def yJ1_canEncode_9a6ad : MethodName := ⟨RJ1, "canEncode", "(I)Z"⟩
abbrev cJ1_indexOf_4cfef : ByteArray := prog_19_method_22_code
def yJ1_indexOf_4cfef : MethodName := ⟨RJ1, "indexOf", "([BIII)I"⟩
abbrev cJ1_indexOfChar_4cfef : ByteArray := prog_19_method_23_code
def yJ1_indexOfChar_4cfef : MethodName := ⟨RJ1, "indexOfChar", "([BIII)I"⟩
def RJ2 : String := "java/lang/StringUTF16"
def TJ2 : u_T := fun k => match k with
  | _ => ("", "", "", false)
def tyJ2 : Nat → FieldType := fun k => match k with
  | _ => .int
abbrev wsJ20 : List Cond := u_ws RJ2 TJ2 0
theorem nmJ2 : ∀ a, a < 0 → ∀ b, b < 0 → a ≠ b → (TJ2 a).2.1 ≠ (TJ2 b).2.1 := by decide +kernel
theorem tyJ2_ok : ∀ k, k < 0 → parseFieldDescriptor (TJ2 k).2.2.1 = some (tyJ2 k) := by decide +kernel
abbrev cJ2_getChar_3b067 : ByteArray := prog_20_method_5_code
def yJ2_getChar_3b067 : MethodName := ⟨RJ2, "getChar", "([BI)C"⟩
abbrev cJ2_length_9d52b : ByteArray := prog_20_method_6_code
def yJ2_length_9d52b : MethodName := ⟨RJ2, "length", "([B)I"⟩
abbrev cJ2_indexOf_4cfef : ByteArray := prog_20_method_40_code
def yJ2_indexOf_4cfef : MethodName := ⟨RJ2, "indexOf", "([BIII)I"⟩
abbrev cJ2_indexOfChar_4cfef : ByteArray := prog_20_method_47_code
def yJ2_indexOfChar_4cfef : MethodName := ⟨RJ2, "indexOfChar", "([BIII)I"⟩
abbrev cJ2_indexOfCharUnsafe_4cfef : ByteArray := prog_20_method_48_code
def yJ2_indexOfCharUnsafe_4cfef : MethodName := ⟨RJ2, "indexOfCharUnsafe", "([BIII)I"⟩
abbrev cJ2_indexOfSupplementary_4cfef : ByteArray := prog_20_method_49_code
def yJ2_indexOfSupplementary_4cfef : MethodName := ⟨RJ2, "indexOfSupplementary", "([BIII)I"⟩
abbrev cJ2_checkBoundsBeginEnd_d044e : ByteArray := prog_20_method_93_code
def yJ2_checkBoundsBeginEnd_d044e : MethodName := ⟨RJ2, "checkBoundsBeginEnd", "(II[B)V"⟩
def RJ10 : String := "java/lang/System"
def TJ10 : u_T := fun k => match k with
  | _ => ("", "", "", false)
def tyJ10 : Nat → FieldType := fun k => match k with
  | _ => .int
abbrev wsJ100 : List Cond := u_ws RJ10 TJ10 0
theorem nmJ10 : ∀ a, a < 0 → ∀ b, b < 0 → a ≠ b → (TJ10 a).2.1 ≠ (TJ10 b).2.1 := by decide +kernel
theorem tyJ10_ok : ∀ k, k < 0 → parseFieldDescriptor (TJ10 k).2.2.1 = some (tyJ10 k) := by decide +kernel
def RJ3 : String := "jdk/internal/util/Preconditions"
def TJ3 : u_T := fun k => match k with
  | _ => ("", "", "", false)
def tyJ3 : Nat → FieldType := fun k => match k with
  | _ => .int
abbrev wsJ30 : List Cond := u_ws RJ3 TJ3 0
theorem nmJ3 : ∀ a, a < 0 → ∀ b, b < 0 → a ≠ b → (TJ3 a).2.1 ≠ (TJ3 b).2.1 := by decide +kernel
theorem tyJ3_ok : ∀ k, k < 0 → parseFieldDescriptor (TJ3 k).2.2.1 = some (tyJ3 k) := by decide +kernel
abbrev cJ3_checkFromToIndex_8c36e : ByteArray := prog_22_method_12_code
def yJ3_checkFromToIndex_8c36e : MethodName := ⟨RJ3, "checkFromToIndex", "(IIILjava/util/function/BiFunction;)I"⟩
def RL : String := "EggTownLaw"
abbrev cL_law : ByteArray := code
def yL_law : MethodName := ⟨RL, "law", "([I)Z"⟩
abbrev vwCl : List vw_C := [(RX0, TX0, 6), (RX1, TX1, 7), (RX2, TX2, 3), (RX3, TX3, 10), (RX5, TX5, 5), (RX6, TX6, 13), (RX7, TX7, 5), (RX8, TX8, 5), (RX9, TX9, 10), (RX10, TX10, 6), (RX11, TX11, 19), (RX12, TX12, 48)]
end
section
/-! my own small kit: one list of words for all methods, one judgement 'X' (a frame with explicit locals and stack, over any heap that holds a world), contracts 'xI', 'xV' over worlds, and a row an instruction -/
def gT : List Cond := lw_tbl.filter goodWord
theorem gT_in {w : Cond} (i : Nat) (h : tables_1[i]? = some w) (hg : goodWord w = true) : w ∈ gT := List.mem_filter.mpr ⟨List.mem_append_right _ (List.mem_of_getElem? h), hg⟩
theorem gT_sel {q : MethodName × Nat} (i : Nat) (h : lw_privs[i]? = some q) : Cond.selects q.1.cls q.1 q.1 ∈ gT := List.mem_filter.mpr ⟨List.mem_append_left _ (List.mem_map.mpr ⟨q, List.mem_of_getElem? h, rfl⟩), rfl⟩
theorem gT_cons {w : Cond} (h : w ∈ gT) : GoodIn gT (w :: gT) := by
  intro v hv
  have h1 : v ∈ gT := by
    rcases List.mem_cons.mp hv with e | e
    · rw [e]; exact h
    · exact e
  exact ⟨h1, good_of_word (List.mem_filter.mp h1).2⟩
theorem gT_app {ws : List Cond} (pre : List Cond) (hp : ∀ w ∈ pre, w ∈ gT) (h : GoodIn gT ws) : GoodIn gT (pre ++ ws) := by
  intro v hv
  rcases List.mem_append.mp hv with e | e
  · exact ⟨hp v e, good_of_word (List.mem_filter.mp (hp v e)).2⟩
  · exact h v e
def bI (P : Prop) [Decidable P] : Int32 := if P then 1 else 0
theorem bI_t {P : Prop} [Decidable P] (h : P) : bI P = 1 := if_pos h
theorem bI_f {P : Prop} [Decidable P] (h : ¬ P) : bI P = 0 := if_neg h
theorem bI_e0 {P : Prop} [Decidable P] (h : bI P = 0) : ¬ P := fun q => absurd (h.symm.trans (bI_t q)) (by decide)
theorem bI_n0 {P : Prop} [Decidable P] (h : ¬ bI P = 0) : P := Decidable.byContradiction (fun q => h (bI_f q))
theorem bI_nar {P : Prop} [Decidable P] : narrow .boolean (.int (bI P)) = .int (bI P) := by
  by_cases h : P
  · rw [bI_t h]; rfl
  · rw [bI_f h]; rfl
theorem set_ne {α : Type} {ws : List α} {q r : Nat} {v c : α} (h : ws[r]? = some v) (hn : q ≠ r) : (ws.set q c)[r]? = some v := by rw [List.getElem?_set_ne hn]; exact h
theorem set_eq {α : Type} {ws : List α} {q : Nat} {v c : α} (h : ws[q]? = some v) : (ws.set q c)[q]? = some c := by
  have hl : q < ws.length := (List.getElem?_eq_some_iff.mp h).1
  rw [List.getElem?_set_self hl]
theorem set_set {α : Type} {ws : List α} {q : Nat} {c d : α} : (ws.set q c).set q d = ws.set q d := List.set_set _
abbrev xE : Type := va_G × ClassId × ClassId
abbrev xty (E : xE) : List (ClassId × FieldType) := [(E.2.1, .int), (E.2.2, .byte)]
/-- an int array, a byte array, an object -/
abbrev iA (E : xE) (a n : Nat) (f : Nat → Int32) : Nat × va_E := (a, .inl (E.2.1, n, .inl f))
abbrev bA (E : xE) (a n : Nat) (f : Nat → Int32) : Nat × va_E := (a, .inl (E.2.2, n, .inl f))
abbrev ob (a ci : Nat) (fs : List Value) : Nat × va_E := (a, .inr (ci, fs))
def xNst (U : State) : Prop := ∀ (a : String) (i : Nat) (y : MethodName) (h : String), Cond.methodLinkNest a i y h ∈ tables_1 → va_Nw (.methodLinkNest a i y h) U
def xK (E : xE) (U : State) : Prop := va_K E.1 vwCl (xty E) U ∧ xNst U
theorem xK.warm {E : xE} {s U : State} (hW : s.WarmedH U.vm) (h : xK E s) : xK E U := ⟨va_K.moved hW.alike h.1, fun a i y g hm => va_Nw.warmM hW (h.2 a i y g hm)⟩
theorem xK.calling {E : xE} {U : State} {g : JFrame} {mk : MethodId} {a : Array Value} (h : xK E U) : xK E (U.calling g mk a) := ⟨va_K.moved (u := U) (U := U.calling g mk a) (Vm.Alike.refl U.vm) h.1, fun x i y z hm => va_Nw.same rfl rfl (h.2 x i y z hm)⟩
def xPre (E : xE) (sz : Nat) (ws : va_W) (U : State) : Prop := U.heap.size = sz ∧ va_P E.1 vwCl ws U.heap ∧ xK E U ∧ va_D (fun _ => True) ws
def xB (E : xE) (A : Nat → Prop) (w : va_W) (t : State) : Prop := va_P E.1 vwCl w t.heap ∧ va_D A w
abbrev xRm (d mc ms : Nat) : Room := { frames := d, cells := mc, slots := ms, locals := 40 * d }
/-- a method that answers an int (or a boolean): from the world ws, 'post answer world' -/
def xI (E : xE) (l : Launch) (y : MethodName) (b : ByteArray) (n : Nat) (ret : Option FieldType) (d : Nat) (av : List Value) (ws : va_W) (post : Int32 → va_W → Prop) : Prop :=
  ∀ sz : Nat, Met l y (Cond.code y b n ret :: gT) (xRm d 0 0) (va_Pc av (xPre E sz ws)) (va_Qi post (xB E (va_A ws sz)) (va_A ws sz)) 0 0 (va_A ws sz)
/-- a method that answers nothing; it may make mc cells of ms slots -/
def xV (E : xE) (l : Launch) (y : MethodName) (b : ByteArray) (n d mc ms : Nat) (av : List Value) (ws : va_W) (post : va_W → Prop) : Prop :=
  ∀ sz : Nat, Met l y (Cond.code y b n none :: gT) (xRm d mc ms) (va_Pc av (xPre E sz ws)) (va_Qv post (xB E (va_A ws sz)) (va_A ws sz)) mc ms (va_A ws sz)
def xC (E : xE) (p : Program) (s : State) (m : MethodId) (args : Array Value) (c : Code) (A : Nat → Prop) (cc : ByteArray) (nL : Nat) (own : String) : Prop :=
  p.tables.exec = Jvm.exec ∧ c.code = cc ∧ c.maxLocals = nL ∧ s.vm.findClass own = some m.cls ∧ (∀ w ∈ gT, w.before args s = true) ∧ xK E s ∧ ∀ q, s.heap.size ≤ q → A q
def X (E : xE) (p : Program) (l : Launch) (e : Env) (R : Room) (s : State) (m : MethodId) (args : Array Value) (below : List Frame) (meth : Method) (c : Code) (A : Nat → Prop) (nL cells slots : Nat) (Q : State → Prop) (ws : va_W) (pc : Nat) (lv : List (Nat × Value)) (st : List Value) : Prop :=
  ∀ (H : Heap) (locs : List Loc) (ls : Array Slot), va_P E.1 vwCl ws H → va_D A ws → va_S A s.heap H locs → lv_has ls nL lv → W p l e R s m args below meth c H locs cells slots Q (F0 m pc ls st)
section XR
variable {E : xE} {p : Program} {l : Launch} {e : Env} {R : Room} {s : State} {m : MethodId} {args : Array Value} {below : List Frame} {meth : Method} {c : Code} {A : Nat → Prop} {cc : ByteArray} {nL : Nat} {own : String} {cells slots : Nat} {Q : State → Prop} {ws : va_W} {pc pc' : Nat} {lv lv' : List (Nat × Value)} {st : List Value}
theorem x_iconst (C : xC E p s m args c A cc nL own) {n : Int} {v : Int32} (hd : decode cc pc = .ok (.iconst n, 1)) (hv : Int32.ofInt n = v) (hp : pc + 1 = pc') (k : X E p l e R s m args below meth c A nL cells slots Q ws pc' lv (.int v :: st)) : X E p l e R s m args below meth c A nL cells slots Q ws pc lv st := by
  subst hp; exact fun H locs ls hP hD hS hl => lv_iconst C.1 C.2.1 hd hv (k H locs ls hP hD hS hl)
theorem x_bipush (C : xC E p s m args c A cc nL own) {n : Int} {v : Int32} (hd : decode cc pc = .ok (.bipush n, 2)) (hv : (Int8.ofInt n).toInt32 = v) (hp : pc + 2 = pc') (k : X E p l e R s m args below meth c A nL cells slots Q ws pc' lv (.int v :: st)) : X E p l e R s m args below meth c A nL cells slots Q ws pc lv st := by
  subst hp; exact fun H locs ls hP hD hS hl => lv_bipush C.1 C.2.1 hd hv (k H locs ls hP hD hS hl)
theorem x_sipush (C : xC E p s m args c A cc nL own) {n : Int} {v : Int32} (hd : decode cc pc = .ok (.sipush n, 3)) (hv : (Int16.ofInt n).toInt32 = v) (hp : pc + 3 = pc') (k : X E p l e R s m args below meth c A nL cells slots Q ws pc' lv (.int v :: st)) : X E p l e R s m args below meth c A nL cells slots Q ws pc lv st := by
  subst hp; exact fun H locs ls hP hD hS hl => lv_sipush C.1 C.2.1 hd hv (k H locs ls hP hD hS hl)
theorem x_ldc (C : xC E p s m args c A cc nL own) {i : Nat} {v : Int32} (hm : Cond.constant own i v ∈ gT) (hd : decode cc pc = .ok (.ldc i, 2)) (hp : pc + 2 = pc') (k : X E p l e R s m args below meth c A nL cells slots Q ws pc' lv (.int v :: st)) : X E p l e R s m args below meth c A nL cells slots Q ws pc lv st := by
  subst hp; exact fun H locs ls hP hD hS hl => lv_ldc C.1 C.2.1 C.2.2.2.1 (C.2.2.2.2.1 _ hm) hd (k H locs ls hP hD hS hl)
theorem x_ldcw (C : xC E p s m args c A cc nL own) {i : Nat} {v : Int32} (hm : Cond.constant own i v ∈ gT) (hd : decode cc pc = .ok (.ldc_w i, 3)) (hp : pc + 3 = pc') (k : X E p l e R s m args below meth c A nL cells slots Q ws pc' lv (.int v :: st)) : X E p l e R s m args below meth c A nL cells slots Q ws pc lv st := by
  subst hp; exact fun H locs ls hP hD hS hl => lv_ldcw C.1 C.2.1 C.2.2.2.1 (C.2.2.2.2.1 _ hm) hd (k H locs ls hP hD hS hl)
theorem x_iload_n (C : xC E p s m args c A cc nL own) {k : Fin 4} {i : Nat} {x : Int32} (hd : decode cc pc = .ok (.iload_n k, 1)) (hi : (k : Nat) = i) (j : Nat) (hj : lv[j]? = some (i, .int x)) (hp : pc + 1 = pc') (kk : X E p l e R s m args below meth c A nL cells slots Q ws pc' lv (.int x :: st)) : X E p l e R s m args below meth c A nL cells slots Q ws pc lv st := by
  subst hp; exact fun H locs ls hP hD hS hl => lv_iload_n C.1 C.2.1 hd hi (lv_at hl j hj) (kk H locs ls hP hD hS hl)
theorem x_iload (C : xC E p s m args c A cc nL own) {i : Nat} {x : Int32} (hd : decode cc pc = .ok (.iload i, 2)) (j : Nat) (hj : lv[j]? = some (i, .int x)) (hp : pc + 2 = pc') (kk : X E p l e R s m args below meth c A nL cells slots Q ws pc' lv (.int x :: st)) : X E p l e R s m args below meth c A nL cells slots Q ws pc lv st := by
  subst hp; exact fun H locs ls hP hD hS hl => lv_iload C.1 C.2.1 hd (lv_at hl j hj) (kk H locs ls hP hD hS hl)
theorem x_aload_n (C : xC E p s m args c A cc nL own) {k : Fin 4} {i : Nat} {x : Nat} (hd : decode cc pc = .ok (.aload_n k, 1)) (hi : (k : Nat) = i) (j : Nat) (hj : lv[j]? = some (i, .ref x)) (hp : pc + 1 = pc') (kk : X E p l e R s m args below meth c A nL cells slots Q ws pc' lv (.ref x :: st)) : X E p l e R s m args below meth c A nL cells slots Q ws pc lv st := by
  subst hp; exact fun H locs ls hP hD hS hl => lv_aload_n C.1 C.2.1 hd hi (lv_at hl j hj) (kk H locs ls hP hD hS hl)
theorem x_istore_n (C : xC E p s m args c A cc nL own) {k : Fin 4} {i : Nat} {x : Int32} (hd : decode cc pc = .ok (.istore_n k, 1)) (hi : (k : Nat) = i) (hn : i < nL) (hl' : (i, Value.int x) :: lv.filter (fun q => !(q.1 == i) && !(q.1 + 1 == i && q.2.category == 2)) = lv') (hp : pc + 1 = pc') (kk : X E p l e R s m args below meth c A nL cells slots Q ws pc' lv' st) : X E p l e R s m args below meth c A nL cells slots Q ws pc lv (.int x :: st) := by
  subst hp; exact fun H locs ls hP hD hS hl => lv_istore_n C.1 C.2.1 hd hi hl hn hl' (fun ls hl => kk H locs ls hP hD hS hl)
theorem x_istore (C : xC E p s m args c A cc nL own) {i : Nat} {x : Int32} (hd : decode cc pc = .ok (.istore i, 2)) (hn : i < nL) (hl' : (i, Value.int x) :: lv.filter (fun q => !(q.1 == i) && !(q.1 + 1 == i && q.2.category == 2)) = lv') (hp : pc + 2 = pc') (kk : X E p l e R s m args below meth c A nL cells slots Q ws pc' lv' st) : X E p l e R s m args below meth c A nL cells slots Q ws pc lv (.int x :: st) := by
  subst hp; exact fun H locs ls hP hD hS hl => lv_istore C.1 C.2.1 hd hl hn hl' (fun ls hl => kk H locs ls hP hD hS hl)
theorem x_astore_n (C : xC E p s m args c A cc nL own) {k : Fin 4} {i : Nat} {x : Nat} (hd : decode cc pc = .ok (.astore_n k, 1)) (hi : (k : Nat) = i) (hn : i < nL) (hl' : (i, Value.ref x) :: lv.filter (fun q => !(q.1 == i) && !(q.1 + 1 == i && q.2.category == 2)) = lv') (hp : pc + 1 = pc') (kk : X E p l e R s m args below meth c A nL cells slots Q ws pc' lv' st) : X E p l e R s m args below meth c A nL cells slots Q ws pc lv (.ref x :: st) := by
  subst hp; exact fun H locs ls hP hD hS hl => lv_astore_n C.1 C.2.1 hd hi hl hn hl' (fun ls hl => kk H locs ls hP hD hS hl)
theorem x_iinc (C : xC E p s m args c A cc nL own) {i : Nat} {n : Int} {x v : Int32} (hd : decode cc pc = .ok (.iinc i n, 3)) (j : Nat) (hj : lv[j]? = some (i, .int x)) (hv : x + Int32.ofInt n = v) (hn : i < nL) (hl' : (i, Value.int v) :: lv.filter (fun q => !(q.1 == i) && !(q.1 + 1 == i && q.2.category == 2)) = lv') (hp : pc + 3 = pc') (kk : X E p l e R s m args below meth c A nL cells slots Q ws pc' lv' st) : X E p l e R s m args below meth c A nL cells slots Q ws pc lv st := by
  subst hp; exact fun H locs ls hP hD hS hl => lv_iinc C.1 C.2.1 hd hl hj hv hn hl' (fun ls hl => kk H locs ls hP hD hS hl)
theorem x_iadd (C : xC E p s m args c A cc nL own) {x y v : Int32} (hd : decode cc pc = .ok (.iadd, 1)) (hv : x + y = v) (hp : pc + 1 = pc') (k : X E p l e R s m args below meth c A nL cells slots Q ws pc' lv (.int v :: st)) : X E p l e R s m args below meth c A nL cells slots Q ws pc lv (.int y :: .int x :: st) := by
  subst hp; subst hv; exact fun H locs ls hP hD hS hl => lv_iadd C.1 C.2.1 hd (k H locs ls hP hD hS hl)
theorem x_isub (C : xC E p s m args c A cc nL own) {x y v : Int32} (hd : decode cc pc = .ok (.isub, 1)) (hv : x - y = v) (hp : pc + 1 = pc') (k : X E p l e R s m args below meth c A nL cells slots Q ws pc' lv (.int v :: st)) : X E p l e R s m args below meth c A nL cells slots Q ws pc lv (.int y :: .int x :: st) := by
  subst hp; subst hv; exact fun H locs ls hP hD hS hl => lv_isub C.1 C.2.1 hd (k H locs ls hP hD hS hl)
theorem x_imul (C : xC E p s m args c A cc nL own) {x y v : Int32} (hd : decode cc pc = .ok (.imul, 1)) (hv : x * y = v) (hp : pc + 1 = pc') (k : X E p l e R s m args below meth c A nL cells slots Q ws pc' lv (.int v :: st)) : X E p l e R s m args below meth c A nL cells slots Q ws pc lv (.int y :: .int x :: st) := by
  subst hp; subst hv; exact fun H locs ls hP hD hS hl => lv_imul C.1 C.2.1 hd (k H locs ls hP hD hS hl)
theorem x_iand (C : xC E p s m args c A cc nL own) {x y v : Int32} (hd : decode cc pc = .ok (.iand, 1)) (hv : x &&& y = v) (hp : pc + 1 = pc') (k : X E p l e R s m args below meth c A nL cells slots Q ws pc' lv (.int v :: st)) : X E p l e R s m args below meth c A nL cells slots Q ws pc lv (.int y :: .int x :: st) := by
  subst hp; subst hv; exact fun H locs ls hP hD hS hl => lv_iand C.1 C.2.1 hd (k H locs ls hP hD hS hl)
theorem x_ior (C : xC E p s m args c A cc nL own) {x y v : Int32} (hd : decode cc pc = .ok (.ior, 1)) (hv : x ||| y = v) (hp : pc + 1 = pc') (k : X E p l e R s m args below meth c A nL cells slots Q ws pc' lv (.int v :: st)) : X E p l e R s m args below meth c A nL cells slots Q ws pc lv (.int y :: .int x :: st) := by
  subst hp; subst hv; exact fun H locs ls hP hD hS hl => lv_ior C.1 C.2.1 hd (k H locs ls hP hD hS hl)
theorem x_ixor (C : xC E p s m args c A cc nL own) {x y v : Int32} (hd : decode cc pc = .ok (.ixor, 1)) (hv : x ^^^ y = v) (hp : pc + 1 = pc') (k : X E p l e R s m args below meth c A nL cells slots Q ws pc' lv (.int v :: st)) : X E p l e R s m args below meth c A nL cells slots Q ws pc lv (.int y :: .int x :: st) := by
  subst hp; subst hv; exact fun H locs ls hP hD hS hl => lv_ixor C.1 C.2.1 hd (k H locs ls hP hD hS hl)
theorem x_idiv (C : xC E p s m args c A cc nL own) {x y v : Int32} (hd : decode cc pc = .ok (.idiv, 1)) (hne : ¬ y = 0) (hv : x / y = v) (hp : pc + 1 = pc') (k : X E p l e R s m args below meth c A nL cells slots Q ws pc' lv (.int v :: st)) : X E p l e R s m args below meth c A nL cells slots Q ws pc lv (.int y :: .int x :: st) := by
  subst hp; subst hv; exact fun H locs ls hP hD hS hl => lv_idiv C.1 C.2.1 hd hne (k H locs ls hP hD hS hl)
theorem x_irem (C : xC E p s m args c A cc nL own) {x y v : Int32} (hd : decode cc pc = .ok (.irem, 1)) (hne : ¬ y = 0) (hv : x - x / y * y = v) (hp : pc + 1 = pc') (k : X E p l e R s m args below meth c A nL cells slots Q ws pc' lv (.int v :: st)) : X E p l e R s m args below meth c A nL cells slots Q ws pc lv (.int y :: .int x :: st) := by
  subst hp; subst hv; exact fun H locs ls hP hD hS hl => lv_irem C.1 C.2.1 hd hne (k H locs ls hP hD hS hl)
theorem x_ishl (C : xC E p s m args c A cc nL own) {x y v : Int32} (hd : decode cc pc = .ok (.ishl, 1)) (hv : x <<< (y &&& 31) = v) (hp : pc + 1 = pc') (k : X E p l e R s m args below meth c A nL cells slots Q ws pc' lv (.int v :: st)) : X E p l e R s m args below meth c A nL cells slots Q ws pc lv (.int y :: .int x :: st) := by
  subst hp; subst hv; exact fun H locs ls hP hD hS hl => lv_ishl C.1 C.2.1 hd (k H locs ls hP hD hS hl)
theorem x_ishr (C : xC E p s m args c A cc nL own) {x y v : Int32} (hd : decode cc pc = .ok (.ishr, 1)) (hv : x >>> (y &&& 31) = v) (hp : pc + 1 = pc') (k : X E p l e R s m args below meth c A nL cells slots Q ws pc' lv (.int v :: st)) : X E p l e R s m args below meth c A nL cells slots Q ws pc lv (.int y :: .int x :: st) := by
  subst hp; subst hv; exact fun H locs ls hP hD hS hl => lv_ishr C.1 C.2.1 hd (k H locs ls hP hD hS hl)
theorem x_iushr (C : xC E p s m args c A cc nL own) {x y v : Int32} (hd : decode cc pc = .ok (.iushr, 1)) (hv : (x.toUInt32 >>> (y.toUInt32 &&& Int32.toUInt32 31)).toInt32 = v) (hp : pc + 1 = pc') (k : X E p l e R s m args below meth c A nL cells slots Q ws pc' lv (.int v :: st)) : X E p l e R s m args below meth c A nL cells slots Q ws pc lv (.int y :: .int x :: st) := by
  subst hp; exact fun H locs ls hP hD hS hl => lv_iushr C.1 C.2.1 hd hv (k H locs ls hP hD hS hl)
theorem x_i2b (C : xC E p s m args c A cc nL own) {x v : Int32} (hd : decode cc pc = .ok (.i2b, 1)) (hv : x.toInt8.toInt32 = v) (hp : pc + 1 = pc') (k : X E p l e R s m args below meth c A nL cells slots Q ws pc' lv (.int v :: st)) : X E p l e R s m args below meth c A nL cells slots Q ws pc lv (.int x :: st) := by
  subst hp; exact fun H locs ls hP hD hS hl => lv_i2b C.1 C.2.1 hd hv (k H locs ls hP hD hS hl)
theorem x_dup (C : xC E p s m args c A cc nL own) {va : Value} (hd : decode cc pc = .ok (.dup, 1)) (hva : va.category = 1) (hp : pc + 1 = pc') (k : X E p l e R s m args below meth c A nL cells slots Q ws pc' lv (va :: va :: st)) : X E p l e R s m args below meth c A nL cells slots Q ws pc lv (va :: st) := by
  subst hp; exact fun H locs ls hP hD hS hl => lv_dup C.1 C.2.1 hd hva (k H locs ls hP hD hS hl)
theorem x_pop (C : xC E p s m args c A cc nL own) {va : Value} (hd : decode cc pc = .ok (.pop, 1)) (hva : va.category = 1) (hp : pc + 1 = pc') (k : X E p l e R s m args below meth c A nL cells slots Q ws pc' lv st) : X E p l e R s m args below meth c A nL cells slots Q ws pc lv (va :: st) := by
  subst hp; exact fun H locs ls hP hD hS hl => lv_pop C.1 C.2.1 hd hva (k H locs ls hP hD hS hl)
theorem x_goto (C : xC E p s m args c A cc nL own) {off : Int} {tgt : Nat} (hd : decode cc pc = .ok (.goto off, 3)) (ht : (pc : Int) + off = (tgt : Int)) (k : X E p l e R s m args below meth c A nL cells slots Q ws tgt lv st) : X E p l e R s m args below meth c A nL cells slots Q ws pc lv st := fun H locs ls hP hD hS hl => lv_goto C.1 C.2.1 hd ht (k H locs ls hP hD hS hl)
theorem x_if_eq (C : xC E p s m args c A cc nL own) {x : Int32} {off : Int} {tgt : Nat} (hd : decode cc pc = .ok (.ifCond .eq off, 3)) (ht : (pc : Int) + off = (tgt : Int)) (hp : pc + 3 = pc') (kt : x = 0 → X E p l e R s m args below meth c A nL cells slots Q ws tgt lv st) (kf : ¬ x = 0 → X E p l e R s m args below meth c A nL cells slots Q ws pc' lv st) : X E p l e R s m args below meth c A nL cells slots Q ws pc lv (.int x :: st) := by
  subst hp; exact fun H locs ls hP hD hS hl => lv_if_eq C.1 C.2.1 hd ht (fun h => kt h H locs ls hP hD hS hl) (fun h => kf h H locs ls hP hD hS hl)
theorem x_if_ne (C : xC E p s m args c A cc nL own) {x : Int32} {off : Int} {tgt : Nat} (hd : decode cc pc = .ok (.ifCond .ne off, 3)) (ht : (pc : Int) + off = (tgt : Int)) (hp : pc + 3 = pc') (kt : ¬ x = 0 → X E p l e R s m args below meth c A nL cells slots Q ws tgt lv st) (kf : x = 0 → X E p l e R s m args below meth c A nL cells slots Q ws pc' lv st) : X E p l e R s m args below meth c A nL cells slots Q ws pc lv (.int x :: st) := by
  subst hp; exact fun H locs ls hP hD hS hl => lv_if_ne C.1 C.2.1 hd ht (fun h => kt h H locs ls hP hD hS hl) (fun h => kf h H locs ls hP hD hS hl)
theorem x_if_lt (C : xC E p s m args c A cc nL own) {x : Int32} {off : Int} {tgt : Nat} (hd : decode cc pc = .ok (.ifCond .lt off, 3)) (ht : (pc : Int) + off = (tgt : Int)) (hp : pc + 3 = pc') (kt : x < 0 → X E p l e R s m args below meth c A nL cells slots Q ws tgt lv st) (kf : ¬ x < 0 → X E p l e R s m args below meth c A nL cells slots Q ws pc' lv st) : X E p l e R s m args below meth c A nL cells slots Q ws pc lv (.int x :: st) := by
  subst hp; exact fun H locs ls hP hD hS hl => lv_if_lt C.1 C.2.1 hd ht (fun h => kt h H locs ls hP hD hS hl) (fun h => kf h H locs ls hP hD hS hl)
theorem x_if_ge (C : xC E p s m args c A cc nL own) {x : Int32} {off : Int} {tgt : Nat} (hd : decode cc pc = .ok (.ifCond .ge off, 3)) (ht : (pc : Int) + off = (tgt : Int)) (hp : pc + 3 = pc') (kt : 0 ≤ x → X E p l e R s m args below meth c A nL cells slots Q ws tgt lv st) (kf : ¬ 0 ≤ x → X E p l e R s m args below meth c A nL cells slots Q ws pc' lv st) : X E p l e R s m args below meth c A nL cells slots Q ws pc lv (.int x :: st) := by
  subst hp; exact fun H locs ls hP hD hS hl => lv_if_ge C.1 C.2.1 hd ht (fun h => kt h H locs ls hP hD hS hl) (fun h => kf h H locs ls hP hD hS hl)
theorem x_if_gt (C : xC E p s m args c A cc nL own) {x : Int32} {off : Int} {tgt : Nat} (hd : decode cc pc = .ok (.ifCond .gt off, 3)) (ht : (pc : Int) + off = (tgt : Int)) (hp : pc + 3 = pc') (kt : 0 < x → X E p l e R s m args below meth c A nL cells slots Q ws tgt lv st) (kf : ¬ 0 < x → X E p l e R s m args below meth c A nL cells slots Q ws pc' lv st) : X E p l e R s m args below meth c A nL cells slots Q ws pc lv (.int x :: st) := by
  subst hp; exact fun H locs ls hP hD hS hl => lv_if_gt C.1 C.2.1 hd ht (fun h => kt h H locs ls hP hD hS hl) (fun h => kf h H locs ls hP hD hS hl)
theorem x_if_le (C : xC E p s m args c A cc nL own) {x : Int32} {off : Int} {tgt : Nat} (hd : decode cc pc = .ok (.ifCond .le off, 3)) (ht : (pc : Int) + off = (tgt : Int)) (hp : pc + 3 = pc') (kt : x ≤ 0 → X E p l e R s m args below meth c A nL cells slots Q ws tgt lv st) (kf : ¬ x ≤ 0 → X E p l e R s m args below meth c A nL cells slots Q ws pc' lv st) : X E p l e R s m args below meth c A nL cells slots Q ws pc lv (.int x :: st) := by
  subst hp; exact fun H locs ls hP hD hS hl => lv_if_le C.1 C.2.1 hd ht (fun h => kt h H locs ls hP hD hS hl) (fun h => kf h H locs ls hP hD hS hl)
theorem x_icmp_eq (C : xC E p s m args c A cc nL own) {x y : Int32} {off : Int} {tgt : Nat} (hd : decode cc pc = .ok (.if_icmp .eq off, 3)) (ht : (pc : Int) + off = (tgt : Int)) (hp : pc + 3 = pc') (kt : x = y → X E p l e R s m args below meth c A nL cells slots Q ws tgt lv st) (kf : ¬ x = y → X E p l e R s m args below meth c A nL cells slots Q ws pc' lv st) : X E p l e R s m args below meth c A nL cells slots Q ws pc lv (.int y :: .int x :: st) := by
  subst hp; exact fun H locs ls hP hD hS hl => lv_icmp_eq C.1 C.2.1 hd ht (fun h => kt h H locs ls hP hD hS hl) (fun h => kf h H locs ls hP hD hS hl)
theorem x_icmp_ne (C : xC E p s m args c A cc nL own) {x y : Int32} {off : Int} {tgt : Nat} (hd : decode cc pc = .ok (.if_icmp .ne off, 3)) (ht : (pc : Int) + off = (tgt : Int)) (hp : pc + 3 = pc') (kt : ¬ x = y → X E p l e R s m args below meth c A nL cells slots Q ws tgt lv st) (kf : x = y → X E p l e R s m args below meth c A nL cells slots Q ws pc' lv st) : X E p l e R s m args below meth c A nL cells slots Q ws pc lv (.int y :: .int x :: st) := by
  subst hp; exact fun H locs ls hP hD hS hl => lv_icmp_ne C.1 C.2.1 hd ht (fun h => kt h H locs ls hP hD hS hl) (fun h => kf h H locs ls hP hD hS hl)
theorem x_icmp_lt (C : xC E p s m args c A cc nL own) {x y : Int32} {off : Int} {tgt : Nat} (hd : decode cc pc = .ok (.if_icmp .lt off, 3)) (ht : (pc : Int) + off = (tgt : Int)) (hp : pc + 3 = pc') (kt : x < y → X E p l e R s m args below meth c A nL cells slots Q ws tgt lv st) (kf : ¬ x < y → X E p l e R s m args below meth c A nL cells slots Q ws pc' lv st) : X E p l e R s m args below meth c A nL cells slots Q ws pc lv (.int y :: .int x :: st) := by
  subst hp; exact fun H locs ls hP hD hS hl => lv_icmp_lt C.1 C.2.1 hd ht (fun h => kt h H locs ls hP hD hS hl) (fun h => kf h H locs ls hP hD hS hl)
theorem x_icmp_ge (C : xC E p s m args c A cc nL own) {x y : Int32} {off : Int} {tgt : Nat} (hd : decode cc pc = .ok (.if_icmp .ge off, 3)) (ht : (pc : Int) + off = (tgt : Int)) (hp : pc + 3 = pc') (kt : y ≤ x → X E p l e R s m args below meth c A nL cells slots Q ws tgt lv st) (kf : ¬ y ≤ x → X E p l e R s m args below meth c A nL cells slots Q ws pc' lv st) : X E p l e R s m args below meth c A nL cells slots Q ws pc lv (.int y :: .int x :: st) := by
  subst hp; exact fun H locs ls hP hD hS hl => lv_icmp_ge C.1 C.2.1 hd ht (fun h => kt h H locs ls hP hD hS hl) (fun h => kf h H locs ls hP hD hS hl)
theorem x_icmp_gt (C : xC E p s m args c A cc nL own) {x y : Int32} {off : Int} {tgt : Nat} (hd : decode cc pc = .ok (.if_icmp .gt off, 3)) (ht : (pc : Int) + off = (tgt : Int)) (hp : pc + 3 = pc') (kt : y < x → X E p l e R s m args below meth c A nL cells slots Q ws tgt lv st) (kf : ¬ y < x → X E p l e R s m args below meth c A nL cells slots Q ws pc' lv st) : X E p l e R s m args below meth c A nL cells slots Q ws pc lv (.int y :: .int x :: st) := by
  subst hp; exact fun H locs ls hP hD hS hl => lv_icmp_gt C.1 C.2.1 hd ht (fun h => kt h H locs ls hP hD hS hl) (fun h => kf h H locs ls hP hD hS hl)
theorem x_icmp_le (C : xC E p s m args c A cc nL own) {x y : Int32} {off : Int} {tgt : Nat} (hd : decode cc pc = .ok (.if_icmp .le off, 3)) (ht : (pc : Int) + off = (tgt : Int)) (hp : pc + 3 = pc') (kt : x ≤ y → X E p l e R s m args below meth c A nL cells slots Q ws tgt lv st) (kf : ¬ x ≤ y → X E p l e R s m args below meth c A nL cells slots Q ws pc' lv st) : X E p l e R s m args below meth c A nL cells slots Q ws pc lv (.int y :: .int x :: st) := by
  subst hp; exact fun H locs ls hP hD hS hl => lv_icmp_le C.1 C.2.1 hd ht (fun h => kt h H locs ls hP hD hS hl) (fun h => kf h H locs ls hP hD hS hl)
theorem x_tabIn (C : xC E p s m args c A cc nL own) {dflt lo hi : Int} {offs : Array Int} {len : Nat} {x : Int32} {off : Int} {tgt : Nat} (hd : decode cc pc = .ok (.tableswitch dflt lo hi offs, len)) (h1 : ¬ x.toInt < lo) (h2 : ¬ hi < x.toInt) (ho : offs[(x.toInt - lo).toNat]? = some off) (ht : (pc : Int) + off = (tgt : Int)) (k : X E p l e R s m args below meth c A nL cells slots Q ws tgt lv st) : X E p l e R s m args below meth c A nL cells slots Q ws pc lv (.int x :: st) := fun H locs ls hP hD hS hl => lv_tableIn C.1 C.2.1 hd h1 h2 ho ht (k H locs ls hP hD hS hl)
theorem x_tabOut (C : xC E p s m args c A cc nL own) {dflt lo hi : Int} {offs : Array Int} {len : Nat} {x : Int32} {tgt : Nat} (hd : decode cc pc = .ok (.tableswitch dflt lo hi offs, len)) (h : x.toInt < lo ∨ hi < x.toInt) (ht : (pc : Int) + dflt = (tgt : Int)) (k : X E p l e R s m args below meth c A nL cells slots Q ws tgt lv st) : X E p l e R s m args below meth c A nL cells slots Q ws pc lv (.int x :: st) := fun H locs ls hP hD hS hl => lv_tableOut C.1 C.2.1 hd h ht (k H locs ls hP hD hS hl)
/-- fewer locals are known -/
theorem x_lv {lv1 : List (Nat × Value)} (ks : List Nat) (hl1 : lv_pick lv ks = lv1) (k : X E p l e R s m args below meth c A nL cells slots Q ws pc lv1 st) : X E p l e R s m args below meth c A nL cells slots Q ws pc lv st := fun H locs ls hP hD hS hl => k H locs ls hP hD hS (lv_sub hl ks hl1)
/-- the same world by another name -/
theorem x_ws {ws1 : va_W} (h : ws = ws1) (k : X E p l e R s m args below meth c A nL cells slots Q ws1 pc lv st) : X E p l e R s m args below meth c A nL cells slots Q ws pc lv st := by rw [h]; exact k
theorem x_top {x v : Int32} (h : x = v) (k : X E p l e R s m args below meth c A nL cells slots Q ws pc lv (.int v :: st)) : X E p l e R s m args below meth c A nL cells slots Q ws pc lv (.int x :: st) := by rw [h]; exact k
/-- only some of the cells are looked at from here on -/
theorem x_sub {ws1 : va_W} (is : List Nat) (hn : va_nd is = true) (h1 : is.filterMap (fun i => ws[i]?) = ws1) (h2 : is.map (fun i => ws[i]?) = ws1.map some) (k : X E p l e R s m args below meth c A nL cells slots Q ws1 pc lv st) : X E p l e R s m args below meth c A nL cells slots Q ws pc lv st := fun H locs ls hP hD hS hl => k H locs ls (hP.sub is h1) (hD.sub is hn h2) hS hl
theorem x_wide {k n : Nat} (h1 : cells ≤ k) (h2 : slots ≤ n) (kk : X E p l e R s m args below meth c A nL k n Q ws pc lv st) : X E p l e R s m args below meth c A nL cells slots Q ws pc lv st := fun H locs ls hP hD hS hl => W.widen h1 h2 (kk H locs ls hP hD hS hl)
theorem x_get (C : xC E p s m args c A cc nL own) {a ci idx N k : Nat} {Cn : String} {T : u_T} {fs : List Value} {v : Value} (q0 : Nat) (he : ws[q0]? = some (a, .inr (ci, fs))) (hc : vwCl[ci]? = some (Cn, T, N)) (hin : ∀ w ∈ u_ws Cn T N, w ∈ gT) (hk : k < N) (hlink : Cond.fieldLink own idx (T k).1 (T k).2.1 (T k).2.2.1 ∈ gT) (hv : fs[k]? = some v) (hd : decode cc pc = .ok (.getfield idx, 3)) (hp : pc + 3 = pc') (kk : X E p l e R s m args below meth c A nL cells slots Q ws pc' lv (v :: st)) : X E p l e R s m args below meth c A nL cells slots Q ws pc lv (.ref a :: st) := by
  subst hp; exact fun H locs ls hP hD hS hl => va_get C.1 C.2.1 C.2.2.2.2.1 hin C.2.2.2.1 C.2.2.2.2.2.1.1 hP q0 he hc k hk (C.2.2.2.2.1 _ hlink) (fun _ h9 => h9) hv hd (kk H locs ls hP hD hS hl)
theorem x_put (C : xC E p s m args c A cc nL own) {a ci idx N k : Nat} {Cn : String} {T : u_T} {fs : List Value} {v : Value} {ty : FieldType} {ws1 : va_W} (q0 : Nat) (he : ws[q0]? = some (a, .inr (ci, fs))) (hc : vwCl[ci]? = some (Cn, T, N)) (hin : ∀ w ∈ u_ws Cn T N, w ∈ gT) (ty0 : Nat → FieldType) (hty : ∀ k, k < N → parseFieldDescriptor (T k).2.2.1 = some (ty0 k)) (hnm : ∀ a, a < N → ∀ b, b < N → a ≠ b → (T a).2.1 ≠ (T b).2.1) (hk : k < N) (hlink : Cond.fieldLink own idx (T k).1 (T k).2.1 (T k).2.2.1 ∈ gT) (hfin : (T k).2.2.2 = false) (htk : ty0 k = ty) (hn : narrow ty v = v) (hfit : fits ty v = true) (hl : k < fs.length) (hw : ws.set q0 (a, .inr (ci, fs.set k v)) = ws1) (hd : decode cc pc = .ok (.putfield idx, 3)) (hp : pc + 3 = pc') (kk : X E p l e R s m args below meth c A nL cells slots Q ws1 pc' lv st) : X E p l e R s m args below meth c A nL cells slots Q ws pc lv (v :: .ref a :: st) := by
  subst hp; subst hw; exact fun H locs ls hP hD hS hl' => va_put C.1 C.2.1 C.2.2.2.2.1 hin ty0 hty hnm C.2.2.2.1 C.2.2.2.2.2.1.1 hP hD hS q0 he hc k hk (C.2.2.2.2.1 _ hlink) (fun _ h9 => h9) hfin (by rw [hty k hk, htk]) hn hfit hl hd (fun H1 locs1 hP hD hS => kk H1 locs1 ls hP hD hS hl')
theorem x_putF (C : xC E p s m args c A cc nL own) {a ci idx N k : Nat} {Cn : String} {T : u_T} {fs : List Value} {v : Value} {ty : FieldType} {ws1 : va_W} (hin2 : meth.name = "<init>") (q0 : Nat) (he : ws[q0]? = some (a, .inr (ci, fs))) (hc : vwCl[ci]? = some (Cn, T, N)) (hin : ∀ w ∈ u_ws Cn T N, w ∈ gT) (ty0 : Nat → FieldType) (hty : ∀ k, k < N → parseFieldDescriptor (T k).2.2.1 = some (ty0 k)) (hnm : ∀ a, a < N → ∀ b, b < N → a ≠ b → (T a).2.1 ≠ (T b).2.1) (hk : k < N) (hlink : Cond.fieldLink own idx (T k).1 (T k).2.1 (T k).2.2.1 ∈ gT) (hfin : (T k).2.2.2 = true) (hdecl : (T k).1 = own) (htk : ty0 k = ty) (hn : narrow ty v = v) (hfit : fits ty v = true) (hl : k < fs.length) (hw : ws.set q0 (a, .inr (ci, fs.set k v)) = ws1) (hd : decode cc pc = .ok (.putfield idx, 3)) (hp : pc + 3 = pc') (kk : X E p l e R s m args below meth c A nL cells slots Q ws1 pc' lv st) : X E p l e R s m args below meth c A nL cells slots Q ws pc lv (v :: .ref a :: st) := by
  subst hp; subst hw; exact fun H locs ls hP hD hS hl' => va_putF C.1 C.2.1 C.2.2.2.2.1 hin ty0 hty hnm C.2.2.2.1 C.2.2.2.2.2.1.1 hP hD hS q0 he hc k hk (C.2.2.2.2.1 _ hlink) (fun _ h9 => h9) hfin hin2 hdecl (by rw [hty k hk, htk]) hn hfit hl hd (fun H1 locs1 hP hD hS => kk H1 locs1 ls hP hD hS hl')
theorem x_iald (C : xC E p s m args c A cc nL own) {a n : Nat} {f : Nat → Int32} {i v : Int32} (q0 : Nat) (he : ws[q0]? = some (iA E a n f)) (hi : vp_in i n) (hv : f i.toNatClampNeg = v) (hd : decode cc pc = .ok (.iaload, 1)) (hp : pc + 1 = pc') (kk : X E p l e R s m args below meth c A nL cells slots Q ws pc' lv (.int v :: st)) : X E p l e R s m args below meth c A nL cells slots Q ws pc lv (.int i :: .ref a :: st) := by
  subst hp; subst hv; exact fun H locs ls hP hD hS hl => va_iald C.1 C.2.1 C.2.2.2.2.2.1.1 hP q0 0 he rfl hi hd (kk H locs ls hP hD hS hl)
theorem x_bald (C : xC E p s m args c A cc nL own) {a n : Nat} {f : Nat → Int32} {i v : Int32} (q0 : Nat) (he : ws[q0]? = some (bA E a n f)) (hi : vp_in i n) (hv : f i.toNatClampNeg = v) (hd : decode cc pc = .ok (.baload, 1)) (hp : pc + 1 = pc') (kk : X E p l e R s m args below meth c A nL cells slots Q ws pc' lv (.int v :: st)) : X E p l e R s m args below meth c A nL cells slots Q ws pc lv (.int i :: .ref a :: st) := by
  subst hp; subst hv; exact fun H locs ls hP hD hS hl => va_bald C.1 C.2.1 C.2.2.2.2.2.1.1 hP q0 1 he rfl hi hd (kk H locs ls hP hD hS hl)
theorem x_iast (C : xC E p s m args c A cc nL own) {a n : Nat} {f : Nat → Int32} {i x : Int32} {ws1 : va_W} (q0 : Nat) (he : ws[q0]? = some (iA E a n f)) (hi : vp_in i n) (hw : ws.set q0 (iA E a n (upd f i.toNatClampNeg x)) = ws1) (hd : decode cc pc = .ok (.iastore, 1)) (hp : pc + 1 = pc') (kk : X E p l e R s m args below meth c A nL cells slots Q ws1 pc' lv st) : X E p l e R s m args below meth c A nL cells slots Q ws pc lv (.int x :: .int i :: .ref a :: st) := by
  subst hp; subst hw; exact fun H locs ls hP hD hS hl => va_iast C.1 C.2.1 C.2.2.2.2.2.1.1 hP hD hS q0 0 he rfl hi hd (fun H1 locs1 hP hD hS => kk H1 locs1 ls hP hD hS hl)
theorem x_bast (C : xC E p s m args c A cc nL own) {a n : Nat} {f : Nat → Int32} {i x : Int32} {ws1 : va_W} (q0 : Nat) (he : ws[q0]? = some (bA E a n f)) (hi : vp_in i n) (hw : ws.set q0 (bA E a n (upd f i.toNatClampNeg (vp_nar .byte x))) = ws1) (hd : decode cc pc = .ok (.bastore, 1)) (hp : pc + 1 = pc') (kk : X E p l e R s m args below meth c A nL cells slots Q ws1 pc' lv st) : X E p l e R s m args below meth c A nL cells slots Q ws pc lv (.int x :: .int i :: .ref a :: st) := by
  subst hp; subst hw; exact fun H locs ls hP hD hS hl => va_bast C.1 C.2.1 C.2.2.2.2.2.1.1 hP hD hS q0 1 he rfl hi hd (fun H1 locs1 hP hD hS => kk H1 locs1 ls hP hD hS hl)
/-- an int array comes: its class is the one of all int arrays -/
theorem x_newi (C : xC E p s m args c A cc nL own) {n : Int32} (N : Nat) (hm : Cond.arrayClass .int ∈ gT) (hn : ¬ n < 0) (hN : n.toNatClampNeg = N) (hb : N * componentBytes .int ≤ 536870912) (hc : cells + 1 ≤ R.cells) (hs : slots + N ≤ R.slots) (hd : decode cc pc = .ok (.newarray .int, 2)) (hp : pc + 2 = pc') (kk : ∀ q : Nat, X E p l e R s m args below meth c A nL (cells + 1) (slots + N) Q (ws ++ [iA E q N (fun _ => 0)]) pc' lv (.ref q :: st)) : X E p l e R s m args below meth c A nL cells slots Q ws pc lv (.int n :: st) := by
  subst hp
  intro H locs ls hP hD hS hl
  refine va_newa (a0 := (N, .inl (fun _ => 0))) C.1 C.2.1 (atype := .int) (ty := .int) (C.2.2.2.2.1 _ hm) rfl C.2.2.2.2.2.1.1 hP hD hS C.2.2.2.2.2.2 (fun _ => rfl) hn hN hb hc hs hd (fun q cA H1 hK hP hD hS => ?_)
  have h1 : s.vm.findClass ("[" ++ FieldType.int.toString) = some cA := (hK.2 2 (cA, .int) rfl).2
  have h2 : s.vm.findClass ("[" ++ FieldType.int.toString) = some E.2.1 := (C.2.2.2.2.2.1.1.2 0 (E.2.1, .int) rfl).2
  have h3 : cA = E.2.1 := Option.some.inj (h1.symm.trans h2)
  subst h3
  exact kk q H1 locs ls hP hD hS hl
theorem x_newb (C : xC E p s m args c A cc nL own) {n : Int32} (N : Nat) (hm : Cond.arrayClass .byte ∈ gT) (hn : ¬ n < 0) (hN : n.toNatClampNeg = N) (hb : N * componentBytes .byte ≤ 536870912) (hc : cells + 1 ≤ R.cells) (hs : slots + N ≤ R.slots) (hd : decode cc pc = .ok (.newarray .byte, 2)) (hp : pc + 2 = pc') (kk : ∀ q : Nat, X E p l e R s m args below meth c A nL (cells + 1) (slots + N) Q (ws ++ [bA E q N (fun _ => 0)]) pc' lv (.ref q :: st)) : X E p l e R s m args below meth c A nL cells slots Q ws pc lv (.int n :: st) := by
  subst hp
  intro H locs ls hP hD hS hl
  refine va_newa (a0 := (N, .inl (fun _ => 0))) C.1 C.2.1 (atype := .byte) (ty := .byte) (C.2.2.2.2.1 _ hm) rfl C.2.2.2.2.2.1.1 hP hD hS C.2.2.2.2.2.2 (fun _ => rfl) hn hN hb hc hs hd (fun q cA H1 hK hP hD hS => ?_)
  have h1 : s.vm.findClass ("[" ++ FieldType.byte.toString) = some cA := (hK.2 2 (cA, .byte) rfl).2
  have h2 : s.vm.findClass ("[" ++ FieldType.byte.toString) = some E.2.2 := (C.2.2.2.2.2.1.1.2 1 (E.2.2, .byte) rfl).2
  have h3 : cA = E.2.2 := Option.some.inj (h1.symm.trans h2)
  subst h3
  exact kk q H1 locs ls hP hD hS hl
theorem x_new (C : xC E p s m args c A cc nL own) {ci idx N : Nat} {Cn : String} {T : u_T} {fs : List Value} (hc : vwCl[ci]? = some (Cn, T, N)) (hin : ∀ w ∈ u_ws Cn T N, w ∈ gT) (ty0 : Nat → FieldType) (hty : ∀ k, k < N → parseFieldDescriptor (T k).2.2.1 = some (ty0 k)) (hcl : Cond.classLink own idx Cn ∈ gT) (hinst : Cond.instantiable Cn N ∈ gT) (hini : Cond.initialized Cn ∈ gT) (hfs : ∀ j, j < N → defaultValue (ty0 j) = vp_V fs j) (hcs : cells + 1 ≤ R.cells) (hss : slots + N ≤ R.slots) (hd : decode cc pc = .ok (.new idx, 3)) (hp : pc + 3 = pc') (kk : ∀ q : Nat, X E p l e R s m args below meth c A nL (cells + 1) (slots + N) Q (ws ++ [ob q ci fs]) pc' lv (.ref q :: st)) : X E p l e R s m args below meth c A nL cells slots Q ws pc lv st := by
  subst hp
  intro H locs ls hP hD hS hl
  exact va_new C.1 C.2.1 C.2.2.2.2.1 hin ty0 hty C.2.2.2.1 (C.2.2.2.2.1 _ hcl) (C.2.2.2.2.1 _ hinst) (C.2.2.2.2.1 _ hini) C.2.2.2.2.2.1.1 hP hD hS C.2.2.2.2.2.2 hc hfs hcs hss hd (fun q H1 hP hD hS => kk q H1 locs ls hP hD hS hl)
theorem x_copy (C : xC E p s m args c A cc nL own) {idx a0 a n0 n1 : Nat} {f g : Nat → Int32} {sp dp n : Int32} {ws1 : va_W} (q0 q1 : Nat) (he0 : ws[q0]? = some (iA E a0 n0 f)) (he1 : ws[q1]? = some (iA E a n1 g)) (hlink : Cond.methodLink own idx arraycopyName ∈ gT) (hnat : Cond.native arraycopyName ∈ gT) (hstat : Cond.static arraycopyName ∈ gT) (hini : Cond.initialized "java/lang/System" ∈ gT) (h1 : ¬ sp < 0) (h2 : ¬ dp < 0) (h3 : ¬ n < 0) (h4 : sp.toNatClampNeg + n.toNatClampNeg ≤ n0) (h5 : dp.toNatClampNeg + n.toNatClampNeg ≤ n1) (hfr : 1 ≤ R.frames) (hlo : (st.map fun v => v.category).sum + (nativeFrameWords "java/lang/System" "arraycopy" 5 + 11) ≤ R.locals) (hw : ws.set q1 (iA E a n1 (va_cpy f g sp.toNatClampNeg dp.toNatClampNeg n.toNatClampNeg)) = ws1) (hd : decode cc pc = .ok (.invokestatic idx, 3)) (hp : pc + 3 = pc') (kk : X E p l e R s m args below meth c A nL cells slots Q ws1 pc' lv st) : X E p l e R s m args below meth c A nL cells slots Q ws pc lv (.int n :: .int dp :: .ref a :: .int sp :: .ref a0 :: st) := by
  subst hp; subst hw
  intro H locs ls hP hD hS hl
  exact va_copyi C.1 C.2.1 (by rw [C.2.2.1]; exact hl.1.symm) C.2.2.2.1 (C.2.2.2.2.1 _ hlink) (C.2.2.2.2.1 _ hnat) (C.2.2.2.2.1 _ hstat) (C.2.2.2.2.1 _ hini) C.2.2.2.2.2.1.1 hP hD hS q0 q1 0 0 he0 he1 rfl rfl rfl h1 h2 h3 h4 h5 (fun _ _ => rfl) hfr hlo hd (fun H1 locs1 hP hD hS => kk H1 locs1 ls hP hD hS hl)
theorem x_oinit (C : xC E p s m args c A cc nL own) {idx a : Nat} (hl : Cond.methodLink own idx Lib.objectInit ∈ gT) (hi : Cond.instanceMethod Lib.objectInit ∈ gT) (hco : Cond.code Lib.objectInit ⟨#[0xb1]⟩ 1 none ∈ gT) (hd : decode cc pc = .ok (.invokespecial idx, 3)) (hfr : 1 ≤ R.frames) (hlo : (st.map fun v => v.category).sum + 12 ≤ R.locals) (hp : pc + 3 = pc') (kk : X E p l e R s m args below meth c A nL cells slots Q ws pc' lv st) : X E p l e R s m args below meth c A nL cells slots Q ws pc lv (.ref a :: st) := by
  subst hp
  intro H locs ls hP hD hS hl'
  exact W.objInit C.1 C.2.1 C.2.2.2.1 (C.2.2.2.2.1 _ hl) (C.2.2.2.2.1 _ hi) (C.2.2.2.2.1 _ hco) rfl (by rw [C.2.2.1]; exact hl'.1) rfl hd hfr (by simpa [F0, JFrame.monitorRoom] using hlo) (W.eq (g2 := F0 m (pc + 3) ls st) rfl (kk H locs ls hP hD hS hl'))
end XR
end
section
/-! my own small kit, second part: start and end of a method, calls -/
theorem fr_app {A0 : Nat → Prop} {D : va_G} {cl : List vw_C} {W0 wc w1 : va_W} {H H1 : Heap} (hP : va_P D cl (W0 ++ wc) H) (hD : va_D A0 (W0 ++ wc)) (hk : ∀ q : Nat, q < H.size → ¬ va_A wc H.size q → H1[q]? = H[q]?) (hF : ∀ q, va_A wc H.size q → A0 q) (hP1 : va_P D cl w1 H1) (hD1 : va_D (va_A wc H.size) w1) : va_P D cl (W0 ++ w1) H1 ∧ va_D A0 (W0 ++ w1) := by
  have lf : ∀ (k : Nat) (q : Nat × va_E), W0[k]? = some q → (W0 ++ wc)[k]? = some q := fun k q h => by
    rw [List.getElem?_append_left (List.getElem?_eq_some_iff.mp h).1]; exact h
  have apart : ∀ (k : Nat) (q : Nat × va_E), W0[k]? = some q → q.1 < H.size ∧ ¬ va_A wc H.size q.1 := by
    intro k q hq
    have h2 := lf k q hq
    have hl := (hP k q h2).lt
    refine ⟨hl, fun h => ?_⟩
    rcases h with ⟨k2, e, h⟩ | h
    · have h4 : (W0 ++ wc)[W0.length + k2]? = some (q.1, e) := by
        rw [List.getElem?_append_right (Nat.le_add_right _ _), Nat.add_sub_cancel_left]; exact h
      have hij := hD.1 k (W0.length + k2) q (q.1, e) h2 h4 rfl
      have hkl := (List.getElem?_eq_some_iff.mp hq).1
      omega
    · omega
  refine ⟨va_P.app (fun k q hq => ?_) hP1, va_D.app ⟨fun i j x y hx hy e => hD.1 i j x y (lf i x hx) (lf j y hy) e, fun k q h => hD.2 k q (lf k q h)⟩ (hD1.weaken (fun k q _ h => hF q.1 h)) (fun i j x y hx hy hxy => ?_)⟩
  · obtain ⟨g1, g2⟩ := apart k q hq
    exact (hP k q (lf k q hq)).kept (hk q.1 g1 g2)
  · exact (apart i x hx).2 (by rw [hxy]; exact hD1.2 j y hy)
theorem xP_blind {E : xE} {av : List Value} {sz : Nat} {ws : va_W} : FrameBlind (va_Pc av (xPre E sz ws)) := fun _ _ _ _ q => by
  obtain ⟨q0, q1, qP, qK, qD⟩ := q
  exact ⟨q0, q1, qP, qK.calling, qD⟩
theorem xP_at {E : xE} {av : List Value} {ws : va_W} {s U : State} {H : Heap} (hU : U.heap = H) (hW : s.WarmedH U.vm) (hP : va_P E.1 vwCl ws H) (hK : xK E s) {A : Nat → Prop} (hD : va_D A ws) : va_Pc av (xPre E H.size ws) av.toArray U :=
  ⟨rfl, by rw [hU], by rw [hU]; exact hP, hK.warm hW, hD.weaken (fun _ _ _ _ => trivial)⟩
/-- what is known of a method that is called: virtual, static, a constructor -/
def xMV (y : MethodName) (b : ByteArray) (n : Nat) (ret : Option FieldType) (k : Nat) (Cn : String) : Prop := Cond.code y b n ret ∈ gT ∧ Cond.initialized Cn ∈ gT ∧ Cond.instanceMethod y ∈ gT ∧ Cond.selects Cn y y ∈ gT ∧ (y.cls = Cn ∧ y.cls ≠ "java/lang/invoke/MethodHandle" ∧ y.cls ≠ "java/lang/invoke/VarHandle" ∧ (parseMethodDescriptor y.desc).map (fun d => d.parameters.length) = some k)
def xMS (y : MethodName) (b : ByteArray) (n : Nat) (ret : Option FieldType) (k : Nat) : Prop := Cond.code y b n ret ∈ gT ∧ Cond.initialized y.cls ∈ gT ∧ Cond.static y ∈ gT ∧ (y.cls ≠ "java/lang/invoke/MethodHandle" ∧ y.cls ≠ "java/lang/invoke/VarHandle" ∧ (parseMethodDescriptor y.desc).map (fun d => d.parameters.length) = some k)
def xMN (y : MethodName) (b : ByteArray) (n : Nat) (k : Nat) : Prop := Cond.code y b n none ∈ gT ∧ Cond.initialized y.cls ∈ gT ∧ Cond.instanceMethod y ∈ gT ∧ y.name = "<init>" ∧ (y.cls ≠ "java/lang/invoke/MethodHandle" ∧ y.cls ≠ "java/lang/invoke/VarHandle" ∧ (parseMethodDescriptor y.desc).map (fun d => d.parameters.length) = some k)
theorem gT_V {own : String} {idx n k : Nat} {y : MethodName} {b : ByteArray} {ret : Option FieldType} {Cn : String} (F : xMV y b n ret k Cn) (hl : Cond.methodLink own idx y ∈ gT) : GoodIn gT (wsV own idx Cn y (Cond.code y b n ret :: gT)) := by
  refine gT_app [.methodLink own idx y, .instanceMethod y, .selects Cn y y, .initialized Cn] (fun w hw => ?_) (gT_cons F.1)
  rcases List.mem_cons.mp hw with h | hw
  · rw [h]; exact hl
  rcases List.mem_cons.mp hw with h | hw
  · rw [h]; exact F.2.2.1
  rcases List.mem_cons.mp hw with h | hw
  · rw [h]; exact F.2.2.2.1
  rcases List.mem_cons.mp hw with h | hw
  · rw [h]; exact F.2.1
  · cases hw
section XS
variable {E : xE} {l : Launch}
theorem xI_start {y : MethodName} {b : ByteArray} {n d : Nat} {ret : Option FieldType} {av : List Value} {ws : va_W} {post : Int32 → va_W → Prop} {lv : List (Nat × Value)} (own : String) (hy : plainName y.cls = true) (ho : y.cls = own) (hlen : (lg_sl av).length ≤ n) (hlv : lv_args 0 av = lv)
    (body : ∀ (p : Program) (e : Env) (s : State) (m : MethodId) (below : List Frame) (meth : Method) (c : Code) (A : Nat → Prop), xC E p s m av.toArray c A b n own → meth.sig.returnType = ret → meth.locks = false → X E p l e (xRm d 0 0) s m av.toArray below meth c A n 0 0 (MQ below (va_Qi post (xB E A) A) av.toArray s 0 0 A) ws 0 lv []) : xI E l y b n ret d av ws post := by
  intro sz
  refine Met.ofW (cc := b) (maxL := n) (ret := ret) hy rfl ?_
  intro p e s m args below meth c s₁ B hml hv
  obtain ⟨rfl, hsz, hP, hK, hD0⟩ := hv
  subst hsz
  have hts := atoms_spec (ws := Cond.code y b n ret :: gT) B.pre
  have hown : s.vm.findClass y.cls = some m.cls := findClass_of_methodNamed B.named
  rw [ho] at hown
  have C : xC E p s m av.toArray c (va_A ws s.heap.size) b n own := ⟨B.exec, B.bytes, hml, hown, fun w h => hts w (List.mem_cons_of_mem _ h), hK, fun q h => Or.inr h⟩
  rw [lg_entry_eq]
  exact body p e s m below meth c _ C B.returns B.notSynchronized s.heap [] _ hP hD0.self va_S.rf (by rw [← hlv]; exact lv_entry av hlen)
theorem xV_start {y : MethodName} {b : ByteArray} {n d mc ms : Nat} {av : List Value} {ws : va_W} {post : va_W → Prop} {lv : List (Nat × Value)} (own : String) (hy : plainName y.cls = true) (ho : y.cls = own) (hlen : (lg_sl av).length ≤ n) (hlv : lv_args 0 av = lv)
    (body : ∀ (p : Program) (e : Env) (s : State) (m : MethodId) (below : List Frame) (meth : Method) (c : Code) (A : Nat → Prop), xC E p s m av.toArray c A b n own → meth.sig.returnType = none → meth.locks = false → meth.name = y.name → X E p l e (xRm d mc ms) s m av.toArray below meth c A n 0 0 (MQ below (va_Qv post (xB E A) A) av.toArray s mc ms A) ws 0 lv []) : xV E l y b n d mc ms av ws post := by
  intro sz
  refine Met.ofW (cc := b) (maxL := n) (ret := none) hy rfl ?_
  intro p e s m args below meth c s₁ B hml hv
  obtain ⟨rfl, hsz, hP, hK, hD0⟩ := hv
  subst hsz
  have hts := atoms_spec (ws := Cond.code y b n none :: gT) B.pre
  have hown : s.vm.findClass y.cls = some m.cls := findClass_of_methodNamed B.named
  rw [ho] at hown
  have C : xC E p s m av.toArray c (va_A ws s.heap.size) b n own := ⟨B.exec, B.bytes, hml, hown, fun w h => hts w (List.mem_cons_of_mem _ h), hK, fun q h => Or.inr h⟩
  rw [lg_entry_eq]
  exact body p e s m below meth c _ C B.returns B.notSynchronized (name_of_methodNamed B.named B.method).1 s.heap [] _ hP hD0.self va_S.rf (by rw [← hlv]; exact lv_entry av hlen)
end XS
section XCALL
variable {E : xE} {p : Program} {l : Launch} {e : Env} {R : Room} {s : State} {m : MethodId} {args : Array Value} {below : List Frame} {meth : Method} {c : Code} {A : Nat → Prop} {cc : ByteArray} {nL : Nat} {own : String} {cells slots : Nat} {Q : State → Prop} {ws : va_W} {pc pc' : Nat} {lv : List (Nat × Value)} {st : List Value}
theorem x_zret (C : xC E p s m args c A cc nL own) {ty : FieldType} {v : Int32} {post : Int32 → va_W → Prop} (hr : meth.sig.returnType = some ty) (hlk : meth.locks = false) (hn : narrow ty (.int v) = .int v) (hd : decode cc pc = .ok (.ireturn, 1)) (hq : post v ws) : X E p l e R s m args below meth c A nL cells slots (MQ below (va_Qi post (xB E A) A) args s cells slots A) ws pc lv [.int v] :=
  fun _ _ _ hP hD hS _ => W.zret C.1 C.2.1 hr hn (fun t ht _ => ⟨⟨v, ws, rfl, hq, (And.intro (by rw [ht]; exact hP) hD : xB E A ws t)⟩, hS.F ht⟩) hS.2.2 hd hlk
theorem x_vret (C : xC E p s m args c A cc nL own) {post : va_W → Prop} (hr : meth.sig.returnType = none) (hlk : meth.locks = false) (hd : decode cc pc = .ok (.return_, 1)) (hq : post ws) : X E p l e R s m args below meth c A nL cells slots (MQ below (va_Qv post (xB E A) A) args s cells slots A) ws pc lv [] :=
  fun _ _ _ hP hD hS _ => W.vret C.1 C.2.1 hr (fun t ht _ => ⟨⟨ws, rfl, hq, (And.intro (by rw [ht]; exact hP) hD : xB E A ws t)⟩, hS.F ht⟩) hS.2.2 hd hlk
theorem xC.fr (C : xC E p s m args c A cc nL own) {H : Heap} {locs : List Loc} {W0 wc : va_W} (hD : va_D A (W0 ++ wc)) (hS : va_S A s.heap H locs) : ∀ q, va_A wc H.size q → A q := by
  intro q h
  rcases h with ⟨k, e, h⟩ | h
  · exact hD.2 (W0.length + k) (q, e) (by rw [List.getElem?_append_right (Nat.le_add_right _ _), Nat.add_sub_cancel_left]; exact h)
  · exact C.2.2.2.2.2.2 q (Nat.le_trans hS.1 h)
theorem xC.fr0 (C : xC E p s m args c A cc nL own) {H : Heap} {locs : List Loc} {wc : va_W} (hD : va_D A wc) (hS : va_S A s.heap H locs) : ∀ q, va_A wc H.size q → A q := C.fr (W0 := []) hD hS
/-- invokevirtual, an int (boolean) comes -/
theorem x_vi (C : xC E p s m args c A cc nL own) {y : MethodName} {b : ByteArray} {n d k idx a ci N : Nat} {ret : Option FieldType} {Cn : String} {T : u_T} {fs As rest : List Value} {post : Int32 → va_W → Prop} (hM : xI E l y b n ret d (.ref a :: As) ws post) (F : xMV y b n ret k Cn) (hl : Cond.methodLink own idx y ∈ gT) (q0 : Nat) (he : ws[q0]? = some (a, .inr (ci, fs))) (hc : vwCl[ci]? = some (Cn, T, N)) (hk : As.length = k) (hst : st = As.reverse ++ .ref a :: rest) (hr : (rest.map fun v => v.category).sum ≤ 8) (hR : d + 1 ≤ R.frames ∧ 8 + (n + 11) + 40 * d ≤ R.locals) (hf : cells ≤ R.cells ∧ slots ≤ R.slots) (hd : decode cc pc = .ok (.invokevirtual idx, 3)) (hp : pc + 3 = pc') (kk : ∀ (r : Int32) (w : va_W), post r w → X E p l e R s m args below meth c A nL cells slots Q w pc' lv (.int r :: rest)) : X E p l e R s m args below meth c A nL cells slots Q ws pc lv st := by
  subst hp; subst hst
  intro H locs ls hP hD hS hl'
  have hF := C.fr0 hD hS
  refine va_calli (va_runV (As := As) (rest := rest) ⟨C.1, C.2.1, C.2.2.1, C.2.2.2.1, C.2.2.2.2.1⟩ (hM H.size) (cwV k C.2.2.2.2.1 (gT_V F hl) rfl rfl rfl F.2.2.2.2 hR) ⟨xP_blind, va_recv C.2.2.2.2.2.1.1 hP hc he, fun U hU hW => xP_at hU hW hP C.2.2.2.2.2.1 hD⟩ rfl hk hl'.1 rfl (lv_room hr) hd hf) hS (fun q _ h => hF q h) hF (fun r u t H1 locs1 ht hvm hpost hB hz hk1 hS1 => ?_)
  obtain ⟨hP1, hD1⟩ := hB
  rw [ht] at hP1
  exact kk r u hpost H1 locs1 ls hP1 (hD1.weaken (fun _ q _ h => hF q.1 h)) hS1 hl'
/-- invokevirtual, nothing comes -/
theorem x_vv (C : xC E p s m args c A cc nL own) {y : MethodName} {b : ByteArray} {n d k idx a ci N : Nat} {Cn : String} {T : u_T} {fs As rest : List Value} {post : va_W → Prop} (hM : xV E l y b n d 0 0 (.ref a :: As) ws post) (F : xMV y b n none k Cn) (hl : Cond.methodLink own idx y ∈ gT) (q0 : Nat) (he : ws[q0]? = some (a, .inr (ci, fs))) (hc : vwCl[ci]? = some (Cn, T, N)) (hk : As.length = k) (hst : st = As.reverse ++ .ref a :: rest) (hr : (rest.map fun v => v.category).sum ≤ 8) (hR : d + 1 ≤ R.frames ∧ 8 + (n + 11) + 40 * d ≤ R.locals) (hf : cells ≤ R.cells ∧ slots ≤ R.slots) (hd : decode cc pc = .ok (.invokevirtual idx, 3)) (hp : pc + 3 = pc') (kk : ∀ (w : va_W), post w → X E p l e R s m args below meth c A nL cells slots Q w pc' lv rest) : X E p l e R s m args below meth c A nL cells slots Q ws pc lv st := by
  subst hp; subst hst
  intro H locs ls hP hD hS hl'
  have hF := C.fr0 hD hS
  refine va_callv (va_runV (As := As) (rest := rest) ⟨C.1, C.2.1, C.2.2.1, C.2.2.2.1, C.2.2.2.2.1⟩ (hM H.size) (cwV k C.2.2.2.2.1 (gT_V F hl) rfl rfl rfl F.2.2.2.2 hR) ⟨xP_blind, va_recv C.2.2.2.2.2.1.1 hP hc he, fun U hU hW => xP_at hU hW hP C.2.2.2.2.2.1 hD⟩ rfl hk hl'.1 rfl (lv_room hr) hd hf) hS (fun q _ h => hF q h) hF (fun u t H1 locs1 ht hvm hpost hB hz hk1 hS1 => ?_)
  obtain ⟨hP1, hD1⟩ := hB
  rw [ht] at hP1
  exact kk u hpost H1 locs1 ls hP1 (hD1.weaken (fun _ q _ h => hF q.1 h)) hS1 hl'
/-- invokestatic, an int (boolean) comes -/
theorem x_si (C : xC E p s m args c A cc nL own) {y : MethodName} {b : ByteArray} {n d k idx : Nat} {ret : Option FieldType} {As rest : List Value} {post : Int32 → va_W → Prop} (hM : xI E l y b n ret d As ws post) (F : xMS y b n ret k) (hl : Cond.methodLink own idx y ∈ gT) (hk : As.length = k) (hst : st = As.reverse ++ rest) (hr : (rest.map fun v => v.category).sum ≤ 8) (hR : d + 1 ≤ R.frames ∧ 8 + (n + 11) + 40 * d ≤ R.locals) (hf : cells ≤ R.cells ∧ slots ≤ R.slots) (hd : decode cc pc = .ok (.invokestatic idx, 3)) (hp : pc + 3 = pc') (kk : ∀ (r : Int32) (w : va_W), post r w → X E p l e R s m args below meth c A nL cells slots Q w pc' lv (.int r :: rest)) : X E p l e R s m args below meth c A nL cells slots Q ws pc lv st := by
  subst hp; subst hst
  intro H locs ls hP hD hS hl'
  have hF := C.fr0 hD hS
  refine va_calli (va_runS (As := As) (rest := rest) ⟨C.1, C.2.1, C.2.2.1, C.2.2.2.1, C.2.2.2.2.1⟩ (hM H.size) ⟨callB_of k C.2.2.2.2.1 (gT_cons F.1) rfl rfl rfl (C.2.2.2.2.1 _ F.2.1) (C.2.2.2.2.1 _ hl) F.2.2.2 hR, C.2.2.2.2.1 _ F.2.2.1⟩ ⟨xP_blind, fun U hU hW => xP_at hU hW hP C.2.2.2.2.2.1 hD⟩ rfl hk hl'.1 rfl (lv_room hr) hd hf) hS (fun q _ h => hF q h) hF (fun r u t H1 locs1 ht hvm hpost hB hz hk1 hS1 => ?_)
  obtain ⟨hP1, hD1⟩ := hB
  rw [ht] at hP1
  exact kk r u hpost H1 locs1 ls hP1 (hD1.weaken (fun _ q _ h => hF q.1 h)) hS1 hl'
/-- invokestatic, nothing comes -/
theorem x_sv (C : xC E p s m args c A cc nL own) {y : MethodName} {b : ByteArray} {n d k idx : Nat} {As rest : List Value} {post : va_W → Prop} (hM : xV E l y b n d 0 0 As ws post) (F : xMS y b n none k) (hl : Cond.methodLink own idx y ∈ gT) (hk : As.length = k) (hst : st = As.reverse ++ rest) (hr : (rest.map fun v => v.category).sum ≤ 8) (hR : d + 1 ≤ R.frames ∧ 8 + (n + 11) + 40 * d ≤ R.locals) (hf : cells ≤ R.cells ∧ slots ≤ R.slots) (hd : decode cc pc = .ok (.invokestatic idx, 3)) (hp : pc + 3 = pc') (kk : ∀ (w : va_W), post w → X E p l e R s m args below meth c A nL cells slots Q w pc' lv rest) : X E p l e R s m args below meth c A nL cells slots Q ws pc lv st := by
  subst hp; subst hst
  intro H locs ls hP hD hS hl'
  have hF := C.fr0 hD hS
  refine va_callv (va_runS (As := As) (rest := rest) ⟨C.1, C.2.1, C.2.2.1, C.2.2.2.1, C.2.2.2.2.1⟩ (hM H.size) ⟨callB_of k C.2.2.2.2.1 (gT_cons F.1) rfl rfl rfl (C.2.2.2.2.1 _ F.2.1) (C.2.2.2.2.1 _ hl) F.2.2.2 hR, C.2.2.2.2.1 _ F.2.2.1⟩ ⟨xP_blind, fun U hU hW => xP_at hU hW hP C.2.2.2.2.2.1 hD⟩ rfl hk hl'.1 rfl (lv_room hr) hd hf) hS (fun q _ h => hF q h) hF (fun u t H1 locs1 ht hvm hpost hB hz hk1 hS1 => ?_)
  obtain ⟨hP1, hD1⟩ := hB
  rw [ht] at hP1
  exact kk u hpost H1 locs1 ls hP1 (hD1.weaken (fun _ q _ h => hF q.1 h)) hS1 hl'
/-- invokestatic of a nest mate's private method -/
theorem x_sn (C : xC E p s m args c A cc nL own) {y : MethodName} {b : ByteArray} {n d k idx : Nat} {host : String} {ret : Option FieldType} {As rest : List Value} {post : Int32 → va_W → Prop} (hM : xI E l y b n ret d As ws post) (F : xMS y b n ret k) (hl : Cond.methodLinkNest own idx y host ∈ tables_1) (hk : As.length = k) (hst : st = As.reverse ++ rest) (hr : (rest.map fun v => v.category).sum ≤ 8) (hR : d + 1 ≤ R.frames ∧ 8 + (n + 11) + 40 * d ≤ R.locals) (hf : cells ≤ R.cells ∧ slots ≤ R.slots) (hd : decode cc pc = .ok (.invokestatic idx, 3)) (hp : pc + 3 = pc') (kk : ∀ (r : Int32) (w : va_W), post r w → X E p l e R s m args below meth c A nL cells slots Q w pc' lv (.int r :: rest)) : X E p l e R s m args below meth c A nL cells slots Q ws pc lv st := by
  subst hp; subst hst
  intro H locs ls hP hD hS hl'
  have hF := C.fr0 hD hS
  refine va_calli (va_runSN (As := As) (rest := rest) ⟨C.1, C.2.1, C.2.2.1, C.2.2.2.1, C.2.2.2.2.1⟩ (hM H.size) ⟨va_cnB k C.2.2.2.2.1 (gT_cons F.1) rfl rfl rfl (C.2.2.2.2.2.1.2 _ _ _ _ hl) (C.2.2.2.2.1 _ F.2.1) F.2.2.2 hR, C.2.2.2.2.1 _ F.2.2.1, trivial⟩ ⟨xP_blind, fun U hU hW => xP_at hU hW hP C.2.2.2.2.2.1 hD⟩ rfl hk hl'.1 rfl (lv_room hr) hd hf) hS (fun q _ h => hF q h) hF (fun r u t H1 locs1 ht hvm hpost hB hz hk1 hS1 => ?_)
  obtain ⟨hP1, hD1⟩ := hB
  rw [ht] at hP1
  exact kk r u hpost H1 locs1 ls hP1 (hD1.weaken (fun _ q _ h => hF q.1 h)) hS1 hl'
/-- invokespecial of a constructor on the cell that came last: W0 stays -/
theorem x_ni (C : xC E p s m args c A cc nL own) {y : MethodName} {b : ByteArray} {n d k idx a mc ms : Nat} {As rest : List Value} {W0 wc : va_W} {post : va_W → Prop} (hM : xV E l y b n d mc ms (.ref a :: As) wc post) (F : xMN y b n k) (hl : Cond.methodLink own idx y ∈ gT) (hw : ws = W0 ++ wc) (hk : As.length = k) (hst : st = As.reverse ++ .ref a :: rest) (hr : (rest.map fun v => v.category).sum ≤ 8) (hR : d + 1 ≤ R.frames ∧ 8 + (n + 11) + 40 * d ≤ R.locals) (hf : cells + mc ≤ R.cells ∧ slots + ms ≤ R.slots) (hd : decode cc pc = .ok (.invokespecial idx, 3)) (hp : pc + 3 = pc') (kk : ∀ (w : va_W), post w → X E p l e R s m args below meth c A nL (cells + mc) (slots + ms) Q (W0 ++ w) pc' lv rest) : X E p l e R s m args below meth c A nL cells slots Q ws pc lv st := by
  subst hp; subst hst; subst hw
  intro H locs ls hP hD hS hl'
  have hF := C.fr hD hS
  have hPc : va_P E.1 vwCl wc H := fun j q h => hP (W0.length + j) q (by rw [List.getElem?_append_right (Nat.le_add_right _ _), Nat.add_sub_cancel_left]; exact h)
  have rt : ∀ (j : Nat) (q : Nat × va_E), wc[j]? = some q → (W0 ++ wc)[W0.length + j]? = some q := fun j q h => by rw [List.getElem?_append_right (Nat.le_add_right _ _), Nat.add_sub_cancel_left]; exact h
  have hDc : va_D A wc := ⟨fun i j x y hx hy e => by have := hD.1 _ _ x y (rt i x hx) (rt j y hy) e; omega, fun j q h => hD.2 _ q (rt j q h)⟩
  refine va_callv (va_runI (As := As) (rest := rest) ⟨C.1, C.2.1, C.2.2.1, C.2.2.2.1, C.2.2.2.2.1⟩ (hM H.size) (cwI k C.2.2.2.2.1 (gT_cons F.1) rfl rfl rfl (C.2.2.2.2.1 _ F.2.1) (C.2.2.2.2.1 _ hl) (C.2.2.2.2.1 _ F.2.2.1) F.2.2.2.1 F.2.2.2.2 hR) ⟨xP_blind, fun U hU hW => xP_at hU hW hPc C.2.2.2.2.2.1 hDc⟩ rfl hk hl'.1 rfl (lv_room hr) hd hf) hS (fun q _ h => hF q h) hF (fun u t H1 locs1 ht hvm hpost hB hz hk1 hS1 => ?_)
  obtain ⟨hP1, hD1⟩ := hB
  rw [ht] at hP1
  obtain ⟨g1, g2⟩ := fr_app hP hD hk1 hF hP1 hD1
  exact kk u hpost H1 locs1 ls g1 g2 hS1 hl'
/-- the same of a nest mate's private constructor -/
theorem x_nn (C : xC E p s m args c A cc nL own) {y : MethodName} {b : ByteArray} {n d k idx a mc ms : Nat} {host : String} {As rest : List Value} {W0 wc : va_W} {post : va_W → Prop} (hM : xV E l y b n d mc ms (.ref a :: As) wc post) (F : xMN y b n k) (hl : Cond.methodLinkNest own idx y host ∈ tables_1) (hw : ws = W0 ++ wc) (hk : As.length = k) (hst : st = As.reverse ++ .ref a :: rest) (hr : (rest.map fun v => v.category).sum ≤ 8) (hR : d + 1 ≤ R.frames ∧ 8 + (n + 11) + 40 * d ≤ R.locals) (hf : cells + mc ≤ R.cells ∧ slots + ms ≤ R.slots) (hd : decode cc pc = .ok (.invokespecial idx, 3)) (hp : pc + 3 = pc') (kk : ∀ (w : va_W), post w → X E p l e R s m args below meth c A nL (cells + mc) (slots + ms) Q (W0 ++ w) pc' lv rest) : X E p l e R s m args below meth c A nL cells slots Q ws pc lv st := by
  subst hp; subst hst; subst hw
  intro H locs ls hP hD hS hl'
  have hF := C.fr hD hS
  have hPc : va_P E.1 vwCl wc H := fun j q h => hP (W0.length + j) q (by rw [List.getElem?_append_right (Nat.le_add_right _ _), Nat.add_sub_cancel_left]; exact h)
  have rt : ∀ (j : Nat) (q : Nat × va_E), wc[j]? = some q → (W0 ++ wc)[W0.length + j]? = some q := fun j q h => by rw [List.getElem?_append_right (Nat.le_add_right _ _), Nat.add_sub_cancel_left]; exact h
  have hDc : va_D A wc := ⟨fun i j x y hx hy e => by have := hD.1 _ _ x y (rt i x hx) (rt j y hy) e; omega, fun j q h => hD.2 _ q (rt j q h)⟩
  refine va_callv (va_runIN (As := As) (rest := rest) ⟨C.1, C.2.1, C.2.2.1, C.2.2.2.1, C.2.2.2.2.1⟩ (hM H.size) ⟨va_cnB k C.2.2.2.2.1 (gT_cons F.1) rfl rfl rfl (C.2.2.2.2.2.1.2 _ _ _ _ hl) (C.2.2.2.2.1 _ F.2.1) F.2.2.2.2 hR, F.2.2.2.1, C.2.2.2.2.1 _ F.2.2.1⟩ ⟨xP_blind, fun U hU hW => xP_at hU hW hPc C.2.2.2.2.2.1 hDc⟩ rfl hk hl'.1 rfl (lv_room hr) hd hf) hS (fun q _ h => hF q h) hF (fun u t H1 locs1 ht hvm hpost hB hz hk1 hS1 => ?_)
  obtain ⟨hP1, hD1⟩ := hB
  rw [ht] at hP1
  obtain ⟨g1, g2⟩ := fr_app hP hD hk1 hF hP1 hD1
  exact kk u hpost H1 locs1 ls g1 g2 hS1 hl'
end XCALL
end
