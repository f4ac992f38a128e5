section
-- ===== PART A: goes FIRST, ahead of the names: the tables' words, and 'selects' of the private methods out of them =====
/-- a private method of a class that the tables say can be made, by its rows of tables_1 -/
def lw_okq (q : MethodName × Nat) : Prop := (q.1.cls ≠ "java/lang/invoke/MethodHandle" ∧ q.1.cls ≠ "java/lang/invoke/VarHandle") ∧ Cond.instantiable q.1.cls q.2 ∈ tables_1 ∧ Cond.privateMethod q.1 ∈ tables_1 ∧ Cond.instanceMethod q.1 ∈ tables_1
theorem lw_p0 : lw_okq (⟨"EggTown", "readActs", "(I)Z"⟩, 19) := ⟨⟨by decide +kernel, by decide +kernel⟩, List.mem_of_getElem? (i := 23) (by decide +kernel), List.mem_of_getElem? (i := 665) (by decide +kernel), List.mem_of_getElem? (i := 666) (by decide +kernel)⟩
theorem lw_p1 : lw_okq (⟨"EggTown$Acts", "line", "(LEggTown$Tape;I)Z"⟩, 6) := ⟨⟨by decide +kernel, by decide +kernel⟩, List.mem_of_getElem? (i := 289) (by decide +kernel), List.mem_of_getElem? (i := 673) (by decide +kernel), List.mem_of_getElem? (i := 674) (by decide +kernel)⟩
theorem lw_p2 : lw_okq (⟨"EggTown$Acts", "someEggs", "(LEggTown$Tape;)Z"⟩, 6) := ⟨⟨by decide +kernel, by decide +kernel⟩, List.mem_of_getElem? (i := 289) (by decide +kernel), List.mem_of_getElem? (i := 680) (by decide +kernel), List.mem_of_getElem? (i := 681) (by decide +kernel)⟩
theorem lw_p3 : lw_okq (⟨"EggTown$Acts", "oneEgg", "(LEggTown$Tape;I)Z"⟩, 6) := ⟨⟨by decide +kernel, by decide +kernel⟩, List.mem_of_getElem? (i := 289) (by decide +kernel), List.mem_of_getElem? (i := 684) (by decide +kernel), List.mem_of_getElem? (i := 685) (by decide +kernel)⟩
theorem lw_p4 : lw_okq (⟨"EggTown$Acts", "whatIsDone", "(LEggTown$Tape;I)Z"⟩, 6) := ⟨⟨by decide +kernel, by decide +kernel⟩, List.mem_of_getElem? (i := 289) (by decide +kernel), List.mem_of_getElem? (i := 693) (by decide +kernel), List.mem_of_getElem? (i := 694) (by decide +kernel)⟩
theorem lw_p5 : lw_okq (⟨"EggTown$Law", "start", "(LEggTown$Town;I)V"⟩, 10) := ⟨⟨by decide +kernel, by decide +kernel⟩, List.mem_of_getElem? (i := 245) (by decide +kernel), List.mem_of_getElem? (i := 736) (by decide +kernel), List.mem_of_getElem? (i := 737) (by decide +kernel)⟩
theorem lw_p6 : lw_okq (⟨"EggTown$Law", "ask", "(I)I"⟩, 10) := ⟨⟨by decide +kernel, by decide +kernel⟩, List.mem_of_getElem? (i := 245) (by decide +kernel), List.mem_of_getElem? (i := 740) (by decide +kernel), List.mem_of_getElem? (i := 741) (by decide +kernel)⟩
theorem lw_p7 : lw_okq (⟨"EggTown$Law", "run", "(II)I"⟩, 10) := ⟨⟨by decide +kernel, by decide +kernel⟩, List.mem_of_getElem? (i := 245) (by decide +kernel), List.mem_of_getElem? (i := 744) (by decide +kernel), List.mem_of_getElem? (i := 745) (by decide +kernel)⟩
theorem lw_p8 : lw_okq (⟨"EggTown$Law", "push", "(I)V"⟩, 10) := ⟨⟨by decide +kernel, by decide +kernel⟩, List.mem_of_getElem? (i := 245) (by decide +kernel), List.mem_of_getElem? (i := 748) (by decide +kernel), List.mem_of_getElem? (i := 749) (by decide +kernel)⟩
theorem lw_p9 : lw_okq (⟨"EggTown$Law", "pop", "()I"⟩, 10) := ⟨⟨by decide +kernel, by decide +kernel⟩, List.mem_of_getElem? (i := 245) (by decide +kernel), List.mem_of_getElem? (i := 752) (by decide +kernel), List.mem_of_getElem? (i := 753) (by decide +kernel)⟩
theorem lw_p10 : lw_okq (⟨"EggTown$Town", "strikeOrLay", "(ILEggTown$Law;)V"⟩, 10) := ⟨⟨by decide +kernel, by decide +kernel⟩, List.mem_of_getElem? (i := 57) (by decide +kernel), List.mem_of_getElem? (i := 828) (by decide +kernel), List.mem_of_getElem? (i := 829) (by decide +kernel)⟩
theorem lw_p11 : lw_okq (⟨"EggTown$Town", "draw", "()I"⟩, 10) := ⟨⟨by decide +kernel, by decide +kernel⟩, List.mem_of_getElem? (i := 57) (by decide +kernel), List.mem_of_getElem? (i := 832) (by decide +kernel), List.mem_of_getElem? (i := 833) (by decide +kernel)⟩
theorem lw_p12 : lw_okq (⟨"EggTown$Town", "mayGoBad", "(ILEggTown$Law;)V"⟩, 10) := ⟨⟨by decide +kernel, by decide +kernel⟩, List.mem_of_getElem? (i := 57) (by decide +kernel), List.mem_of_getElem? (i := 846) (by decide +kernel), List.mem_of_getElem? (i := 847) (by decide +kernel)⟩
theorem lw_p13 : lw_okq (⟨"EggTown", "firstBadDay", "(I)I"⟩, 19) := ⟨⟨by decide +kernel, by decide +kernel⟩, List.mem_of_getElem? (i := 23) (by decide +kernel), List.mem_of_getElem? (i := 863) (by decide +kernel), List.mem_of_getElem? (i := 864) (by decide +kernel)⟩
theorem lw_p14 : lw_okq (⟨"EggTown$Plan", "findFits", "(LEggTown$Town;LEggTown$Law;I)V"⟩, 13) := ⟨⟨by decide +kernel, by decide +kernel⟩, List.mem_of_getElem? (i := 315) (by decide +kernel), List.mem_of_getElem? (i := 917) (by decide +kernel), List.mem_of_getElem? (i := 918) (by decide +kernel)⟩
theorem lw_p15 : lw_okq (⟨"EggTown$Plan", "isFit", "(II)Z"⟩, 13) := ⟨⟨by decide +kernel, by decide +kernel⟩, List.mem_of_getElem? (i := 315) (by decide +kernel), List.mem_of_getElem? (i := 922) (by decide +kernel), List.mem_of_getElem? (i := 923) (by decide +kernel)⟩
def lw_privs_1 : List (MethodName × Nat) := [(⟨"EggTown", "readActs", "(I)Z"⟩, 19), (⟨"EggTown$Acts", "line", "(LEggTown$Tape;I)Z"⟩, 6), (⟨"EggTown$Acts", "someEggs", "(LEggTown$Tape;)Z"⟩, 6), (⟨"EggTown$Acts", "oneEgg", "(LEggTown$Tape;I)Z"⟩, 6), (⟨"EggTown$Acts", "whatIsDone", "(LEggTown$Tape;I)Z"⟩, 6), (⟨"EggTown$Law", "start", "(LEggTown$Town;I)V"⟩, 10), (⟨"EggTown$Law", "ask", "(I)I"⟩, 10), (⟨"EggTown$Law", "run", "(II)I"⟩, 10), (⟨"EggTown$Law", "push", "(I)V"⟩, 10), (⟨"EggTown$Law", "pop", "()I"⟩, 10), (⟨"EggTown$Town", "strikeOrLay", "(ILEggTown$Law;)V"⟩, 10), (⟨"EggTown$Town", "draw", "()I"⟩, 10), (⟨"EggTown$Town", "mayGoBad", "(ILEggTown$Law;)V"⟩, 10), (⟨"EggTown", "firstBadDay", "(I)I"⟩, 19), (⟨"EggTown$Plan", "findFits", "(LEggTown$Town;LEggTown$Law;I)V"⟩, 13), (⟨"EggTown$Plan", "isFit", "(II)Z"⟩, 13)]
theorem lw_r1 : ∀ q ∈ lw_privs_1, lw_okq q := List.forall_mem_cons.mpr ⟨lw_p0, List.forall_mem_cons.mpr ⟨lw_p1, List.forall_mem_cons.mpr ⟨lw_p2, List.forall_mem_cons.mpr ⟨lw_p3, List.forall_mem_cons.mpr ⟨lw_p4, List.forall_mem_cons.mpr ⟨lw_p5, List.forall_mem_cons.mpr ⟨lw_p6, List.forall_mem_cons.mpr ⟨lw_p7, List.forall_mem_cons.mpr ⟨lw_p8, List.forall_mem_cons.mpr ⟨lw_p9, List.forall_mem_cons.mpr ⟨lw_p10, List.forall_mem_cons.mpr ⟨lw_p11, List.forall_mem_cons.mpr ⟨lw_p12, List.forall_mem_cons.mpr ⟨lw_p13, List.forall_mem_cons.mpr ⟨lw_p14, List.forall_mem_cons.mpr ⟨lw_p15, fun _ h => absurd h List.not_mem_nil⟩⟩⟩⟩⟩⟩⟩⟩⟩⟩⟩⟩⟩⟩⟩⟩
theorem lw_p16 : lw_okq (⟨"EggTown$Plan", "findHopes", "()V"⟩, 13) := ⟨⟨by decide +kernel, by decide +kernel⟩, List.mem_of_getElem? (i := 315) (by decide +kernel), List.mem_of_getElem? (i := 928) (by decide +kernel), List.mem_of_getElem? (i := 929) (by decide +kernel)⟩
theorem lw_p17 : lw_okq (⟨"EggTown$Plan", "gain", "(II)I"⟩, 13) := ⟨⟨by decide +kernel, by decide +kernel⟩, List.mem_of_getElem? (i := 315) (by decide +kernel), List.mem_of_getElem? (i := 932) (by decide +kernel), List.mem_of_getElem? (i := 933) (by decide +kernel)⟩
theorem lw_p18 : lw_okq (⟨"EggTown$Plan", "choose", "(III)V"⟩, 13) := ⟨⟨by decide +kernel, by decide +kernel⟩, List.mem_of_getElem? (i := 315) (by decide +kernel), List.mem_of_getElem? (i := 937) (by decide +kernel), List.mem_of_getElem? (i := 938) (by decide +kernel)⟩
theorem lw_p19 : lw_okq (⟨"EggTown", "mostMinutes", "(I)I"⟩, 19) := ⟨⟨by decide +kernel, by decide +kernel⟩, List.mem_of_getElem? (i := 23) (by decide +kernel), List.mem_of_getElem? (i := 960) (by decide +kernel), List.mem_of_getElem? (i := 961) (by decide +kernel)⟩
theorem lw_p20 : lw_okq (⟨"EggTown", "takesRoom", "(I)Z"⟩, 19) := ⟨⟨by decide +kernel, by decide +kernel⟩, List.mem_of_getElem? (i := 23) (by decide +kernel), List.mem_of_getElem? (i := 964) (by decide +kernel), List.mem_of_getElem? (i := 965) (by decide +kernel)⟩
theorem lw_p21 : lw_okq (⟨"EggTown", "bestHatch", "(I)I"⟩, 19) := ⟨⟨by decide +kernel, by decide +kernel⟩, List.mem_of_getElem? (i := 23) (by decide +kernel), List.mem_of_getElem? (i := 972) (by decide +kernel), List.mem_of_getElem? (i := 973) (by decide +kernel)⟩
theorem lw_p22 : lw_okq (⟨"EggTown", "tellEggs", "(II)Z"⟩, 19) := ⟨⟨by decide +kernel, by decide +kernel⟩, List.mem_of_getElem? (i := 23) (by decide +kernel), List.mem_of_getElem? (i := 980) (by decide +kernel), List.mem_of_getElem? (i := 981) (by decide +kernel)⟩
theorem lw_p23 : lw_okq (⟨"EggTown", "share", "(IIII)I"⟩, 19) := ⟨⟨by decide +kernel, by decide +kernel⟩, List.mem_of_getElem? (i := 23) (by decide +kernel), List.mem_of_getElem? (i := 988) (by decide +kernel), List.mem_of_getElem? (i := 989) (by decide +kernel)⟩
theorem lw_p24 : lw_okq (⟨"EggTown", "isSteady", "(II)Z"⟩, 19) := ⟨⟨by decide +kernel, by decide +kernel⟩, List.mem_of_getElem? (i := 23) (by decide +kernel), List.mem_of_getElem? (i := 1011) (by decide +kernel), List.mem_of_getElem? (i := 1012) (by decide +kernel)⟩
theorem lw_p25 : lw_okq (⟨"EggTown$Sets", "note", "(I)V"⟩, 5) := ⟨⟨by decide +kernel, by decide +kernel⟩, List.mem_of_getElem? (i := 361) (by decide +kernel), List.mem_of_getElem? (i := 1030) (by decide +kernel), List.mem_of_getElem? (i := 1031) (by decide +kernel)⟩
theorem lw_p26 : lw_okq (⟨"EggTown", "daysTillDone", "(III)I"⟩, 19) := ⟨⟨by decide +kernel, by decide +kernel⟩, List.mem_of_getElem? (i := 23) (by decide +kernel), List.mem_of_getElem? (i := 1055) (by decide +kernel), List.mem_of_getElem? (i := 1056) (by decide +kernel)⟩
theorem lw_p27 : lw_okq (⟨"EggTownModel", "isPerson", "(I)Z"⟩, 48) := ⟨⟨by decide +kernel, by decide +kernel⟩, List.mem_of_getElem? (i := 1113) (by decide +kernel), List.mem_of_getElem? (i := 1271) (by decide +kernel), List.mem_of_getElem? (i := 1272) (by decide +kernel)⟩
theorem lw_p28 : lw_okq (⟨"EggTownModel", "isHen", "(I)Z"⟩, 48) := ⟨⟨by decide +kernel, by decide +kernel⟩, List.mem_of_getElem? (i := 1113) (by decide +kernel), List.mem_of_getElem? (i := 1286) (by decide +kernel), List.mem_of_getElem? (i := 1287) (by decide +kernel)⟩
theorem lw_p29 : lw_okq (⟨"EggTownModel", "puts", "(II)V"⟩, 48) := ⟨⟨by decide +kernel, by decide +kernel⟩, List.mem_of_getElem? (i := 1113) (by decide +kernel), List.mem_of_getElem? (i := 1298) (by decide +kernel), List.mem_of_getElem? (i := 1299) (by decide +kernel)⟩
theorem lw_p30 : lw_okq (⟨"EggTownModel", "types", "(I)V"⟩, 48) := ⟨⟨by decide +kernel, by decide +kernel⟩, List.mem_of_getElem? (i := 1113) (by decide +kernel), List.mem_of_getElem? (i := 1306) (by decide +kernel), List.mem_of_getElem? (i := 1307) (by decide +kernel)⟩
theorem lw_p31 : lw_okq (⟨"EggTownModel", "readsClause", "()Z"⟩, 48) := ⟨⟨by decide +kernel, by decide +kernel⟩, List.mem_of_getElem? (i := 1113) (by decide +kernel), List.mem_of_getElem? (i := 1314) (by decide +kernel), List.mem_of_getElem? (i := 1315) (by decide +kernel)⟩
def lw_privs_2 : List (MethodName × Nat) := [(⟨"EggTown$Plan", "findHopes", "()V"⟩, 13), (⟨"EggTown$Plan", "gain", "(II)I"⟩, 13), (⟨"EggTown$Plan", "choose", "(III)V"⟩, 13), (⟨"EggTown", "mostMinutes", "(I)I"⟩, 19), (⟨"EggTown", "takesRoom", "(I)Z"⟩, 19), (⟨"EggTown", "bestHatch", "(I)I"⟩, 19), (⟨"EggTown", "tellEggs", "(II)Z"⟩, 19), (⟨"EggTown", "share", "(IIII)I"⟩, 19), (⟨"EggTown", "isSteady", "(II)Z"⟩, 19), (⟨"EggTown$Sets", "note", "(I)V"⟩, 5), (⟨"EggTown", "daysTillDone", "(III)I"⟩, 19), (⟨"EggTownModel", "isPerson", "(I)Z"⟩, 48), (⟨"EggTownModel", "isHen", "(I)Z"⟩, 48), (⟨"EggTownModel", "puts", "(II)V"⟩, 48), (⟨"EggTownModel", "types", "(I)V"⟩, 48), (⟨"EggTownModel", "readsClause", "()Z"⟩, 48)]
theorem lw_r2 : ∀ q ∈ lw_privs_2, lw_okq q := List.forall_mem_cons.mpr ⟨lw_p16, List.forall_mem_cons.mpr ⟨lw_p17, List.forall_mem_cons.mpr ⟨lw_p18, List.forall_mem_cons.mpr ⟨lw_p19, List.forall_mem_cons.mpr ⟨lw_p20, List.forall_mem_cons.mpr ⟨lw_p21, List.forall_mem_cons.mpr ⟨lw_p22, List.forall_mem_cons.mpr ⟨lw_p23, List.forall_mem_cons.mpr ⟨lw_p24, List.forall_mem_cons.mpr ⟨lw_p25, List.forall_mem_cons.mpr ⟨lw_p26, List.forall_mem_cons.mpr ⟨lw_p27, List.forall_mem_cons.mpr ⟨lw_p28, List.forall_mem_cons.mpr ⟨lw_p29, List.forall_mem_cons.mpr ⟨lw_p30, List.forall_mem_cons.mpr ⟨lw_p31, fun _ h => absurd h List.not_mem_nil⟩⟩⟩⟩⟩⟩⟩⟩⟩⟩⟩⟩⟩⟩⟩⟩
theorem lw_p32 : lw_okq (⟨"EggTownModel", "here", "()I"⟩, 48) := ⟨⟨by decide +kernel, by decide +kernel⟩, List.mem_of_getElem? (i := 1113) (by decide +kernel), List.mem_of_getElem? (i := 1318) (by decide +kernel), List.mem_of_getElem? (i := 1319) (by decide +kernel)⟩
theorem lw_p33 : lw_okq (⟨"EggTownModel", "wrongAt", "(II)Z"⟩, 48) := ⟨⟨by decide +kernel, by decide +kernel⟩, List.mem_of_getElem? (i := 1113) (by decide +kernel), List.mem_of_getElem? (i := 1325) (by decide +kernel), List.mem_of_getElem? (i := 1326) (by decide +kernel)⟩
theorem lw_p34 : lw_okq (⟨"EggTownModel", "readsSum", "()Z"⟩, 48) := ⟨⟨by decide +kernel, by decide +kernel⟩, List.mem_of_getElem? (i := 1113) (by decide +kernel), List.mem_of_getElem? (i := 1329) (by decide +kernel), List.mem_of_getElem? (i := 1330) (by decide +kernel)⟩
theorem lw_p35 : lw_okq (⟨"EggTownModel", "readsFactor", "()Z"⟩, 48) := ⟨⟨by decide +kernel, by decide +kernel⟩, List.mem_of_getElem? (i := 1113) (by decide +kernel), List.mem_of_getElem? (i := 1333) (by decide +kernel), List.mem_of_getElem? (i := 1334) (by decide +kernel)⟩
theorem lw_p36 : lw_okq (⟨"EggTownModel", "opens", "(I)Z"⟩, 48) := ⟨⟨by decide +kernel, by decide +kernel⟩, List.mem_of_getElem? (i := 1113) (by decide +kernel), List.mem_of_getElem? (i := 1337) (by decide +kernel), List.mem_of_getElem? (i := 1338) (by decide +kernel)⟩
theorem lw_p37 : lw_okq (⟨"EggTownModel", "isDigit", "()Z"⟩, 48) := ⟨⟨by decide +kernel, by decide +kernel⟩, List.mem_of_getElem? (i := 1113) (by decide +kernel), List.mem_of_getElem? (i := 1342) (by decide +kernel), List.mem_of_getElem? (i := 1343) (by decide +kernel)⟩
theorem lw_p38 : lw_okq (⟨"EggTownModel", "readsNumber", "()Z"⟩, 48) := ⟨⟨by decide +kernel, by decide +kernel⟩, List.mem_of_getElem? (i := 1113) (by decide +kernel), List.mem_of_getElem? (i := 1346) (by decide +kernel), List.mem_of_getElem? (i := 1347) (by decide +kernel)⟩
theorem lw_p39 : lw_okq (⟨"EggTownModel", "notes", "(II)V"⟩, 48) := ⟨⟨by decide +kernel, by decide +kernel⟩, List.mem_of_getElem? (i := 1113) (by decide +kernel), List.mem_of_getElem? (i := 1350) (by decide +kernel), List.mem_of_getElem? (i := 1351) (by decide +kernel)⟩
theorem lw_p40 : lw_okq (⟨"EggTownModel", "closesSums", "(Z)V"⟩, 48) := ⟨⟨by decide +kernel, by decide +kernel⟩, List.mem_of_getElem? (i := 1113) (by decide +kernel), List.mem_of_getElem? (i := 1360) (by decide +kernel), List.mem_of_getElem? (i := 1361) (by decide +kernel)⟩
theorem lw_p41 : lw_okq (⟨"EggTownModel", "waitTop", "()I"⟩, 48) := ⟨⟨by decide +kernel, by decide +kernel⟩, List.mem_of_getElem? (i := 1113) (by decide +kernel), List.mem_of_getElem? (i := 1364) (by decide +kernel), List.mem_of_getElem? (i := 1365) (by decide +kernel)⟩
theorem lw_p42 : lw_okq (⟨"EggTownModel", "hasOpenSum", "(I)Z"⟩, 48) := ⟨⟨by decide +kernel, by decide +kernel⟩, List.mem_of_getElem? (i := 1113) (by decide +kernel), List.mem_of_getElem? (i := 1368) (by decide +kernel), List.mem_of_getElem? (i := 1369) (by decide +kernel)⟩
theorem lw_p43 : lw_okq (⟨"EggTownModel", "readsCondition", "()Z"⟩, 48) := ⟨⟨by decide +kernel, by decide +kernel⟩, List.mem_of_getElem? (i := 1113) (by decide +kernel), List.mem_of_getElem? (i := 1372) (by decide +kernel), List.mem_of_getElem? (i := 1373) (by decide +kernel)⟩
theorem lw_p44 : lw_okq (⟨"EggTownModel", "readsCompared", "()Z"⟩, 48) := ⟨⟨by decide +kernel, by decide +kernel⟩, List.mem_of_getElem? (i := 1113) (by decide +kernel), List.mem_of_getElem? (i := 1376) (by decide +kernel), List.mem_of_getElem? (i := 1377) (by decide +kernel)⟩
theorem lw_p45 : lw_okq (⟨"EggTownModel", "endsPiece", "()V"⟩, 48) := ⟨⟨by decide +kernel, by decide +kernel⟩, List.mem_of_getElem? (i := 1113) (by decide +kernel), List.mem_of_getElem? (i := 1380) (by decide +kernel), List.mem_of_getElem? (i := 1381) (by decide +kernel)⟩
theorem lw_p46 : lw_okq (⟨"EggTownModel", "lands", "(Z)V"⟩, 48) := ⟨⟨by decide +kernel, by decide +kernel⟩, List.mem_of_getElem? (i := 1113) (by decide +kernel), List.mem_of_getElem? (i := 1384) (by decide +kernel), List.mem_of_getElem? (i := 1385) (by decide +kernel)⟩
theorem lw_p47 : lw_okq (⟨"EggTownModel", "jumps", "(I)V"⟩, 48) := ⟨⟨by decide +kernel, by decide +kernel⟩, List.mem_of_getElem? (i := 1113) (by decide +kernel), List.mem_of_getElem? (i := 1388) (by decide +kernel), List.mem_of_getElem? (i := 1389) (by decide +kernel)⟩
def lw_privs_3 : List (MethodName × Nat) := [(⟨"EggTownModel", "here", "()I"⟩, 48), (⟨"EggTownModel", "wrongAt", "(II)Z"⟩, 48), (⟨"EggTownModel", "readsSum", "()Z"⟩, 48), (⟨"EggTownModel", "readsFactor", "()Z"⟩, 48), (⟨"EggTownModel", "opens", "(I)Z"⟩, 48), (⟨"EggTownModel", "isDigit", "()Z"⟩, 48), (⟨"EggTownModel", "readsNumber", "()Z"⟩, 48), (⟨"EggTownModel", "notes", "(II)V"⟩, 48), (⟨"EggTownModel", "closesSums", "(Z)V"⟩, 48), (⟨"EggTownModel", "waitTop", "()I"⟩, 48), (⟨"EggTownModel", "hasOpenSum", "(I)Z"⟩, 48), (⟨"EggTownModel", "readsCondition", "()Z"⟩, 48), (⟨"EggTownModel", "readsCompared", "()Z"⟩, 48), (⟨"EggTownModel", "endsPiece", "()V"⟩, 48), (⟨"EggTownModel", "lands", "(Z)V"⟩, 48), (⟨"EggTownModel", "jumps", "(I)V"⟩, 48)]
theorem lw_r3 : ∀ q ∈ lw_privs_3, lw_okq q := List.forall_mem_cons.mpr ⟨lw_p32, List.forall_mem_cons.mpr ⟨lw_p33, List.forall_mem_cons.mpr ⟨lw_p34, List.forall_mem_cons.mpr ⟨lw_p35, List.forall_mem_cons.mpr ⟨lw_p36, List.forall_mem_cons.mpr ⟨lw_p37, List.forall_mem_cons.mpr ⟨lw_p38, List.forall_mem_cons.mpr ⟨lw_p39, List.forall_mem_cons.mpr ⟨lw_p40, List.forall_mem_cons.mpr ⟨lw_p41, List.forall_mem_cons.mpr ⟨lw_p42, List.forall_mem_cons.mpr ⟨lw_p43, List.forall_mem_cons.mpr ⟨lw_p44, List.forall_mem_cons.mpr ⟨lw_p45, List.forall_mem_cons.mpr ⟨lw_p46, List.forall_mem_cons.mpr ⟨lw_p47, fun _ h => absurd h List.not_mem_nil⟩⟩⟩⟩⟩⟩⟩⟩⟩⟩⟩⟩⟩⟩⟩⟩
theorem lw_p48 : lw_okq (⟨"EggTownModel", "takes", "(I)Z"⟩, 48) := ⟨⟨by decide +kernel, by decide +kernel⟩, List.mem_of_getElem? (i := 1113) (by decide +kernel), List.mem_of_getElem? (i := 1392) (by decide +kernel), List.mem_of_getElem? (i := 1393) (by decide +kernel)⟩
theorem lw_p49 : lw_okq (⟨"EggTownModel", "readsLines", "(I)Z"⟩, 48) := ⟨⟨by decide +kernel, by decide +kernel⟩, List.mem_of_getElem? (i := 1113) (by decide +kernel), List.mem_of_getElem? (i := 1400) (by decide +kernel), List.mem_of_getElem? (i := 1401) (by decide +kernel)⟩
theorem lw_p50 : lw_okq (⟨"EggTownModel", "readsLine", "()Z"⟩, 48) := ⟨⟨by decide +kernel, by decide +kernel⟩, List.mem_of_getElem? (i := 1113) (by decide +kernel), List.mem_of_getElem? (i := 1404) (by decide +kernel), List.mem_of_getElem? (i := 1405) (by decide +kernel)⟩
theorem lw_p51 : lw_okq (⟨"EggTownModel", "readsEggs", "()I"⟩, 48) := ⟨⟨by decide +kernel, by decide +kernel⟩, List.mem_of_getElem? (i := 1113) (by decide +kernel), List.mem_of_getElem? (i := 1408) (by decide +kernel), List.mem_of_getElem? (i := 1409) (by decide +kernel)⟩
theorem lw_p52 : lw_okq (⟨"EggTownModel", "readsEgg", "(I)Z"⟩, 48) := ⟨⟨by decide +kernel, by decide +kernel⟩, List.mem_of_getElem? (i := 1113) (by decide +kernel), List.mem_of_getElem? (i := 1412) (by decide +kernel), List.mem_of_getElem? (i := 1413) (by decide +kernel)⟩
theorem lw_p53 : lw_okq (⟨"EggTownModel", "isInHandful", "(II)Z"⟩, 48) := ⟨⟨by decide +kernel, by decide +kernel⟩, List.mem_of_getElem? (i := 1113) (by decide +kernel), List.mem_of_getElem? (i := 1416) (by decide +kernel), List.mem_of_getElem? (i := 1417) (by decide +kernel)⟩
theorem lw_p54 : lw_okq (⟨"EggTownModel", "does", "(I)Z"⟩, 48) := ⟨⟨by decide +kernel, by decide +kernel⟩, List.mem_of_getElem? (i := 1113) (by decide +kernel), List.mem_of_getElem? (i := 1420) (by decide +kernel), List.mem_of_getElem? (i := 1421) (by decide +kernel)⟩
theorem lw_p55 : lw_okq (⟨"EggTownModel", "canBe", "(I)Z"⟩, 48) := ⟨⟨by decide +kernel, by decide +kernel⟩, List.mem_of_getElem? (i := 1113) (by decide +kernel), List.mem_of_getElem? (i := 1424) (by decide +kernel), List.mem_of_getElem? (i := 1425) (by decide +kernel)⟩
theorem lw_p56 : lw_okq (⟨"EggTownModel", "isWork", "(I)Z"⟩, 48) := ⟨⟨by decide +kernel, by decide +kernel⟩, List.mem_of_getElem? (i := 1113) (by decide +kernel), List.mem_of_getElem? (i := 1428) (by decide +kernel), List.mem_of_getElem? (i := 1429) (by decide +kernel)⟩
theorem lw_p57 : lw_okq (⟨"EggTownModel", "isDone", "(I)Z"⟩, 48) := ⟨⟨by decide +kernel, by decide +kernel⟩, List.mem_of_getElem? (i := 1113) (by decide +kernel), List.mem_of_getElem? (i := 1432) (by decide +kernel), List.mem_of_getElem? (i := 1433) (by decide +kernel)⟩
theorem lw_p58 : lw_okq (⟨"EggTownModel", "isWhole", "(I)Z"⟩, 48) := ⟨⟨by decide +kernel, by decide +kernel⟩, List.mem_of_getElem? (i := 1113) (by decide +kernel), List.mem_of_getElem? (i := 1436) (by decide +kernel), List.mem_of_getElem? (i := 1437) (by decide +kernel)⟩
theorem lw_p59 : lw_okq (⟨"EggTownModel", "isEgg", "(I)Z"⟩, 48) := ⟨⟨by decide +kernel, by decide +kernel⟩, List.mem_of_getElem? (i := 1113) (by decide +kernel), List.mem_of_getElem? (i := 1440) (by decide +kernel), List.mem_of_getElem? (i := 1441) (by decide +kernel)⟩
theorem lw_p60 : lw_okq (⟨"EggTownModel", "gives", "(II)V"⟩, 48) := ⟨⟨by decide +kernel, by decide +kernel⟩, List.mem_of_getElem? (i := 1113) (by decide +kernel), List.mem_of_getElem? (i := 1444) (by decide +kernel), List.mem_of_getElem? (i := 1445) (by decide +kernel)⟩
theorem lw_p61 : lw_okq (⟨"EggTownModel", "worksBy", "(II)V"⟩, 48) := ⟨⟨by decide +kernel, by decide +kernel⟩, List.mem_of_getElem? (i := 1113) (by decide +kernel), List.mem_of_getElem? (i := 1448) (by decide +kernel), List.mem_of_getElem? (i := 1449) (by decide +kernel)⟩
theorem lw_p62 : lw_okq (⟨"EggTownModel", "worthFor", "(II)I"⟩, 48) := ⟨⟨by decide +kernel, by decide +kernel⟩, List.mem_of_getElem? (i := 1113) (by decide +kernel), List.mem_of_getElem? (i := 1452) (by decide +kernel), List.mem_of_getElem? (i := 1453) (by decide +kernel)⟩
theorem lw_p63 : lw_okq (⟨"EggTownModel", "feelsEgg", "(I)V"⟩, 48) := ⟨⟨by decide +kernel, by decide +kernel⟩, List.mem_of_getElem? (i := 1113) (by decide +kernel), List.mem_of_getElem? (i := 1456) (by decide +kernel), List.mem_of_getElem? (i := 1457) (by decide +kernel)⟩
def lw_privs_4 : List (MethodName × Nat) := [(⟨"EggTownModel", "takes", "(I)Z"⟩, 48), (⟨"EggTownModel", "readsLines", "(I)Z"⟩, 48), (⟨"EggTownModel", "readsLine", "()Z"⟩, 48), (⟨"EggTownModel", "readsEggs", "()I"⟩, 48), (⟨"EggTownModel", "readsEgg", "(I)Z"⟩, 48), (⟨"EggTownModel", "isInHandful", "(II)Z"⟩, 48), (⟨"EggTownModel", "does", "(I)Z"⟩, 48), (⟨"EggTownModel", "canBe", "(I)Z"⟩, 48), (⟨"EggTownModel", "isWork", "(I)Z"⟩, 48), (⟨"EggTownModel", "isDone", "(I)Z"⟩, 48), (⟨"EggTownModel", "isWhole", "(I)Z"⟩, 48), (⟨"EggTownModel", "isEgg", "(I)Z"⟩, 48), (⟨"EggTownModel", "gives", "(II)V"⟩, 48), (⟨"EggTownModel", "worksBy", "(II)V"⟩, 48), (⟨"EggTownModel", "worthFor", "(II)I"⟩, 48), (⟨"EggTownModel", "feelsEgg", "(I)V"⟩, 48)]
theorem lw_r4 : ∀ q ∈ lw_privs_4, lw_okq q := List.forall_mem_cons.mpr ⟨lw_p48, List.forall_mem_cons.mpr ⟨lw_p49, List.forall_mem_cons.mpr ⟨lw_p50, List.forall_mem_cons.mpr ⟨lw_p51, List.forall_mem_cons.mpr ⟨lw_p52, List.forall_mem_cons.mpr ⟨lw_p53, List.forall_mem_cons.mpr ⟨lw_p54, List.forall_mem_cons.mpr ⟨lw_p55, List.forall_mem_cons.mpr ⟨lw_p56, List.forall_mem_cons.mpr ⟨lw_p57, List.forall_mem_cons.mpr ⟨lw_p58, List.forall_mem_cons.mpr ⟨lw_p59, List.forall_mem_cons.mpr ⟨lw_p60, List.forall_mem_cons.mpr ⟨lw_p61, List.forall_mem_cons.mpr ⟨lw_p62, List.forall_mem_cons.mpr ⟨lw_p63, fun _ h => absurd h List.not_mem_nil⟩⟩⟩⟩⟩⟩⟩⟩⟩⟩⟩⟩⟩⟩⟩⟩
theorem lw_p64 : lw_okq (⟨"EggTownModel", "feels", "()V"⟩, 48) := ⟨⟨by decide +kernel, by decide +kernel⟩, List.mem_of_getElem? (i := 1113) (by decide +kernel), List.mem_of_getElem? (i := 1460) (by decide +kernel), List.mem_of_getElem? (i := 1461) (by decide +kernel)⟩
theorem lw_p65 : lw_okq (⟨"EggTownModel", "byLaw", "(II)I"⟩, 48) := ⟨⟨by decide +kernel, by decide +kernel⟩, List.mem_of_getElem? (i := 1113) (by decide +kernel), List.mem_of_getElem? (i := 1464) (by decide +kernel), List.mem_of_getElem? (i := 1465) (by decide +kernel)⟩
theorem lw_p66 : lw_okq (⟨"EggTownModel", "comesTo", "(II)I"⟩, 48) := ⟨⟨by decide +kernel, by decide +kernel⟩, List.mem_of_getElem? (i := 1113) (by decide +kernel), List.mem_of_getElem? (i := 1468) (by decide +kernel), List.mem_of_getElem? (i := 1469) (by decide +kernel)⟩
theorem lw_p67 : lw_okq (⟨"EggTownModel", "breaks", "(I)V"⟩, 48) := ⟨⟨by decide +kernel, by decide +kernel⟩, List.mem_of_getElem? (i := 1113) (by decide +kernel), List.mem_of_getElem? (i := 1475) (by decide +kernel), List.mem_of_getElem? (i := 1476) (by decide +kernel)⟩
theorem lw_p68 : lw_okq (⟨"EggTownModel", "broods", "(I)V"⟩, 48) := ⟨⟨by decide +kernel, by decide +kernel⟩, List.mem_of_getElem? (i := 1113) (by decide +kernel), List.mem_of_getElem? (i := 1483) (by decide +kernel), List.mem_of_getElem? (i := 1484) (by decide +kernel)⟩
theorem lw_p69 : lw_okq (⟨"EggTownModel", "daysGo", "(I)V"⟩, 48) := ⟨⟨by decide +kernel, by decide +kernel⟩, List.mem_of_getElem? (i := 1113) (by decide +kernel), List.mem_of_getElem? (i := 1498) (by decide +kernel), List.mem_of_getElem? (i := 1499) (by decide +kernel)⟩
theorem lw_p70 : lw_okq (⟨"EggTownModel", "dayGoes", "()V"⟩, 48) := ⟨⟨by decide +kernel, by decide +kernel⟩, List.mem_of_getElem? (i := 1113) (by decide +kernel), List.mem_of_getElem? (i := 1502) (by decide +kernel), List.mem_of_getElem? (i := 1503) (by decide +kernel)⟩
theorem lw_p71 : lw_okq (⟨"EggTownModel", "draws", "()I"⟩, 48) := ⟨⟨by decide +kernel, by decide +kernel⟩, List.mem_of_getElem? (i := 1113) (by decide +kernel), List.mem_of_getElem? (i := 1506) (by decide +kernel), List.mem_of_getElem? (i := 1507) (by decide +kernel)⟩
theorem lw_p72 : lw_okq (⟨"EggTownModel", "feelsHen", "(II)V"⟩, 48) := ⟨⟨by decide +kernel, by decide +kernel⟩, List.mem_of_getElem? (i := 1113) (by decide +kernel), List.mem_of_getElem? (i := 1511) (by decide +kernel), List.mem_of_getElem? (i := 1512) (by decide +kernel)⟩
theorem lw_p73 : lw_okq (⟨"EggTownModel", "lays", "(I)V"⟩, 48) := ⟨⟨by decide +kernel, by decide +kernel⟩, List.mem_of_getElem? (i := 1113) (by decide +kernel), List.mem_of_getElem? (i := 1515) (by decide +kernel), List.mem_of_getElem? (i := 1516) (by decide +kernel)⟩
theorem lw_p74 : lw_okq (⟨"EggTownModel", "badBehind", "(I)I"⟩, 48) := ⟨⟨by decide +kernel, by decide +kernel⟩, List.mem_of_getElem? (i := 1113) (by decide +kernel), List.mem_of_getElem? (i := 1519) (by decide +kernel), List.mem_of_getElem? (i := 1520) (by decide +kernel)⟩
theorem lw_p75 : lw_okq (⟨"EggTownModel", "howMany", "(I)I"⟩, 48) := ⟨⟨by decide +kernel, by decide +kernel⟩, List.mem_of_getElem? (i := 1113) (by decide +kernel), List.mem_of_getElem? (i := 1527) (by decide +kernel), List.mem_of_getElem? (i := 1528) (by decide +kernel)⟩
theorem lw_p76 : lw_okq (⟨"EggTownModel", "badOn", "(I)I"⟩, 48) := ⟨⟨by decide +kernel, by decide +kernel⟩, List.mem_of_getElem? (i := 1113) (by decide +kernel), List.mem_of_getElem? (i := 1535) (by decide +kernel), List.mem_of_getElem? (i := 1536) (by decide +kernel)⟩
theorem lw_p77 : lw_okq (⟨"EggTownModel", "eggsOf", "(IZ)I"⟩, 48) := ⟨⟨by decide +kernel, by decide +kernel⟩, List.mem_of_getElem? (i := 1113) (by decide +kernel), List.mem_of_getElem? (i := 1544) (by decide +kernel), List.mem_of_getElem? (i := 1545) (by decide +kernel)⟩
theorem lw_p78 : lw_okq (⟨"EggTownModel", "hensOf", "(I)I"⟩, 48) := ⟨⟨by decide +kernel, by decide +kernel⟩, List.mem_of_getElem? (i := 1113) (by decide +kernel), List.mem_of_getElem? (i := 1548) (by decide +kernel), List.mem_of_getElem? (i := 1549) (by decide +kernel)⟩
theorem lw_p79 : lw_okq (⟨"EggTownModel", "laysOwn", "(II)V"⟩, 48) := ⟨⟨by decide +kernel, by decide +kernel⟩, List.mem_of_getElem? (i := 1113) (by decide +kernel), List.mem_of_getElem? (i := 1563) (by decide +kernel), List.mem_of_getElem? (i := 1564) (by decide +kernel)⟩
def lw_privs_5 : List (MethodName × Nat) := [(⟨"EggTownModel", "feels", "()V"⟩, 48), (⟨"EggTownModel", "byLaw", "(II)I"⟩, 48), (⟨"EggTownModel", "comesTo", "(II)I"⟩, 48), (⟨"EggTownModel", "breaks", "(I)V"⟩, 48), (⟨"EggTownModel", "broods", "(I)V"⟩, 48), (⟨"EggTownModel", "daysGo", "(I)V"⟩, 48), (⟨"EggTownModel", "dayGoes", "()V"⟩, 48), (⟨"EggTownModel", "draws", "()I"⟩, 48), (⟨"EggTownModel", "feelsHen", "(II)V"⟩, 48), (⟨"EggTownModel", "lays", "(I)V"⟩, 48), (⟨"EggTownModel", "badBehind", "(I)I"⟩, 48), (⟨"EggTownModel", "howMany", "(I)I"⟩, 48), (⟨"EggTownModel", "badOn", "(I)I"⟩, 48), (⟨"EggTownModel", "eggsOf", "(IZ)I"⟩, 48), (⟨"EggTownModel", "hensOf", "(I)I"⟩, 48), (⟨"EggTownModel", "laysOwn", "(II)V"⟩, 48)]
theorem lw_r5 : ∀ q ∈ lw_privs_5, lw_okq q := List.forall_mem_cons.mpr ⟨lw_p64, List.forall_mem_cons.mpr ⟨lw_p65, List.forall_mem_cons.mpr ⟨lw_p66, List.forall_mem_cons.mpr ⟨lw_p67, List.forall_mem_cons.mpr ⟨lw_p68, List.forall_mem_cons.mpr ⟨lw_p69, List.forall_mem_cons.mpr ⟨lw_p70, List.forall_mem_cons.mpr ⟨lw_p71, List.forall_mem_cons.mpr ⟨lw_p72, List.forall_mem_cons.mpr ⟨lw_p73, List.forall_mem_cons.mpr ⟨lw_p74, List.forall_mem_cons.mpr ⟨lw_p75, List.forall_mem_cons.mpr ⟨lw_p76, List.forall_mem_cons.mpr ⟨lw_p77, List.forall_mem_cons.mpr ⟨lw_p78, List.forall_mem_cons.mpr ⟨lw_p79, fun _ h => absurd h List.not_mem_nil⟩⟩⟩⟩⟩⟩⟩⟩⟩⟩⟩⟩⟩⟩⟩⟩
theorem lw_p80 : lw_okq (⟨"EggTownModel", "laysPlan", "(I)V"⟩, 48) := ⟨⟨by decide +kernel, by decide +kernel⟩, List.mem_of_getElem? (i := 1113) (by decide +kernel), List.mem_of_getElem? (i := 1567) (by decide +kernel), List.mem_of_getElem? (i := 1568) (by decide +kernel)⟩
theorem lw_p81 : lw_okq (⟨"EggTownModel", "laysSums", "(I)V"⟩, 48) := ⟨⟨by decide +kernel, by decide +kernel⟩, List.mem_of_getElem? (i := 1113) (by decide +kernel), List.mem_of_getElem? (i := 1571) (by decide +kernel), List.mem_of_getElem? (i := 1572) (by decide +kernel)⟩
theorem lw_p82 : lw_okq (⟨"EggTownModel", "planBy", "(III)I"⟩, 48) := ⟨⟨by decide +kernel, by decide +kernel⟩, List.mem_of_getElem? (i := 1113) (by decide +kernel), List.mem_of_getElem? (i := 1575) (by decide +kernel), List.mem_of_getElem? (i := 1576) (by decide +kernel)⟩
theorem lw_p83 : lw_okq (⟨"EggTownModel", "planSet", "(I)I"⟩, 48) := ⟨⟨by decide +kernel, by decide +kernel⟩, List.mem_of_getElem? (i := 1113) (by decide +kernel), List.mem_of_getElem? (i := 1582) (by decide +kernel), List.mem_of_getElem? (i := 1583) (by decide +kernel)⟩
theorem lw_p84 : lw_okq (⟨"EggTownModel", "heaviest", "(II)I"⟩, 48) := ⟨⟨by decide +kernel, by decide +kernel⟩, List.mem_of_getElem? (i := 1113) (by decide +kernel), List.mem_of_getElem? (i := 1590) (by decide +kernel), List.mem_of_getElem? (i := 1591) (by decide +kernel)⟩
theorem lw_p85 : lw_okq (⟨"EggTownModel", "hoursBy", "(III)I"⟩, 48) := ⟨⟨by decide +kernel, by decide +kernel⟩, List.mem_of_getElem? (i := 1113) (by decide +kernel), List.mem_of_getElem? (i := 1598) (by decide +kernel), List.mem_of_getElem? (i := 1599) (by decide +kernel)⟩
theorem lw_p86 : lw_okq (⟨"EggTownModel", "areEggs", "(II)Z"⟩, 48) := ⟨⟨by decide +kernel, by decide +kernel⟩, List.mem_of_getElem? (i := 1113) (by decide +kernel), List.mem_of_getElem? (i := 1606) (by decide +kernel), List.mem_of_getElem? (i := 1607) (by decide +kernel)⟩
theorem lw_p87 : lw_okq (⟨"EggTownModel", "leastOf", "(III)I"⟩, 48) := ⟨⟨by decide +kernel, by decide +kernel⟩, List.mem_of_getElem? (i := 1113) (by decide +kernel), List.mem_of_getElem? (i := 1610) (by decide +kernel), List.mem_of_getElem? (i := 1611) (by decide +kernel)⟩
theorem lw_p88 : lw_okq (⟨"EggTownModel", "rests", "(II)Z"⟩, 48) := ⟨⟨by decide +kernel, by decide +kernel⟩, List.mem_of_getElem? (i := 1113) (by decide +kernel), List.mem_of_getElem? (i := 1618) (by decide +kernel), List.mem_of_getElem? (i := 1619) (by decide +kernel)⟩
theorem lw_p89 : lw_okq (⟨"EggTownModel", "soldBy", "(I)I"⟩, 48) := ⟨⟨by decide +kernel, by decide +kernel⟩, List.mem_of_getElem? (i := 1113) (by decide +kernel), List.mem_of_getElem? (i := 1622) (by decide +kernel), List.mem_of_getElem? (i := 1623) (by decide +kernel)⟩
theorem lw_p90 : lw_okq (⟨"EggTownModel", "moreOf", "(I)I"⟩, 48) := ⟨⟨by decide +kernel, by decide +kernel⟩, List.mem_of_getElem? (i := 1113) (by decide +kernel), List.mem_of_getElem? (i := 1634) (by decide +kernel), List.mem_of_getElem? (i := 1635) (by decide +kernel)⟩
theorem lw_p91 : lw_okq (⟨"EggTownModel", "daysFor", "(II)I"⟩, 48) := ⟨⟨by decide +kernel, by decide +kernel⟩, List.mem_of_getElem? (i := 1113) (by decide +kernel), List.mem_of_getElem? (i := 1651) (by decide +kernel), List.mem_of_getElem? (i := 1652) (by decide +kernel)⟩
theorem lw_p92 : lw_okq (⟨"EggTownModel", "worksAll", "(II)V"⟩, 48) := ⟨⟨by decide +kernel, by decide +kernel⟩, List.mem_of_getElem? (i := 1113) (by decide +kernel), List.mem_of_getElem? (i := 1655) (by decide +kernel), List.mem_of_getElem? (i := 1656) (by decide +kernel)⟩
theorem lw_p93 : lw_okq (⟨"EggTownModel", "tapeNumber", "(I)I"⟩, 48) := ⟨⟨by decide +kernel, by decide +kernel⟩, List.mem_of_getElem? (i := 1113) (by decide +kernel), List.mem_of_getElem? (i := 1683) (by decide +kernel), List.mem_of_getElem? (i := 1684) (by decide +kernel)⟩
def lw_privs_6 : List (MethodName × Nat) := [(⟨"EggTownModel", "laysPlan", "(I)V"⟩, 48), (⟨"EggTownModel", "laysSums", "(I)V"⟩, 48), (⟨"EggTownModel", "planBy", "(III)I"⟩, 48), (⟨"EggTownModel", "planSet", "(I)I"⟩, 48), (⟨"EggTownModel", "heaviest", "(II)I"⟩, 48), (⟨"EggTownModel", "hoursBy", "(III)I"⟩, 48), (⟨"EggTownModel", "areEggs", "(II)Z"⟩, 48), (⟨"EggTownModel", "leastOf", "(III)I"⟩, 48), (⟨"EggTownModel", "rests", "(II)Z"⟩, 48), (⟨"EggTownModel", "soldBy", "(I)I"⟩, 48), (⟨"EggTownModel", "moreOf", "(I)I"⟩, 48), (⟨"EggTownModel", "daysFor", "(II)I"⟩, 48), (⟨"EggTownModel", "worksAll", "(II)V"⟩, 48), (⟨"EggTownModel", "tapeNumber", "(I)I"⟩, 48)]
theorem lw_r6 : ∀ q ∈ lw_privs_6, lw_okq q := List.forall_mem_cons.mpr ⟨lw_p80, List.forall_mem_cons.mpr ⟨lw_p81, List.forall_mem_cons.mpr ⟨lw_p82, List.forall_mem_cons.mpr ⟨lw_p83, List.forall_mem_cons.mpr ⟨lw_p84, List.forall_mem_cons.mpr ⟨lw_p85, List.forall_mem_cons.mpr ⟨lw_p86, List.forall_mem_cons.mpr ⟨lw_p87, List.forall_mem_cons.mpr ⟨lw_p88, List.forall_mem_cons.mpr ⟨lw_p89, List.forall_mem_cons.mpr ⟨lw_p90, List.forall_mem_cons.mpr ⟨lw_p91, List.forall_mem_cons.mpr ⟨lw_p92, List.forall_mem_cons.mpr ⟨lw_p93, fun _ h => absurd h List.not_mem_nil⟩⟩⟩⟩⟩⟩⟩⟩⟩⟩⟩⟩⟩⟩
def lw_privs : List (MethodName × Nat) := lw_privs_1 ++ (lw_privs_2 ++ (lw_privs_3 ++ (lw_privs_4 ++ (lw_privs_5 ++ (lw_privs_6)))))
def lw_tbl : List Cond := k2_sels lw_privs ++ tables_1
theorem lw_privs_ok : ∀ q ∈ lw_privs, lw_okq q := by
  show ∀ q ∈ lw_privs_1 ++ (lw_privs_2 ++ (lw_privs_3 ++ (lw_privs_4 ++ (lw_privs_5 ++ (lw_privs_6))))), lw_okq q
  exact List.forall_mem_append.mpr ⟨lw_r1, List.forall_mem_append.mpr ⟨lw_r2, List.forall_mem_append.mpr ⟨lw_r3, List.forall_mem_append.mpr ⟨lw_r4, List.forall_mem_append.mpr ⟨lw_r5, lw_r6⟩⟩⟩⟩⟩
-- ===== end of PART A; then your names; then what follows =====
end
section
def RX0 : String := "EggTown$Acts"
def TX0 : u_T := fun k => match k with
  | 0 => ("EggTown$Acts", "size", "I", false)
  | 1 => ("EggTown$Acts", "signs", "[I", true)
  | 2 => ("EggTown$Acts", "targets", "[I", true)
  | 3 => ("EggTown$Acts", "starts", "[I", true)
  | 4 => ("EggTown$Acts", "eggs", "[I", true)
  | _ => ("EggTown$Acts", "told", "I", false)
def tyX0 : Nat → FieldType := fun k => match k with
  | 0 => .int
  | 1 => .array .int
  | 2 => .array .int
  | 3 => .array .int
  | 4 => .array .int
  | _ => .int
abbrev wsX00 : List Cond := u_ws RX0 TX0 6
theorem nmX0 : ∀ a, a < 6 → ∀ b, b < 6 → a ≠ b → (TX0 a).2.1 ≠ (TX0 b).2.1 := by decide +kernel
theorem tyX0_ok : ∀ k, k < 6 → parseFieldDescriptor (TX0 k).2.2.1 = some (tyX0 k) := by decide +kernel
abbrev cX0_init : ByteArray := prog_2_method_1_code
def yX0_init : MethodName := ⟨RX0, "<init>", "()V"⟩
abbrev cX0_read : ByteArray := prog_2_method_2_code
def yX0_read : MethodName := ⟨RX0, "read", "(LEggTown$Tape;)Z"⟩
abbrev cX0_line : ByteArray := prog_2_method_3_code
def yX0_line : MethodName := ⟨RX0, "line", "(LEggTown$Tape;I)Z"⟩
abbrev cX0_someEggs : ByteArray := prog_2_method_4_code
def yX0_someEggs : MethodName := ⟨RX0, "someEggs", "(LEggTown$Tape;)Z"⟩
abbrev cX0_oneEgg : ByteArray := prog_2_method_5_code
def yX0_oneEgg : MethodName := ⟨RX0, "oneEgg", "(LEggTown$Tape;I)Z"⟩
abbrev cX0_whatIsDone : ByteArray := prog_2_method_6_code
def yX0_whatIsDone : MethodName := ⟨RX0, "whatIsDone", "(LEggTown$Tape;I)Z"⟩
abbrev cX0_canBe : ByteArray := prog_2_method_7_code
def yX0_canBe : MethodName := ⟨RX0, "canBe", "(ILEggTown$Town;)Z"⟩
abbrev cX0_carryOut : ByteArray := prog_2_method_8_code
def yX0_carryOut : MethodName := ⟨RX0, "carryOut", "(ILEggTown$Town;LEggTown$Law;)V"⟩
def RX1 : String := "EggTown$Eggs"
def TX1 : u_T := fun k => match k with
  | 0 => ("EggTown$Eggs", "size", "I", false)
  | 1 => ("EggTown$Eggs", "minutes", "[I", true)
  | 2 => ("EggTown$Eggs", "laidOn", "[I", true)
  | 3 => ("EggTown$Eggs", "layer", "[I", true)
  | 4 => ("EggTown$Eggs", "owner", "[I", true)
  | 5 => ("EggTown$Eggs", "brooded", "[I", true)
  | _ => ("EggTown$Eggs", "state", "[I", true)
def tyX1 : Nat → FieldType := fun k => match k with
  | 0 => .int
  | 1 => .array .int
  | 2 => .array .int
  | 3 => .array .int
  | 4 => .array .int
  | 5 => .array .int
  | _ => .array .int
abbrev wsX10 : List Cond := u_ws RX1 TX1 7
theorem nmX1 : ∀ a, a < 7 → ∀ b, b < 7 → a ≠ b → (TX1 a).2.1 ≠ (TX1 b).2.1 := by decide +kernel
theorem tyX1_ok : ∀ k, k < 7 → parseFieldDescriptor (TX1 k).2.2.1 = some (tyX1 k) := by decide +kernel
abbrev cX1_init : ByteArray := prog_3_method_1_code
def yX1_init : MethodName := ⟨RX1, "<init>", "()V"⟩
abbrev cX1_isLaid : ByteArray := prog_3_method_2_code
def yX1_isLaid : MethodName := ⟨RX1, "isLaid", "(I)Z"⟩
abbrev cX1_isWhole : ByteArray := prog_3_method_3_code
def yX1_isWhole : MethodName := ⟨RX1, "isWhole", "(I)Z"⟩
abbrev cX1_isWholeOf : ByteArray := prog_3_method_4_code
def yX1_isWholeOf : MethodName := ⟨RX1, "isWholeOf", "(II)Z"⟩
abbrev cX1_minutesAt : ByteArray := prog_3_method_5_code
def yX1_minutesAt : MethodName := ⟨RX1, "minutesAt", "(I)I"⟩
abbrev cX1_howMany : ByteArray := prog_3_method_6_code
def yX1_howMany : MethodName := ⟨RX1, "howMany", "(I)I"⟩
abbrev cX1_minutesOf : ByteArray := prog_3_method_7_code
def yX1_minutesOf : MethodName := ⟨RX1, "minutesOf", "(I)I"⟩
abbrev cX1_wholeOf : ByteArray := prog_3_method_8_code
def yX1_wholeOf : MethodName := ⟨RX1, "wholeOf", "(I[II)I"⟩
abbrev cX1_lay : ByteArray := prog_3_method_9_code
def yX1_lay : MethodName := ⟨RX1, "lay", "(IIII)V"⟩
abbrev cX1_sweepOut : ByteArray := prog_3_method_10_code
def yX1_sweepOut : MethodName := ⟨RX1, "sweepOut", "()I"⟩
abbrev cX1_copyFrom : ByteArray := prog_3_method_11_code
def yX1_copyFrom : MethodName := ⟨RX1, "copyFrom", "(LEggTown$Eggs;)V"⟩
def RX2 : String := "EggTown$Hens"
def TX2 : u_T := fun k => match k with
  | 0 => ("EggTown$Hens", "told", "I", false)
  | 1 => ("EggTown$Hens", "kind", "[I", true)
  | _ => ("EggTown$Hens", "owner", "[I", true)
def tyX2 : Nat → FieldType := fun k => match k with
  | 0 => .int
  | 1 => .array .int
  | _ => .array .int
abbrev wsX20 : List Cond := u_ws RX2 TX2 3
theorem nmX2 : ∀ a, a < 3 → ∀ b, b < 3 → a ≠ b → (TX2 a).2.1 ≠ (TX2 b).2.1 := by decide +kernel
theorem tyX2_ok : ∀ k, k < 3 → parseFieldDescriptor (TX2 k).2.2.1 = some (tyX2 k) := by decide +kernel
abbrev cX2_init : ByteArray := prog_4_method_1_code
def yX2_init : MethodName := ⟨RX2, "<init>", "()V"⟩
abbrev cX2_isTold : ByteArray := prog_4_method_2_code
def yX2_isTold : MethodName := ⟨RX2, "isTold", "(I)Z"⟩
abbrev cX2_tell : ByteArray := prog_4_method_3_code
def yX2_tell : MethodName := ⟨RX2, "tell", "(III)V"⟩
abbrev cX2_howManyOf : ByteArray := prog_4_method_4_code
def yX2_howManyOf : MethodName := ⟨RX2, "howManyOf", "(I)I"⟩
abbrev cX2_copyFrom : ByteArray := prog_4_method_5_code
def yX2_copyFrom : MethodName := ⟨RX2, "copyFrom", "(LEggTown$Hens;)V"⟩
def RX3 : String := "EggTown$Law"
def TX3 : u_T := fun k => match k with
  | 0 => ("EggTown$Law", "clauses", "I", false)
  | 1 => ("EggTown$Law", "letter", "[I", true)
  | 2 => ("EggTown$Law", "valueAt", "[I", true)
  | 3 => ("EggTown$Law", "conditionAt", "[I", true)
  | 4 => ("EggTown$Law", "endAt", "[I", true)
  | 5 => ("EggTown$Law", "size", "I", false)
  | 6 => ("EggTown$Law", "code", "[I", true)
  | 7 => ("EggTown$Law", "told", "[I", true)
  | 8 => ("EggTown$Law", "stack", "[I", true)
  | _ => ("EggTown$Law", "top", "I", false)
def tyX3 : Nat → FieldType := fun k => match k with
  | 0 => .int
  | 1 => .array .int
  | 2 => .array .int
  | 3 => .array .int
  | 4 => .array .int
  | 5 => .int
  | 6 => .array .int
  | 7 => .array .int
  | 8 => .array .int
  | _ => .int
abbrev wsX30 : List Cond := u_ws RX3 TX3 10
theorem nmX3 : ∀ a, a < 10 → ∀ b, b < 10 → a ≠ b → (TX3 a).2.1 ≠ (TX3 b).2.1 := by decide +kernel
theorem tyX3_ok : ∀ k, k < 10 → parseFieldDescriptor (TX3 k).2.2.1 = some (tyX3 k) := by decide +kernel
abbrev cX3_init : ByteArray := prog_5_method_1_code
def yX3_init : MethodName := ⟨RX3, "<init>", "()V"⟩
abbrev cX3_emit : ByteArray := prog_5_method_2_code
def yX3_emit : MethodName := ⟨RX3, "emit", "(II)V"⟩
abbrev cX3_aim : ByteArray := prog_5_method_3_code
def yX3_aim : MethodName := ⟨RX3, "aim", "(I)V"⟩
abbrev cX3_ofHen : ByteArray := prog_5_method_4_code
def yX3_ofHen : MethodName := ⟨RX3, "ofHen", "(ILEggTown$Town;II)I"⟩
abbrev cX3_ofEgg : ByteArray := prog_5_method_5_code
def yX3_ofEgg : MethodName := ⟨RX3, "ofEgg", "(ILEggTown$Town;II)I"⟩
abbrev cX3_ofSellers : ByteArray := prog_5_method_6_code
def yX3_ofSellers : MethodName := ⟨RX3, "ofSellers", "(LEggTown$Town;I)I"⟩
abbrev cX3_start : ByteArray := prog_5_method_7_code
def yX3_start : MethodName := ⟨RX3, "start", "(LEggTown$Town;I)V"⟩
abbrev cX3_ask : ByteArray := prog_5_method_8_code
def yX3_ask : MethodName := ⟨RX3, "ask", "(I)I"⟩
abbrev cX3_run : ByteArray := prog_5_method_9_code
def yX3_run : MethodName := ⟨RX3, "run", "(II)I"⟩
abbrev cX3_push : ByteArray := prog_5_method_10_code
def yX3_push : MethodName := ⟨RX3, "push", "(I)V"⟩
abbrev cX3_pop : ByteArray := prog_5_method_11_code
def yX3_pop : MethodName := ⟨RX3, "pop", "()I"⟩
abbrev cX3_reckon : ByteArray := prog_5_method_12_code
def yX3_reckon : MethodName := ⟨RX3, "reckon", "(III)I"⟩
def RX4 : String := "EggTown$LawReader"
def TX4 : u_T := fun k => match k with
  | _ => ("", "", "", false)
def tyX4 : Nat → FieldType := fun k => match k with
  | _ => .int
abbrev wsX40 : List Cond := u_ws RX4 TX4 0
theorem nmX4 : ∀ a, a < 0 → ∀ b, b < 0 → a ≠ b → (TX4 a).2.1 ≠ (TX4 b).2.1 := by decide +kernel
theorem tyX4_ok : ∀ k, k < 0 → parseFieldDescriptor (TX4 k).2.2.1 = some (tyX4 k) := by decide +kernel
abbrev cX4_read : ByteArray := prog_6_method_2_code
def yX4_read : MethodName := ⟨RX4, "read", "(LEggTown$Tape;LEggTown$Law;)Z"⟩
abbrev cX4_clause : ByteArray := prog_6_method_3_code
def yX4_clause : MethodName := ⟨RX4, "clause", "(LEggTown$Tape;LEggTown$Law;I)Z"⟩
abbrev cX4_condition : ByteArray := prog_6_method_4_code
def yX4_condition : MethodName := ⟨RX4, "condition", "(LEggTown$Tape;LEggTown$Law;I)Z"⟩
abbrev cX4_piece : ByteArray := prog_6_method_5_code
def yX4_piece : MethodName := ⟨RX4, "piece", "(LEggTown$Tape;LEggTown$Law;I)Z"⟩
abbrev cX4_comparison : ByteArray := prog_6_method_6_code
def yX4_comparison : MethodName := ⟨RX4, "comparison", "(LEggTown$Tape;LEggTown$Law;I)Z"⟩
abbrev cX4_sum : ByteArray := prog_6_method_7_code
def yX4_sum : MethodName := ⟨RX4, "sum", "(LEggTown$Tape;LEggTown$Law;I)Z"⟩
abbrev cX4_factor : ByteArray := prog_6_method_8_code
def yX4_factor : MethodName := ⟨RX4, "factor", "(LEggTown$Tape;LEggTown$Law;I)Z"⟩
abbrev cX4_number : ByteArray := prog_6_method_9_code
def yX4_number : MethodName := ⟨RX4, "number", "(LEggTown$Tape;LEggTown$Law;)Z"⟩
abbrev cX4_placeIn : ByteArray := prog_6_method_10_code
def yX4_placeIn : MethodName := ⟨RX4, "placeIn", "(Ljava/lang/String;I)I"⟩
def RX5 : String := "EggTown$People"
def TX5 : u_T := fun k => match k with
  | 0 => ("EggTown$People", "told", "I", false)
  | 1 => ("EggTown$People", "lived", "[I", true)
  | 2 => ("EggTown$People", "laid", "[I", true)
  | 3 => ("EggTown$People", "givenTo", "[I", true)
  | _ => ("EggTown$People", "givenBy", "[I", true)
def tyX5 : Nat → FieldType := fun k => match k with
  | 0 => .int
  | 1 => .array .int
  | 2 => .array .int
  | 3 => .array .int
  | _ => .array .int
abbrev wsX50 : List Cond := u_ws RX5 TX5 5
theorem nmX5 : ∀ a, a < 5 → ∀ b, b < 5 → a ≠ b → (TX5 a).2.1 ≠ (TX5 b).2.1 := by decide +kernel
theorem tyX5_ok : ∀ k, k < 5 → parseFieldDescriptor (TX5 k).2.2.1 = some (tyX5 k) := by decide +kernel
abbrev cX5_init : ByteArray := prog_7_method_1_code
def yX5_init : MethodName := ⟨RX5, "<init>", "()V"⟩
abbrev cX5_isTold : ByteArray := prog_7_method_2_code
def yX5_isTold : MethodName := ⟨RX5, "isTold", "(I)Z"⟩
abbrev cX5_tell : ByteArray := prog_7_method_3_code
def yX5_tell : MethodName := ⟨RX5, "tell", "(I)Z"⟩
abbrev cX5_live : ByteArray := prog_7_method_4_code
def yX5_live : MethodName := ⟨RX5, "live", "(II)V"⟩
abbrev cX5_excess : ByteArray := prog_7_method_5_code
def yX5_excess : MethodName := ⟨RX5, "excess", "(I)I"⟩
abbrev cX5_copyFrom : ByteArray := prog_7_method_6_code
def yX5_copyFrom : MethodName := ⟨RX5, "copyFrom", "(LEggTown$People;)V"⟩
def RX6 : String := "EggTown$Plan"
def TX6 : u_T := fun k => match k with
  | 0 => ("EggTown$Plan", "eggs", "[I", true)
  | 1 => ("EggTown$Plan", "towards", "[I", true)
  | 2 => ("EggTown$Plan", "size", "I", false)
  | 3 => ("EggTown$Plan", "works", "I", false)
  | 4 => ("EggTown$Plan", "numbers", "[I", true)
  | 5 => ("EggTown$Plan", "worth", "[I", true)
  | 6 => ("EggTown$Plan", "fit", "[I", true)
  | 7 => ("EggTown$Plan", "fits", "[I", true)
  | 8 => ("EggTown$Plan", "fewest", "[I", true)
  | 9 => ("EggTown$Plan", "hope", "[I", true)
  | 10 => ("EggTown$Plan", "row", "[I", true)
  | 11 => ("EggTown$Plan", "bestRow", "[I", true)
  | _ => ("EggTown$Plan", "best", "I", false)
def tyX6 : Nat → FieldType := fun k => match k with
  | 0 => .array .int
  | 1 => .array .int
  | 2 => .int
  | 3 => .int
  | 4 => .array .int
  | 5 => .array .int
  | 6 => .array .int
  | 7 => .array .int
  | 8 => .array .int
  | 9 => .array .int
  | 10 => .array .int
  | 11 => .array .int
  | _ => .int
abbrev wsX60 : List Cond := u_ws RX6 TX6 13
theorem nmX6 : ∀ a, a < 13 → ∀ b, b < 13 → a ≠ b → (TX6 a).2.1 ≠ (TX6 b).2.1 := by decide +kernel
theorem tyX6_ok : ∀ k, k < 13 → parseFieldDescriptor (TX6 k).2.2.1 = some (tyX6 k) := by decide +kernel
abbrev cX6_init : ByteArray := prog_8_method_1_code
def yX6_init : MethodName := ⟨RX6, "<init>", "()V"⟩
abbrev cX6_find : ByteArray := prog_8_method_2_code
def yX6_find : MethodName := ⟨RX6, "find", "(LEggTown$Town;LEggTown$Law;II)V"⟩
abbrev cX6_findFits : ByteArray := prog_8_method_3_code
def yX6_findFits : MethodName := ⟨RX6, "findFits", "(LEggTown$Town;LEggTown$Law;I)V"⟩
abbrev cX6_isFit : ByteArray := prog_8_method_4_code
def yX6_isFit : MethodName := ⟨RX6, "isFit", "(II)Z"⟩
abbrev cX6_findHopes : ByteArray := prog_8_method_5_code
def yX6_findHopes : MethodName := ⟨RX6, "findHopes", "()V"⟩
abbrev cX6_gain : ByteArray := prog_8_method_6_code
def yX6_gain : MethodName := ⟨RX6, "gain", "(II)I"⟩
abbrev cX6_choose : ByteArray := prog_8_method_7_code
def yX6_choose : MethodName := ⟨RX6, "choose", "(III)V"⟩
abbrev cX6_bestWorth : ByteArray := prog_8_method_8_code
def yX6_bestWorth : MethodName := ⟨RX6, "bestWorth", "()I"⟩
abbrev cX6_bestEggs : ByteArray := prog_8_method_9_code
def yX6_bestEggs : MethodName := ⟨RX6, "bestEggs", "()I"⟩
abbrev cX6_rowOf : ByteArray := prog_8_method_10_code
def yX6_rowOf : MethodName := ⟨RX6, "rowOf", "(I)I"⟩
def RX7 : String := "EggTown$Sets"
def TX7 : u_T := fun k => match k with
  | 0 => ("EggTown$Sets", "found", "I", false)
  | 1 => ("EggTown$Sets", "least", "I", false)
  | 2 => ("EggTown$Sets", "fewest", "I", false)
  | 3 => ("EggTown$Sets", "minutes", "[I", true)
  | _ => ("EggTown$Sets", "size", "I", false)
def tyX7 : Nat → FieldType := fun k => match k with
  | 0 => .int
  | 1 => .int
  | 2 => .int
  | 3 => .array .int
  | _ => .int
abbrev wsX70 : List Cond := u_ws RX7 TX7 5
theorem nmX7 : ∀ a, a < 5 → ∀ b, b < 5 → a ≠ b → (TX7 a).2.1 ≠ (TX7 b).2.1 := by decide +kernel
theorem tyX7_ok : ∀ k, k < 5 → parseFieldDescriptor (TX7 k).2.2.1 = some (tyX7 k) := by decide +kernel
abbrev cX7_init : ByteArray := prog_9_method_1_code
def yX7_init : MethodName := ⟨RX7, "<init>", "()V"⟩
abbrev cX7_fill : ByteArray := prog_9_method_2_code
def yX7_fill : MethodName := ⟨RX7, "fill", "(LEggTown$Eggs;[II)I"⟩
abbrev cX7_find : ByteArray := prog_9_method_3_code
def yX7_find : MethodName := ⟨RX7, "find", "(I)V"⟩
abbrev cX7_note : ByteArray := prog_9_method_4_code
def yX7_note : MethodName := ⟨RX7, "note", "(I)V"⟩
def RX8 : String := "EggTown$Tape"
def TX8 : u_T := fun k => match k with
  | 0 => ("EggTown$Tape", "bytes", "[I", true)
  | 1 => ("EggTown$Tape", "size", "I", false)
  | 2 => ("EggTown$Tape", "end", "I", false)
  | 3 => ("EggTown$Tape", "at", "I", false)
  | _ => ("EggTown$Tape", "fault", "I", false)
def tyX8 : Nat → FieldType := fun k => match k with
  | 0 => .array .int
  | 1 => .int
  | 2 => .int
  | 3 => .int
  | _ => .int
abbrev wsX80 : List Cond := u_ws RX8 TX8 5
theorem nmX8 : ∀ a, a < 5 → ∀ b, b < 5 → a ≠ b → (TX8 a).2.1 ≠ (TX8 b).2.1 := by decide +kernel
theorem tyX8_ok : ∀ k, k < 5 → parseFieldDescriptor (TX8 k).2.2.1 = some (tyX8 k) := by decide +kernel
abbrev cX8_init : ByteArray := prog_10_method_1_code
def yX8_init : MethodName := ⟨RX8, "<init>", "()V"⟩
abbrev cX8_addWord : ByteArray := prog_10_method_2_code
def yX8_addWord : MethodName := ⟨RX8, "addWord", "(I)V"⟩
abbrev cX8_holds : ByteArray := prog_10_method_3_code
def yX8_holds : MethodName := ⟨RX8, "holds", "(IIII)Z"⟩
abbrev cX8_byteAt : ByteArray := prog_10_method_4_code
def yX8_byteAt : MethodName := ⟨RX8, "byteAt", "(I)I"⟩
abbrev cX8_pairAt : ByteArray := prog_10_method_5_code
def yX8_pairAt : MethodName := ⟨RX8, "pairAt", "(I)I"⟩
abbrev cX8_wordAt : ByteArray := prog_10_method_6_code
def yX8_wordAt : MethodName := ⟨RX8, "wordAt", "(I)I"⟩
abbrev cX8_startText : ByteArray := prog_10_method_7_code
def yX8_startText : MethodName := ⟨RX8, "startText", "(I)V"⟩
abbrev cX8_sign : ByteArray := prog_10_method_8_code
def yX8_sign : MethodName := ⟨RX8, "sign", "()I"⟩
abbrev cX8_takes : ByteArray := prog_10_method_9_code
def yX8_takes : MethodName := ⟨RX8, "takes", "(I)Z"⟩
abbrev cX8_fails : ByteArray := prog_10_method_10_code
def yX8_fails : MethodName := ⟨RX8, "fails", "(I)Z"⟩
abbrev cX8_failsAt : ByteArray := prog_10_method_11_code
def yX8_failsAt : MethodName := ⟨RX8, "failsAt", "(II)Z"⟩
abbrev cX8_faultAnswer : ByteArray := prog_10_method_12_code
def yX8_faultAnswer : MethodName := ⟨RX8, "faultAnswer", "()I"⟩
abbrev cX8_copyFrom : ByteArray := prog_10_method_13_code
def yX8_copyFrom : MethodName := ⟨RX8, "copyFrom", "(LEggTown$Tape;)V"⟩
def RX9 : String := "EggTown$Town"
def TX9 : u_T := fun k => match k with
  | 0 => ("EggTown$Town", "day", "I", false)
  | 1 => ("EggTown$Town", "x", "I", false)
  | 2 => ("EggTown$Town", "hens", "LEggTown$Hens;", true)
  | 3 => ("EggTown$Town", "people", "LEggTown$People;", true)
  | 4 => ("EggTown$Town", "eggs", "LEggTown$Eggs;", true)
  | 5 => ("EggTown$Town", "works", "LEggTown$Works;", true)
  | 6 => ("EggTown$Town", "laidEggs", "I", false)
  | 7 => ("EggTown$Town", "laidMinutes", "I", false)
  | 8 => ("EggTown$Town", "badEggs", "I", false)
  | _ => ("EggTown$Town", "strikes", "I", false)
def tyX9 : Nat → FieldType := fun k => match k with
  | 0 => .int
  | 1 => .int
  | 2 => .object "EggTown$Hens"
  | 3 => .object "EggTown$People"
  | 4 => .object "EggTown$Eggs"
  | 5 => .object "EggTown$Works"
  | 6 => .int
  | 7 => .int
  | 8 => .int
  | _ => .int
abbrev wsX90 : List Cond := u_ws RX9 TX9 10
theorem nmX9 : ∀ a, a < 10 → ∀ b, b < 10 → a ≠ b → (TX9 a).2.1 ≠ (TX9 b).2.1 := by decide +kernel
theorem tyX9_ok : ∀ k, k < 10 → parseFieldDescriptor (TX9 k).2.2.1 = some (tyX9 k) := by decide +kernel
abbrev cX9_init : ByteArray := prog_11_method_1_code
def yX9_init : MethodName := ⟨RX9, "<init>", "()V"⟩
abbrev cX9_copyFrom : ByteArray := prog_11_method_2_code
def yX9_copyFrom : MethodName := ⟨RX9, "copyFrom", "(LEggTown$Town;)V"⟩
abbrev cX9_passDays : ByteArray := prog_11_method_3_code
def yX9_passDays : MethodName := ⟨RX9, "passDays", "(ILEggTown$Law;)V"⟩
abbrev cX9_passDay : ByteArray := prog_11_method_4_code
def yX9_passDay : MethodName := ⟨RX9, "passDay", "(LEggTown$Law;)Z"⟩
abbrev cX9_canLayFor : ByteArray := prog_11_method_5_code
def yX9_canLayFor : MethodName := ⟨RX9, "canLayFor", "(I)Z"⟩
abbrev cX9_draw : ByteArray := prog_11_method_6_code
def yX9_draw : MethodName := ⟨RX9, "draw", "()I"⟩
abbrev cX9_strikeOrLay : ByteArray := prog_11_method_7_code
def yX9_strikeOrLay : MethodName := ⟨RX9, "strikeOrLay", "(ILEggTown$Law;)V"⟩
abbrev cX9_mayGoBad : ByteArray := prog_11_method_8_code
def yX9_mayGoBad : MethodName := ⟨RX9, "mayGoBad", "(ILEggTown$Law;)V"⟩
abbrev cX9_breakEgg : ByteArray := prog_11_method_9_code
def yX9_breakEgg : MethodName := ⟨RX9, "breakEgg", "(I)V"⟩
abbrev cX9_breakFor : ByteArray := prog_11_method_10_code
def yX9_breakFor : MethodName := ⟨RX9, "breakFor", "(IILEggTown$Law;)V"⟩
abbrev cX9_breakAllFor : ByteArray := prog_11_method_11_code
def yX9_breakAllFor : MethodName := ⟨RX9, "breakAllFor", "(IILEggTown$Law;)V"⟩
abbrev cX9_give : ByteArray := prog_11_method_12_code
def yX9_give : MethodName := ⟨RX9, "give", "(II)V"⟩
abbrev cX9_brood : ByteArray := prog_11_method_13_code
def yX9_brood : MethodName := ⟨RX9, "brood", "(ILEggTown$Law;)V"⟩
def RX10 : String := "EggTown$Works"
def TX10 : u_T := fun k => match k with
  | 0 => ("EggTown$Works", "told", "I", false)
  | 1 => ("EggTown$Works", "needs", "[I", true)
  | 2 => ("EggTown$Works", "done", "[I", true)
  | 3 => ("EggTown$Works", "worth", "[I", true)
  | 4 => ("EggTown$Works", "by", "[I", true)
  | _ => ("EggTown$Works", "doneOn", "[I", true)
def tyX10 : Nat → FieldType := fun k => match k with
  | 0 => .int
  | 1 => .array .int
  | 2 => .array .int
  | 3 => .array .int
  | 4 => .array .int
  | _ => .array .int
abbrev wsX100 : List Cond := u_ws RX10 TX10 6
theorem nmX10 : ∀ a, a < 6 → ∀ b, b < 6 → a ≠ b → (TX10 a).2.1 ≠ (TX10 b).2.1 := by decide +kernel
theorem tyX10_ok : ∀ k, k < 6 → parseFieldDescriptor (TX10 k).2.2.1 = some (tyX10 k) := by decide +kernel
abbrev cX10_init : ByteArray := prog_12_method_1_code
def yX10_init : MethodName := ⟨RX10, "<init>", "()V"⟩
abbrev cX10_isTold : ByteArray := prog_12_method_2_code
def yX10_isTold : MethodName := ⟨RX10, "isTold", "(I)Z"⟩
abbrev cX10_tell : ByteArray := prog_12_method_3_code
def yX10_tell : MethodName := ⟨RX10, "tell", "(IIII)V"⟩
abbrev cX10_isDone : ByteArray := prog_12_method_4_code
def yX10_isDone : MethodName := ⟨RX10, "isDone", "(I)Z"⟩
abbrev cX10_isInTime : ByteArray := prog_12_method_5_code
def yX10_isInTime : MethodName := ⟨RX10, "isInTime", "(II)Z"⟩
abbrev cX10_add : ByteArray := prog_12_method_6_code
def yX10_add : MethodName := ⟨RX10, "add", "(III)V"⟩
abbrev cX10_copyFrom : ByteArray := prog_12_method_7_code
def yX10_copyFrom : MethodName := ⟨RX10, "copyFrom", "(LEggTown$Works;)V"⟩
def RX11 : String := "EggTown"
def TX11 : u_T := fun k => match k with
  | 0 => ("EggTown", "tape", "LEggTown$Tape;", true)
  | 1 => ("EggTown", "keptTape", "LEggTown$Tape;", true)
  | 2 => ("EggTown", "now", "LEggTown$Town;", true)
  | 3 => ("EggTown", "kept", "LEggTown$Town;", true)
  | 4 => ("EggTown", "trial", "LEggTown$Town;", true)
  | 5 => ("EggTown", "hasKept", "Z", false)
  | 6 => ("EggTown", "ruling", "LEggTown$Law;", false)
  | 7 => ("EggTown", "spare", "LEggTown$Law;", false)
  | 8 => ("EggTown", "lines", "LEggTown$Acts;", true)
  | 9 => ("EggTown", "planning", "LEggTown$Plan;", true)
  | 10 => ("EggTown", "sets", "LEggTown$Sets;", true)
  | 11 => ("EggTown", "handful", "[I", true)
  | 12 => ("EggTown", "lastDays", "[I", true)
  | 13 => ("EggTown", "room", "[I", true)
  | 14 => ("EggTown", "hours", "[I", true)
  | 15 => ("EggTown", "shares", "[I", true)
  | 16 => ("EggTown", "row", "[I", true)
  | 17 => ("EggTown", "bestRow", "[I", true)
  | _ => ("EggTown", "worths", "[I", true)
def tyX11 : Nat → FieldType := fun k => match k with
  | 0 => .object "EggTown$Tape"
  | 1 => .object "EggTown$Tape"
  | 2 => .object "EggTown$Town"
  | 3 => .object "EggTown$Town"
  | 4 => .object "EggTown$Town"
  | 5 => .boolean
  | 6 => .object "EggTown$Law"
  | 7 => .object "EggTown$Law"
  | 8 => .object "EggTown$Acts"
  | 9 => .object "EggTown$Plan"
  | 10 => .object "EggTown$Sets"
  | 11 => .array .int
  | 12 => .array .int
  | 13 => .array .int
  | 14 => .array .int
  | 15 => .array .int
  | 16 => .array .int
  | 17 => .array .int
  | _ => .array .int
abbrev wsX110 : List Cond := u_ws RX11 TX11 19
theorem nmX11 : ∀ a, a < 19 → ∀ b, b < 19 → a ≠ b → (TX11 a).2.1 ≠ (TX11 b).2.1 := by decide +kernel
theorem tyX11_ok : ∀ k, k < 19 → parseFieldDescriptor (TX11 k).2.2.1 = some (tyX11 k) := by decide +kernel
abbrev cX11_init : ByteArray := prog_1_method_1_code
def yX11_init : MethodName := ⟨RX11, "<init>", "()V"⟩
abbrev cX11_person : ByteArray := prog_1_method_2_code
def yX11_person : MethodName := ⟨RX11, "person", "(I)Z"⟩
abbrev cX11_hen : ByteArray := prog_1_method_3_code
def yX11_hen : MethodName := ⟨RX11, "hen", "(III)Z"⟩
abbrev cX11_fox : ByteArray := prog_1_method_4_code
def yX11_fox : MethodName := ⟨RX11, "fox", "(I)Z"⟩
abbrev cX11_work : ByteArray := prog_1_method_5_code
def yX11_work : MethodName := ⟨RX11, "work", "(IIII)Z"⟩
abbrev cX11_clean : ByteArray := prog_1_method_6_code
def yX11_clean : MethodName := ⟨RX11, "clean", "()I"⟩
abbrev cX11_feed : ByteArray := prog_1_method_7_code
def yX11_feed : MethodName := ⟨RX11, "feed", "(IIIII)I"⟩
abbrev cX11_law : ByteArray := prog_1_method_8_code
def yX11_law : MethodName := ⟨RX11, "law", "(I)I"⟩
abbrev cX11_acts : ByteArray := prog_1_method_9_code
def yX11_acts : MethodName := ⟨RX11, "acts", "(I)I"⟩
abbrev cX11_judged : ByteArray := prog_1_method_10_code
def yX11_judged : MethodName := ⟨RX11, "judged", "(I)I"⟩
abbrev cX11_readActs : ByteArray := prog_1_method_11_code
def yX11_readActs : MethodName := ⟨RX11, "readActs", "(I)Z"⟩
abbrev cX11_days : ByteArray := prog_1_method_12_code
def yX11_days : MethodName := ⟨RX11, "days", "(I)I"⟩
abbrev cX11_tried : ByteArray := prog_1_method_13_code
def yX11_tried : MethodName := ⟨RX11, "tried", "(II)I"⟩
abbrev cX11_egg : ByteArray := prog_1_method_14_code
def yX11_egg : MethodName := ⟨RX11, "egg", "(II)I"⟩
abbrev cX11_firstBadDay : ByteArray := prog_1_method_15_code
def yX11_firstBadDay : MethodName := ⟨RX11, "firstBadDay", "(I)I"⟩
abbrev cX11_personIs : ByteArray := prog_1_method_16_code
def yX11_personIs : MethodName := ⟨RX11, "personIs", "(II)I"⟩
abbrev cX11_workIs : ByteArray := prog_1_method_17_code
def yX11_workIs : MethodName := ⟨RX11, "workIs", "(II)I"⟩
abbrev cX11_plan : ByteArray := prog_1_method_18_code
def yX11_plan : MethodName := ⟨RX11, "plan", "(III)I"⟩
abbrev cX11_before : ByteArray := prog_1_method_19_code
def yX11_before : MethodName := ⟨RX11, "before", "(III)I"⟩
abbrev cX11_mostMinutes : ByteArray := prog_1_method_20_code
def yX11_mostMinutes : MethodName := ⟨RX11, "mostMinutes", "(I)I"⟩
abbrev cX11_takesRoom : ByteArray := prog_1_method_21_code
def yX11_takesRoom : MethodName := ⟨RX11, "takesRoom", "(I)Z"⟩
abbrev cX11_flock : ByteArray := prog_1_method_22_code
def yX11_flock : MethodName := ⟨RX11, "flock", "(III)I"⟩
abbrev cX11_bestHatch : ByteArray := prog_1_method_23_code
def yX11_bestHatch : MethodName := ⟨RX11, "bestHatch", "(I)I"⟩
abbrev cX11_rations : ByteArray := prog_1_method_24_code
def yX11_rations : MethodName := ⟨RX11, "rations", "(III)I"⟩
abbrev cX11_share : ByteArray := prog_1_method_25_code
def yX11_share : MethodName := ⟨RX11, "share", "(IIII)I"⟩
abbrev cX11_tellEggs : ByteArray := prog_1_method_26_code
def yX11_tellEggs : MethodName := ⟨RX11, "tellEggs", "(II)Z"⟩
abbrev cX11_hoards : ByteArray := prog_1_method_27_code
def yX11_hoards : MethodName := ⟨RX11, "hoards", "(II)I"⟩
abbrev cX11_isSteady : ByteArray := prog_1_method_28_code
def yX11_isSteady : MethodName := ⟨RX11, "isSteady", "(II)Z"⟩
abbrev cX11_yolks : ByteArray := prog_1_method_29_code
def yX11_yolks : MethodName := ⟨RX11, "yolks", "(III)I"⟩
abbrev cX11_thefts : ByteArray := prog_1_method_30_code
def yX11_thefts : MethodName := ⟨RX11, "thefts", "(I)I"⟩
abbrev cX11_baskets : ByteArray := prog_1_method_31_code
def yX11_baskets : MethodName := ⟨RX11, "baskets", "(III)I"⟩
abbrev cX11_latest : ByteArray := prog_1_method_32_code
def yX11_latest : MethodName := ⟨RX11, "latest", "(II)I"⟩
abbrev cX11_soonest : ByteArray := prog_1_method_33_code
def yX11_soonest : MethodName := ⟨RX11, "soonest", "(II)I"⟩
abbrev cX11_daysTillDone : ByteArray := prog_1_method_34_code
def yX11_daysTillDone : MethodName := ⟨RX11, "daysTillDone", "(III)I"⟩
abbrev cX11_barter : ByteArray := prog_1_method_35_code
def yX11_barter : MethodName := ⟨RX11, "barter", "(IIIII)I"⟩
abbrev cX11_isNearer : ByteArray := prog_1_method_36_code
def yX11_isNearer : MethodName := ⟨RX11, "isNearer", "(II)Z"⟩
abbrev cX11_seed : ByteArray := prog_1_method_37_code
def yX11_seed : MethodName := ⟨RX11, "seed", "(I)Z"⟩
abbrev cX11_keep : ByteArray := prog_1_method_38_code
def yX11_keep : MethodName := ⟨RX11, "keep", "()I"⟩
abbrev cX11_undo : ByteArray := prog_1_method_39_code
def yX11_undo : MethodName := ⟨RX11, "undo", "()Z"⟩
abbrev cX11_check : ByteArray := prog_1_method_40_code
def yX11_check : MethodName := ⟨RX11, "check", "(I)I"⟩
abbrev cX11_count : ByteArray := prog_1_method_41_code
def yX11_count : MethodName := ⟨RX11, "count", "(I)I"⟩
abbrev cX11_isWithin : ByteArray := prog_1_method_42_code
def yX11_isWithin : MethodName := ⟨RX11, "isWithin", "(III)Z"⟩
abbrev cX11_isIn : ByteArray := prog_1_method_43_code
def yX11_isIn : MethodName := ⟨RX11, "isIn", "(II)Z"⟩
abbrev cX11_isDigit : ByteArray := prog_1_method_44_code
def yX11_isDigit : MethodName := ⟨RX11, "isDigit", "(I)Z"⟩
def RX12 : String := "EggTownModel"
def TX12 : u_T := fun k => match k with
  | 0 => ("EggTownModel", "now", "[I", true)
  | 1 => ("EggTownModel", "aside", "[I", true)
  | 2 => ("EggTownModel", "kept", "[I", true)
  | 3 => ("EggTownModel", "tape", "[B", true)
  | 4 => ("EggTownModel", "taped", "I", false)
  | 5 => ("EggTownModel", "place0", "I", false)
  | 6 => ("EggTownModel", "length0", "I", false)
  | 7 => ("EggTownModel", "fault", "I", false)
  | 8 => ("EggTownModel", "number0", "I", false)
  | 9 => ("EggTownModel", "open", "I", false)
  | 10 => ("EggTownModel", "codeMany", "I", false)
  | 11 => ("EggTownModel", "waiting", "I", false)
  | 12 => ("EggTownModel", "saidMany", "I", false)
  | 13 => ("EggTownModel", "clauses", "I", false)
  | 14 => ("EggTownModel", "said", "[I", true)
  | 15 => ("EggTownModel", "waitsAt", "[I", true)
  | 16 => ("EggTownModel", "saidLetter", "[I", true)
  | 17 => ("EggTownModel", "saidFrom", "[I", true)
  | 18 => ("EggTownModel", "saidHalf", "[I", true)
  | 19 => ("EggTownModel", "saidTo", "[I", true)
  | 20 => ("EggTownModel", "codes", "[I", true)
  | 21 => ("EggTownModel", "clauseOf", "[I", true)
  | 22 => ("EggTownModel", "codeFrom", "[I", true)
  | 23 => ("EggTownModel", "codeHalf", "[I", true)
  | 24 => ("EggTownModel", "codeTo", "[I", true)
  | 25 => ("EggTownModel", "stack", "[I", true)
  | 26 => ("EggTownModel", "facts", "[I", true)
  | 27 => ("EggTownModel", "lineMany", "I", false)
  | 28 => ("EggTownModel", "lineFrom", "[I", true)
  | 29 => ("EggTownModel", "lineSign", "[I", true)
  | 30 => ("EggTownModel", "lineWhom", "[I", true)
  | 31 => ("EggTownModel", "lineEgg", "[I", true)
  | 32 => ("EggTownModel", "laidNow", "I", false)
  | 33 => ("EggTownModel", "minutesNow", "I", false)
  | 34 => ("EggTownModel", "badNow", "I", false)
  | 35 => ("EggTownModel", "strikes", "I", false)
  | 36 => ("EggTownModel", "ownMany", "I", false)
  | 37 => ("EggTownModel", "planMany", "I", false)
  | 38 => ("EggTownModel", "ownEgg", "[I", true)
  | 39 => ("EggTownModel", "planWork", "[I", true)
  | 40 => ("EggTownModel", "planBest", "[I", true)
  | 41 => ("EggTownModel", "planSum", "[I", true)
  | 42 => ("EggTownModel", "lastDay", "[I", true)
  | 43 => ("EggTownModel", "heavy", "[I", true)
  | 44 => ("EggTownModel", "onDay", "[I", true)
  | 45 => ("EggTownModel", "hoursOf", "[I", true)
  | 46 => ("EggTownModel", "keeps", "[I", true)
  | _ => ("EggTownModel", "isKept", "Z", false)
def tyX12 : Nat → FieldType := fun k => match k with
  | 0 => .array .int
  | 1 => .array .int
  | 2 => .array .int
  | 3 => .array .byte
  | 4 => .int
  | 5 => .int
  | 6 => .int
  | 7 => .int
  | 8 => .int
  | 9 => .int
  | 10 => .int
  | 11 => .int
  | 12 => .int
  | 13 => .int
  | 14 => .array .int
  | 15 => .array .int
  | 16 => .array .int
  | 17 => .array .int
  | 18 => .array .int
  | 19 => .array .int
  | 20 => .array .int
  | 21 => .array .int
  | 22 => .array .int
  | 23 => .array .int
  | 24 => .array .int
  | 25 => .array .int
  | 26 => .array .int
  | 27 => .int
  | 28 => .array .int
  | 29 => .array .int
  | 30 => .array .int
  | 31 => .array .int
  | 32 => .int
  | 33 => .int
  | 34 => .int
  | 35 => .int
  | 36 => .int
  | 37 => .int
  | 38 => .array .int
  | 39 => .array .int
  | 40 => .array .int
  | 41 => .array .int
  | 42 => .array .int
  | 43 => .array .int
  | 44 => .array .int
  | 45 => .array .int
  | 46 => .array .int
  | _ => .boolean
abbrev wsX120 : List Cond := u_ws RX12 TX12 48
theorem nmX12 : ∀ a, a < 48 → ∀ b, b < 48 → a ≠ b → (TX12 a).2.1 ≠ (TX12 b).2.1 := by decide +kernel
theorem tyX12_ok : ∀ k, k < 48 → parseFieldDescriptor (TX12 k).2.2.1 = some (tyX12 k) := by decide +kernel
abbrev cX12_init : ByteArray := prog_14_method_1_code
def yX12_init : MethodName := ⟨RX12, "<init>", "()V"⟩
abbrev cX12_in : ByteArray := prog_14_method_2_code
def yX12_in : MethodName := ⟨RX12, "in", "(III)Z"⟩
abbrev cX12_min : ByteArray := prog_14_method_3_code
def yX12_min : MethodName := ⟨RX12, "min", "(II)I"⟩
abbrev cX12_max : ByteArray := prog_14_method_4_code
def yX12_max : MethodName := ⟨RX12, "max", "(II)I"⟩
abbrev cX12_has : ByteArray := prog_14_method_5_code
def yX12_has : MethodName := ⟨RX12, "has", "(II)Z"⟩
abbrev cX12_bits : ByteArray := prog_14_method_6_code
def yX12_bits : MethodName := ⟨RX12, "bits", "(I)I"⟩
abbrev cX12_copies : ByteArray := prog_14_method_7_code
def yX12_copies : MethodName := ⟨RX12, "copies", "([I[I)V"⟩
abbrev cX12_isPerson : ByteArray := prog_14_method_8_code
def yX12_isPerson : MethodName := ⟨RX12, "isPerson", "(I)Z"⟩
abbrev cX12_isHen : ByteArray := prog_14_method_9_code
def yX12_isHen : MethodName := ⟨RX12, "isHen", "(I)Z"⟩
abbrev cX12_isWork : ByteArray := prog_14_method_10_code
def yX12_isWork : MethodName := ⟨RX12, "isWork", "(I)Z"⟩
abbrev cX12_isEgg : ByteArray := prog_14_method_11_code
def yX12_isEgg : MethodName := ⟨RX12, "isEgg", "(I)Z"⟩
abbrev cX12_isWhole : ByteArray := prog_14_method_12_code
def yX12_isWhole : MethodName := ⟨RX12, "isWhole", "(I)Z"⟩
abbrev cX12_isDone : ByteArray := prog_14_method_13_code
def yX12_isDone : MethodName := ⟨RX12, "isDone", "(I)Z"⟩
abbrev cX12_person : ByteArray := prog_14_method_14_code
def yX12_person : MethodName := ⟨RX12, "person", "(I)Z"⟩
abbrev cX12_hen : ByteArray := prog_14_method_15_code
def yX12_hen : MethodName := ⟨RX12, "hen", "(III)Z"⟩
abbrev cX12_fox : ByteArray := prog_14_method_16_code
def yX12_fox : MethodName := ⟨RX12, "fox", "(I)Z"⟩
abbrev cX12_work : ByteArray := prog_14_method_17_code
def yX12_work : MethodName := ⟨RX12, "work", "(IIII)Z"⟩
abbrev cX12_puts : ByteArray := prog_14_method_18_code
def yX12_puts : MethodName := ⟨RX12, "puts", "(II)V"⟩
abbrev cX12_clean : ByteArray := prog_14_method_19_code
def yX12_clean : MethodName := ⟨RX12, "clean", "()I"⟩
abbrev cX12_types : ByteArray := prog_14_method_20_code
def yX12_types : MethodName := ⟨RX12, "types", "(I)V"⟩
abbrev cX12_feed : ByteArray := prog_14_method_21_code
def yX12_feed : MethodName := ⟨RX12, "feed", "(IIIII)I"⟩
abbrev cX12_here : ByteArray := prog_14_method_22_code
def yX12_here : MethodName := ⟨RX12, "here", "()I"⟩
abbrev cX12_isDigit : ByteArray := prog_14_method_23_code
def yX12_isDigit : MethodName := ⟨RX12, "isDigit", "()Z"⟩
abbrev cX12_wrongAt : ByteArray := prog_14_method_24_code
def yX12_wrongAt : MethodName := ⟨RX12, "wrongAt", "(II)Z"⟩
abbrev cX12_takes : ByteArray := prog_14_method_25_code
def yX12_takes : MethodName := ⟨RX12, "takes", "(I)Z"⟩
abbrev cX12_readsNumber : ByteArray := prog_14_method_26_code
def yX12_readsNumber : MethodName := ⟨RX12, "readsNumber", "()Z"⟩
abbrev cX12_notes : ByteArray := prog_14_method_27_code
def yX12_notes : MethodName := ⟨RX12, "notes", "(II)V"⟩
abbrev cX12_opens : ByteArray := prog_14_method_28_code
def yX12_opens : MethodName := ⟨RX12, "opens", "(I)Z"⟩
abbrev cX12_waitTop : ByteArray := prog_14_method_29_code
def yX12_waitTop : MethodName := ⟨RX12, "waitTop", "()I"⟩
abbrev cX12_factOf : ByteArray := prog_14_method_30_code
def yX12_factOf : MethodName := ⟨RX12, "factOf", "(I)I"⟩
abbrev cX12_sumSign : ByteArray := prog_14_method_31_code
def yX12_sumSign : MethodName := ⟨RX12, "sumSign", "(I)I"⟩
abbrev cX12_closesSums : ByteArray := prog_14_method_32_code
def yX12_closesSums : MethodName := ⟨RX12, "closesSums", "(Z)V"⟩
abbrev cX12_readsFactor : ByteArray := prog_14_method_33_code
def yX12_readsFactor : MethodName := ⟨RX12, "readsFactor", "()Z"⟩
abbrev cX12_hasOpenSum : ByteArray := prog_14_method_34_code
def yX12_hasOpenSum : MethodName := ⟨RX12, "hasOpenSum", "(I)Z"⟩
abbrev cX12_readsSum : ByteArray := prog_14_method_35_code
def yX12_readsSum : MethodName := ⟨RX12, "readsSum", "()Z"⟩
abbrev cX12_endsPiece : ByteArray := prog_14_method_36_code
def yX12_endsPiece : MethodName := ⟨RX12, "endsPiece", "()V"⟩
abbrev cX12_lands : ByteArray := prog_14_method_37_code
def yX12_lands : MethodName := ⟨RX12, "lands", "(Z)V"⟩
abbrev cX12_jumps : ByteArray := prog_14_method_38_code
def yX12_jumps : MethodName := ⟨RX12, "jumps", "(I)V"⟩
abbrev cX12_readsCompared : ByteArray := prog_14_method_39_code
def yX12_readsCompared : MethodName := ⟨RX12, "readsCompared", "()Z"⟩
abbrev cX12_readsCondition : ByteArray := prog_14_method_40_code
def yX12_readsCondition : MethodName := ⟨RX12, "readsCondition", "()Z"⟩
abbrev cX12_isClause : ByteArray := prog_14_method_41_code
def yX12_isClause : MethodName := ⟨RX12, "isClause", "(I)Z"⟩
abbrev cX12_readsClause : ByteArray := prog_14_method_42_code
def yX12_readsClause : MethodName := ⟨RX12, "readsClause", "()Z"⟩
abbrev cX12_law : ByteArray := prog_14_method_43_code
def yX12_law : MethodName := ⟨RX12, "law", "(I)I"⟩
abbrev cX12_reckon : ByteArray := prog_14_method_44_code
def yX12_reckon : MethodName := ⟨RX12, "reckon", "(III)I"⟩
abbrev cX12_comesTo : ByteArray := prog_14_method_45_code
def yX12_comesTo : MethodName := ⟨RX12, "comesTo", "(II)I"⟩
abbrev cX12_byLaw : ByteArray := prog_14_method_46_code
def yX12_byLaw : MethodName := ⟨RX12, "byLaw", "(II)I"⟩
abbrev cX12_feels : ByteArray := prog_14_method_47_code
def yX12_feels : MethodName := ⟨RX12, "feels", "()V"⟩
abbrev cX12_feelsHen : ByteArray := prog_14_method_48_code
def yX12_feelsHen : MethodName := ⟨RX12, "feelsHen", "(II)V"⟩
abbrev cX12_feelsEgg : ByteArray := prog_14_method_49_code
def yX12_feelsEgg : MethodName := ⟨RX12, "feelsEgg", "(I)V"⟩
abbrev cX12_badBehind : ByteArray := prog_14_method_50_code
def yX12_badBehind : MethodName := ⟨RX12, "badBehind", "(I)I"⟩
abbrev cX12_badOn : ByteArray := prog_14_method_51_code
def yX12_badOn : MethodName := ⟨RX12, "badOn", "(I)I"⟩
abbrev cX12_worthFor : ByteArray := prog_14_method_52_code
def yX12_worthFor : MethodName := ⟨RX12, "worthFor", "(II)I"⟩
abbrev cX12_isInHandful : ByteArray := prog_14_method_53_code
def yX12_isInHandful : MethodName := ⟨RX12, "isInHandful", "(II)Z"⟩
abbrev cX12_readsEgg : ByteArray := prog_14_method_54_code
def yX12_readsEgg : MethodName := ⟨RX12, "readsEgg", "(I)Z"⟩
abbrev cX12_readsEggs : ByteArray := prog_14_method_55_code
def yX12_readsEggs : MethodName := ⟨RX12, "readsEggs", "()I"⟩
abbrev cX12_readsLine : ByteArray := prog_14_method_56_code
def yX12_readsLine : MethodName := ⟨RX12, "readsLine", "()Z"⟩
abbrev cX12_readsLines : ByteArray := prog_14_method_57_code
def yX12_readsLines : MethodName := ⟨RX12, "readsLines", "(I)Z"⟩
abbrev cX12_canBe : ByteArray := prog_14_method_58_code
def yX12_canBe : MethodName := ⟨RX12, "canBe", "(I)Z"⟩
abbrev cX12_gives : ByteArray := prog_14_method_59_code
def yX12_gives : MethodName := ⟨RX12, "gives", "(II)V"⟩
abbrev cX12_breaks : ByteArray := prog_14_method_60_code
def yX12_breaks : MethodName := ⟨RX12, "breaks", "(I)V"⟩
abbrev cX12_worksBy : ByteArray := prog_14_method_61_code
def yX12_worksBy : MethodName := ⟨RX12, "worksBy", "(II)V"⟩
abbrev cX12_broods : ByteArray := prog_14_method_62_code
def yX12_broods : MethodName := ⟨RX12, "broods", "(I)V"⟩
abbrev cX12_does : ByteArray := prog_14_method_63_code
def yX12_does : MethodName := ⟨RX12, "does", "(I)Z"⟩
abbrev cX12_acts : ByteArray := prog_14_method_64_code
def yX12_acts : MethodName := ⟨RX12, "acts", "(I)I"⟩
abbrev cX12_judged : ByteArray := prog_14_method_65_code
def yX12_judged : MethodName := ⟨RX12, "judged", "(I)I"⟩
abbrev cX12_draws : ByteArray := prog_14_method_66_code
def yX12_draws : MethodName := ⟨RX12, "draws", "()I"⟩
abbrev cX12_lays : ByteArray := prog_14_method_67_code
def yX12_lays : MethodName := ⟨RX12, "lays", "(I)V"⟩
abbrev cX12_dayGoes : ByteArray := prog_14_method_68_code
def yX12_dayGoes : MethodName := ⟨RX12, "dayGoes", "()V"⟩
abbrev cX12_daysGo : ByteArray := prog_14_method_69_code
def yX12_daysGo : MethodName := ⟨RX12, "daysGo", "(I)V"⟩
abbrev cX12_days : ByteArray := prog_14_method_70_code
def yX12_days : MethodName := ⟨RX12, "days", "(I)I"⟩
abbrev cX12_howMany : ByteArray := prog_14_method_71_code
def yX12_howMany : MethodName := ⟨RX12, "howMany", "(I)I"⟩
abbrev cX12_tried : ByteArray := prog_14_method_72_code
def yX12_tried : MethodName := ⟨RX12, "tried", "(II)I"⟩
abbrev cX12_egg : ByteArray := prog_14_method_73_code
def yX12_egg : MethodName := ⟨RX12, "egg", "(II)I"⟩
abbrev cX12_eggsOf : ByteArray := prog_14_method_74_code
def yX12_eggsOf : MethodName := ⟨RX12, "eggsOf", "(IZ)I"⟩
abbrev cX12_hensOf : ByteArray := prog_14_method_75_code
def yX12_hensOf : MethodName := ⟨RX12, "hensOf", "(I)I"⟩
abbrev cX12_personIs : ByteArray := prog_14_method_76_code
def yX12_personIs : MethodName := ⟨RX12, "personIs", "(II)I"⟩
abbrev cX12_workIs : ByteArray := prog_14_method_77_code
def yX12_workIs : MethodName := ⟨RX12, "workIs", "(II)I"⟩
abbrev cX12_laysOwn : ByteArray := prog_14_method_78_code
def yX12_laysOwn : MethodName := ⟨RX12, "laysOwn", "(II)V"⟩
abbrev cX12_laysSums : ByteArray := prog_14_method_79_code
def yX12_laysSums : MethodName := ⟨RX12, "laysSums", "(I)V"⟩
abbrev cX12_planBy : ByteArray := prog_14_method_80_code
def yX12_planBy : MethodName := ⟨RX12, "planBy", "(III)I"⟩
abbrev cX12_laysPlan : ByteArray := prog_14_method_81_code
def yX12_laysPlan : MethodName := ⟨RX12, "laysPlan", "(I)V"⟩
abbrev cX12_planSet : ByteArray := prog_14_method_82_code
def yX12_planSet : MethodName := ⟨RX12, "planSet", "(I)I"⟩
abbrev cX12_plan : ByteArray := prog_14_method_83_code
def yX12_plan : MethodName := ⟨RX12, "plan", "(III)I"⟩
abbrev cX12_heaviest : ByteArray := prog_14_method_84_code
def yX12_heaviest : MethodName := ⟨RX12, "heaviest", "(II)I"⟩
abbrev cX12_before : ByteArray := prog_14_method_85_code
def yX12_before : MethodName := ⟨RX12, "before", "(III)I"⟩
abbrev cX12_hoursBy : ByteArray := prog_14_method_86_code
def yX12_hoursBy : MethodName := ⟨RX12, "hoursBy", "(III)I"⟩
abbrev cX12_flock : ByteArray := prog_14_method_87_code
def yX12_flock : MethodName := ⟨RX12, "flock", "(III)I"⟩
abbrev cX12_leastOf : ByteArray := prog_14_method_88_code
def yX12_leastOf : MethodName := ⟨RX12, "leastOf", "(III)I"⟩
abbrev cX12_areEggs : ByteArray := prog_14_method_89_code
def yX12_areEggs : MethodName := ⟨RX12, "areEggs", "(II)Z"⟩
abbrev cX12_rations : ByteArray := prog_14_method_90_code
def yX12_rations : MethodName := ⟨RX12, "rations", "(III)I"⟩
abbrev cX12_soldBy : ByteArray := prog_14_method_91_code
def yX12_soldBy : MethodName := ⟨RX12, "soldBy", "(I)I"⟩
abbrev cX12_rests : ByteArray := prog_14_method_92_code
def yX12_rests : MethodName := ⟨RX12, "rests", "(II)Z"⟩
abbrev cX12_hoards : ByteArray := prog_14_method_93_code
def yX12_hoards : MethodName := ⟨RX12, "hoards", "(II)I"⟩
abbrev cX12_yolks : ByteArray := prog_14_method_94_code
def yX12_yolks : MethodName := ⟨RX12, "yolks", "(III)I"⟩
abbrev cX12_moreOf : ByteArray := prog_14_method_95_code
def yX12_moreOf : MethodName := ⟨RX12, "moreOf", "(I)I"⟩
abbrev cX12_thefts : ByteArray := prog_14_method_96_code
def yX12_thefts : MethodName := ⟨RX12, "thefts", "(I)I"⟩
abbrev cX12_baskets : ByteArray := prog_14_method_97_code
def yX12_baskets : MethodName := ⟨RX12, "baskets", "(III)I"⟩
abbrev cX12_latest : ByteArray := prog_14_method_98_code
def yX12_latest : MethodName := ⟨RX12, "latest", "(II)I"⟩
abbrev cX12_worksAll : ByteArray := prog_14_method_99_code
def yX12_worksAll : MethodName := ⟨RX12, "worksAll", "(II)V"⟩
abbrev cX12_daysFor : ByteArray := prog_14_method_100_code
def yX12_daysFor : MethodName := ⟨RX12, "daysFor", "(II)I"⟩
abbrev cX12_soonest : ByteArray := prog_14_method_101_code
def yX12_soonest : MethodName := ⟨RX12, "soonest", "(II)I"⟩
abbrev cX12_apart : ByteArray := prog_14_method_102_code
def yX12_apart : MethodName := ⟨RX12, "apart", "(II)I"⟩
abbrev cX12_barter : ByteArray := prog_14_method_103_code
def yX12_barter : MethodName := ⟨RX12, "barter", "(IIIII)I"⟩
abbrev cX12_seed : ByteArray := prog_14_method_104_code
def yX12_seed : MethodName := ⟨RX12, "seed", "(I)Z"⟩
abbrev cX12_keep : ByteArray := prog_14_method_105_code
def yX12_keep : MethodName := ⟨RX12, "keep", "()I"⟩
abbrev cX12_undo : ByteArray := prog_14_method_106_code
def yX12_undo : MethodName := ⟨RX12, "undo", "()Z"⟩
abbrev cX12_tapeNumber : ByteArray := prog_14_method_107_code
def yX12_tapeNumber : MethodName := ⟨RX12, "tapeNumber", "(I)I"⟩
abbrev cX12_check : ByteArray := prog_14_method_108_code
def yX12_check : MethodName := ⟨RX12, "check", "(I)I"⟩
abbrev cX12_count : ByteArray := prog_14_method_109_code
def yX12_count : MethodName := ⟨RX12, "count", "(I)I"⟩
def RJ11 : String := "java/lang/Character"
def TJ11 : u_T := fun k => match k with
  | _ => ("", "", "", false)
def tyJ11 : Nat → FieldType := fun k => match k with
  | _ => .int
abbrev wsJ110 : List Cond := u_ws RJ11 TJ11 0
theorem nmJ11 : ∀ a, a < 0 → ∀ b, b < 0 → a ≠ b → (TJ11 a).2.1 ≠ (TJ11 b).2.1 := by decide +kernel
theorem tyJ11_ok : ∀ k, k < 0 → parseFieldDescriptor (TJ11 k).2.2.1 = some (tyJ11 k) := by decide +kernel
abbrev cJ11_isValidCodePoint_9a6ad : ByteArray := prog_15_method_11_code
def yJ11_isValidCodePoint_9a6ad : MethodName := ⟨RJ11, "isValidCodePoint", "(I)Z"⟩
abbrev cJ11_highSurrogate_5068e : ByteArray := prog_15_method_28_code
def yJ11_highSurrogate_5068e : MethodName := ⟨RJ11, "highSurrogate", "(I)C"⟩
abbrev cJ11_lowSurrogate_5068e : ByteArray := prog_15_method_29_code
def yJ11_lowSurrogate_5068e : MethodName := ⟨RJ11, "lowSurrogate", "(I)C"⟩
def RJ6 : String := "java/lang/Integer"
def TJ6 : u_T := fun k => match k with
  | _ => ("", "", "", false)
def tyJ6 : Nat → FieldType := fun k => match k with
  | _ => .int
abbrev wsJ60 : List Cond := u_ws RJ6 TJ6 0
theorem nmJ6 : ∀ a, a < 0 → ∀ b, b < 0 → a ≠ b → (TJ6 a).2.1 ≠ (TJ6 b).2.1 := by decide +kernel
theorem tyJ6_ok : ∀ k, k < 0 → parseFieldDescriptor (TJ6 k).2.2.1 = some (tyJ6 k) := by decide +kernel
abbrev cJ6_bitCount_0f7a4 : ByteArray := prog_16_method_49_code
def yJ6_bitCount_0f7a4 : MethodName := ⟨RJ6, "bitCount", "(I)I"⟩
def RJ9 : String := "java/lang/Math"
def TJ9 : u_T := fun k => match k with
  | _ => ("", "", "", false)
def tyJ9 : Nat → FieldType := fun k => match k with
  | _ => .int
abbrev wsJ90 : List Cond := u_ws RJ9 TJ9 0
theorem nmJ9 : ∀ a, a < 0 → ∀ b, b < 0 → a ≠ b → (TJ9 a).2.1 ≠ (TJ9 b).2.1 := by decide +kernel
theorem tyJ9_ok : ∀ k, k < 0 → parseFieldDescriptor (TJ9 k).2.2.1 = some (tyJ9 k) := by decide +kernel
abbrev cJ9_abs_0f7a4 : ByteArray := prog_17_method_59_code
def yJ9_abs_0f7a4 : MethodName := ⟨RJ9, "abs", "(I)I"⟩
abbrev cJ9_max_7cf53 : ByteArray := prog_17_method_65_code
def yJ9_max_7cf53 : MethodName := ⟨RJ9, "max", "(II)I"⟩
abbrev cJ9_min_7cf53 : ByteArray := prog_17_method_69_code
def yJ9_min_7cf53 : MethodName := ⟨RJ9, "min", "(II)I"⟩
def RJ0 : String := "java/lang/String"
def TJ0 : u_T := fun k => match k with
  | _ => ("", "", "", false)
def tyJ0 : Nat → FieldType := fun k => match k with
  | _ => .int
abbrev wsJ00 : List Cond := u_ws RJ0 TJ0 0
theorem nmJ0 : ∀ a, a < 0 → ∀ b, b < 0 → a ≠ b → (TJ0 a).2.1 ≠ (TJ0 b).2.1 := by decide +kernel
theorem tyJ0_ok : ∀ k, k < 0 → parseFieldDescriptor (TJ0 k).2.2.1 = some (tyJ0 k) := by decide +kernel
abbrev cJ0_length_8abf5 : ByteArray := prog_18_method_54_code
def yJ0_length_8abf5 : MethodName := ⟨RJ0, "length", "()I"⟩
abbrev cJ0_indexOf_0f7a4 : ByteArray := prog_18_method_79_code
def yJ0_indexOf_0f7a4 : MethodName := ⟨RJ0, "indexOf", "(I)I"⟩
abbrev cJ0_indexOf_7cf53 : ByteArray := prog_18_method_80_code
def yJ0_indexOf_7cf53 : MethodName := ⟨RJ0, "indexOf", "(II)I"⟩
abbrev cJ0_coder_7d493 : ByteArray := prog_18_method_152_code
def yJ0_coder_7d493 : MethodName := ⟨RJ0, "coder", "()B"⟩
abbrev cJ0_isLatin1_aae02 : ByteArray := prog_18_method_154_code
def yJ0_isLatin1_aae02 : MethodName := ⟨RJ0, "isLatin1", "()Z"⟩
abbrev cJ0_checkBoundsBeginEnd_23922 : ByteArray := prog_18_method_158_code
def yJ0_checkBoundsBeginEnd_23922 : MethodName := ⟨RJ0, "checkBoundsBeginEnd", "(III)V"⟩
def RJ1 : String := "java/lang/StringLatin1"
def TJ1 : u_T := fun k => match k with
  | _ => ("", "", "", false)
def tyJ1 : Nat → FieldType := fun k => match k with
  | _ => .int
abbrev wsJ10 : List Cond := u_ws RJ1 TJ1 0
theorem nmJ1 : ∀ a, a < 0 → ∀ b, b < 0 → a ≠ b → (TJ1 a).2.1 ≠ (TJ1 b).2.1 := by decide +kernel
theorem tyJ1_ok : ∀ k, k < 0 → parseFieldDescriptor (TJ1 k).2.2.1 = some (tyJ1 k) := by decide +kernel
abbrev cJ1_canEncode_9a6ad : ByteArray := prog_19_method_4_code
def yJ1_canEncode_9a6ad : MethodName := ⟨RJ1, "canEncode", "(I)Z"⟩
abbrev cJ1_indexOf_4cfef : ByteArray := prog_19_method_22_code
def yJ1_indexOf_4cfef : MethodName := ⟨RJ1, "indexOf", "([BIII)I"⟩
abbrev cJ1_indexOfChar_4cfef : ByteArray := prog_19_method_23_code
def yJ1_indexOfChar_4cfef : MethodName := ⟨RJ1, "indexOfChar", "([BIII)I"⟩
def RJ2 : String := "java/lang/StringUTF16"
def TJ2 : u_T := fun k => match k with
  | _ => ("", "", "", false)
def tyJ2 : Nat → FieldType := fun k => match k with
  | _ => .int
abbrev wsJ20 : List Cond := u_ws RJ2 TJ2 0
theorem nmJ2 : ∀ a, a < 0 → ∀ b, b < 0 → a ≠ b → (TJ2 a).2.1 ≠ (TJ2 b).2.1 := by decide +kernel
theorem tyJ2_ok : ∀ k, k < 0 → parseFieldDescriptor (TJ2 k).2.2.1 = some (tyJ2 k) := by decide +kernel
abbrev cJ2_getChar_3b067 : ByteArray := prog_20_method_5_code
def yJ2_getChar_3b067 : MethodName := ⟨RJ2, "getChar", "([BI)C"⟩
abbrev cJ2_length_9d52b : ByteArray := prog_20_method_6_code
def yJ2_length_9d52b : MethodName := ⟨RJ2, "length", "([B)I"⟩
abbrev cJ2_indexOf_4cfef : ByteArray := prog_20_method_40_code
def yJ2_indexOf_4cfef : MethodName := ⟨RJ2, "indexOf", "([BIII)I"⟩
abbrev cJ2_indexOfChar_4cfef : ByteArray := prog_20_method_47_code
def yJ2_indexOfChar_4cfef : MethodName := ⟨RJ2, "indexOfChar", "([BIII)I"⟩
abbrev cJ2_indexOfCharUnsafe_4cfef : ByteArray := prog_20_method_48_code
def yJ2_indexOfCharUnsafe_4cfef : MethodName := ⟨RJ2, "indexOfCharUnsafe", "([BIII)I"⟩
abbrev cJ2_indexOfSupplementary_4cfef : ByteArray := prog_20_method_49_code
def yJ2_indexOfSupplementary_4cfef : MethodName := ⟨RJ2, "indexOfSupplementary", "([BIII)I"⟩
abbrev cJ2_checkBoundsBeginEnd_d044e : ByteArray := prog_20_method_93_code
def yJ2_checkBoundsBeginEnd_d044e : MethodName := ⟨RJ2, "checkBoundsBeginEnd", "(II[B)V"⟩
def RJ10 : String := "java/lang/System"
def TJ10 : u_T := fun k => match k with
  | _ => ("", "", "", false)
def tyJ10 : Nat → FieldType := fun k => match k with
  | _ => .int
abbrev wsJ100 : List Cond := u_ws RJ10 TJ10 0
theorem nmJ10 : ∀ a, a < 0 → ∀ b, b < 0 → a ≠ b → (TJ10 a).2.1 ≠ (TJ10 b).2.1 := by decide +kernel
theorem tyJ10_ok : ∀ k, k < 0 → parseFieldDescriptor (TJ10 k).2.2.1 = some (tyJ10 k) := by decide +kernel
def RJ3 : String := "jdk/internal/util/Preconditions"
def TJ3 : u_T := fun k => match k with
  | _ => ("", "", "", false)
def tyJ3 : Nat → FieldType := fun k => match k with
  | _ => .int
abbrev wsJ30 : List Cond := u_ws RJ3 TJ3 0
theorem nmJ3 : ∀ a, a < 0 → ∀ b, b < 0 → a ≠ b → (TJ3 a).2.1 ≠ (TJ3 b).2.1 := by decide +kernel
theorem tyJ3_ok : ∀ k, k < 0 → parseFieldDescriptor (TJ3 k).2.2.1 = some (tyJ3 k) := by decide +kernel
abbrev cJ3_checkFromToIndex_8c36e : ByteArray := prog_22_method_12_code
def yJ3_checkFromToIndex_8c36e : MethodName := ⟨RJ3, "checkFromToIndex", "(IIILjava/util/function/BiFunction;)I"⟩
def RL : String := "EggTownLaw"
abbrev cL_law : ByteArray := code
def yL_law : MethodName := ⟨RL, "law", "([I)Z"⟩
abbrev vwCl : List vw_C := [(RX0, TX0, 6), (RX1, TX1, 7), (RX2, TX2, 3), (RX3, TX3, 10), (RX5, TX5, 5), (RX6, TX6, 13), (RX7, TX7, 5), (RX8, TX8, 5), (RX9, TX9, 10), (RX10, TX10, 6), (RX11, TX11, 19), (RX12, TX12, 48)]
end
section
/-! my own small kit: one list of words for all methods, one judgement 'X' (a frame with explicit locals and stack, over any heap that holds a world), contracts 'xI', 'xV' over worlds, and a row an instruction -/
def gT : List Cond := lw_tbl.filter goodWord
theorem gT_in {w : Cond} (i : Nat) (h : tables_1[i]? = some w) (hg : goodWord w = true) : w ∈ gT := List.mem_filter.mpr ⟨List.mem_append_right _ (List.mem_of_getElem? h), hg⟩
theorem gT_sel {q : MethodName × Nat} (i : Nat) (h : lw_privs[i]? = some q) : Cond.selects q.1.cls q.1 q.1 ∈ gT := List.mem_filter.mpr ⟨List.mem_append_left _ (List.mem_map.mpr ⟨q, List.mem_of_getElem? h, rfl⟩), rfl⟩
theorem gT_cons {w : Cond} (h : w ∈ gT) : GoodIn gT (w :: gT) := by
  intro v hv
  have h1 : v ∈ gT := by
    rcases List.mem_cons.mp hv with e | e
    · rw [e]; exact h
    · exact e
  exact ⟨h1, good_of_word (List.mem_filter.mp h1).2⟩
theorem gT_app {ws : List Cond} (pre : List Cond) (hp : ∀ w ∈ pre, w ∈ gT) (h : GoodIn gT ws) : GoodIn gT (pre ++ ws) := by
  intro v hv
  rcases List.mem_append.mp hv with e | e
  · exact ⟨hp v e, good_of_word (List.mem_filter.mp (hp v e)).2⟩
  · exact h v e
def bI (P : Prop) [Decidable P] : Int32 := if P then 1 else 0
theorem bI_t {P : Prop} [Decidable P] (h : P) : bI P = 1 := if_pos h
theorem bI_f {P : Prop} [Decidable P] (h : ¬ P) : bI P = 0 := if_neg h
theorem bI_e0 {P : Prop} [Decidable P] (h : bI P = 0) : ¬ P := fun q => absurd (h.symm.trans (bI_t q)) (by decide)
theorem bI_n0 {P : Prop} [Decidable P] (h : ¬ bI P = 0) : P := Decidable.byContradiction (fun q => h (bI_f q))
theorem bI_nar {P : Prop} [Decidable P] : narrow .boolean (.int (bI P)) = .int (bI P) := by
  by_cases h : P
  · rw [bI_t h]; rfl
  · rw [bI_f h]; rfl
theorem set_ne {α : Type} {ws : List α} {q r : Nat} {v c : α} (h : ws[r]? = some v) (hn : q ≠ r) : (ws.set q c)[r]? = some v := by rw [List.getElem?_set_ne hn]; exact h
theorem set_eq {α : Type} {ws : List α} {q : Nat} {v c : α} (h : ws[q]? = some v) : (ws.set q c)[q]? = some c := by
  have hl : q < ws.length := (List.getElem?_eq_some_iff.mp h).1
  rw [List.getElem?_set_self hl]
theorem set_set {α : Type} {ws : List α} {q : Nat} {c d : α} : (ws.set q c).set q d = ws.set q d := List.set_set _
abbrev xE : Type := va_G × ClassId × ClassId
abbrev xty (E : xE) : List (ClassId × FieldType) := [(E.2.1, .int), (E.2.2, .byte)]
/-- an int array, a byte array, an object -/
abbrev iA (E : xE) (a n : Nat) (f : Nat → Int32) : Nat × va_E := (a, .inl (E.2.1, n, .inl f))
abbrev bA (E : xE) (a n : Nat) (f : Nat → Int32) : Nat × va_E := (a, .inl (E.2.2, n, .inl f))
abbrev ob (a ci : Nat) (fs : List Value) : Nat × va_E := (a, .inr (ci, fs))
def xNst (U : State) : Prop := ∀ (a : String) (i : Nat) (y : MethodName) (h : String), Cond.methodLinkNest a i y h ∈ tables_1 → va_Nw (.methodLinkNest a i y h) U
def xK (E : xE) (U : State) : Prop := va_K E.1 vwCl (xty E) U ∧ xNst U
theorem xK.warm {E : xE} {s U : State} (hW : s.WarmedH U.vm) (h : xK E s) : xK E U := ⟨va_K.moved hW.alike h.1, fun a i y g hm => va_Nw.warmM hW (h.2 a i y g hm)⟩
theorem xK.calling {E : xE} {U : State} {g : JFrame} {mk : MethodId} {a : Array Value} (h : xK E U) : xK E (U.calling g mk a) := ⟨va_K.moved (u := U) (U := U.calling g mk a) (Vm.Alike.refl U.vm) h.1, fun x i y z hm => va_Nw.same rfl rfl (h.2 x i y z hm)⟩
def xPre (E : xE) (sz : Nat) (ws : va_W) (U : State) : Prop := U.heap.size = sz ∧ va_P E.1 vwCl ws U.heap ∧ xK E U ∧ va_D (fun _ => True) ws
def xB (E : xE) (A : Nat → Prop) (w : va_W) (t : State) : Prop := va_P E.1 vwCl w t.heap ∧ va_D A w
abbrev xRm (d mc ms : Nat) : Room := { frames := d, cells := mc, slots := ms, locals := 40 * d }
/-- a method that answers an int (or a boolean): from the world ws, 'post answer world' -/
def xI (E : xE) (l : Launch) (y : MethodName) (b : ByteArray) (n : Nat) (ret : Option FieldType) (d : Nat) (av : List Value) (ws : va_W) (post : Int32 → va_W → Prop) : Prop :=
  ∀ sz : Nat, Met l y (Cond.code y b n ret :: gT) (xRm d 0 0) (va_Pc av (xPre E sz ws)) (va_Qi post (xB E (va_A ws sz)) (va_A ws sz)) 0 0 (va_A ws sz)
/-- a method that answers nothing; it may make mc cells of ms slots -/
def xV (E : xE) (l : Launch) (y : MethodName) (b : ByteArray) (n d mc ms : Nat) (av : List Value) (ws : va_W) (post : va_W → Prop) : Prop :=
  ∀ sz : Nat, Met l y (Cond.code y b n none :: gT) (xRm d mc ms) (va_Pc av (xPre E sz ws)) (va_Qv post (xB E (va_A ws sz)) (va_A ws sz)) mc ms (va_A ws sz)
def xC (E : xE) (p : Program) (s : State) (m : MethodId) (args : Array Value) (c : Code) (A : Nat → Prop) (cc : ByteArray) (nL : Nat) (own : String) : Prop :=
  p.tables.exec = Jvm.exec ∧ c.code = cc ∧ c.maxLocals = nL ∧ s.vm.findClass own = some m.cls ∧ (∀ w ∈ gT, w.before args s = true) ∧ xK E s ∧ ∀ q, s.heap.size ≤ q → A q
def X (E : xE) (p : Program) (l : Launch) (e : Env) (R : Room) (s : State) (m : MethodId) (args : Array Value) (below : List Frame) (meth : Method) (c : Code) (A : Nat → Prop) (nL cells slots : Nat) (Q : State → Prop) (ws : va_W) (pc : Nat) (lv : List (Nat × Value)) (st : List Value) : Prop :=
  ∀ (H : Heap) (locs : List Loc) (ls : Array Slot), va_P E.1 vwCl ws H → va_D A ws → va_S A s.heap H locs → lv_has ls nL lv → W p l e R s m args below meth c H locs cells slots Q (F0 m pc ls st)
section XR
variable {E : xE} {p : Program} {l : Launch} {e : Env} {R : Room} {s : State} {m : MethodId} {args : Array Value} {below : List Frame} {meth : Method} {c : Code} {A : Nat → Prop} {cc : ByteArray} {nL : Nat} {own : String} {cells slots : Nat} {Q : State → Prop} {ws : va_W} {pc pc' : Nat} {lv lv' : List (Nat × Value)} {st : List Value}
theorem x_iconst (C : xC E p s m args c A cc nL own) {n : Int} {v : Int32} (hd : decode cc pc = .ok (.iconst n, 1)) (hv : Int32.ofInt n = v) (hp : pc + 1 = pc') (k : X E p l e R s m args below meth c A nL cells slots Q ws pc' lv (.int v :: st)) : X E p l e R s m args below meth c A nL cells slots Q ws pc lv st := by
  subst hp; exact fun H locs ls hP hD hS hl => lv_iconst C.1 C.2.1 hd hv (k H locs ls hP hD hS hl)
theorem x_bipush (C : xC E p s m args c A cc nL own) {n : Int} {v : Int32} (hd : decode cc pc = .ok (.bipush n, 2)) (hv : (Int8.ofInt n).toInt32 = v) (hp : pc + 2 = pc') (k : X E p l e R s m args below meth c A nL cells slots Q ws pc' lv (.int v :: st)) : X E p l e R s m args below meth c A nL cells slots Q ws pc lv st := by
  subst hp; exact fun H locs ls hP hD hS hl => lv_bipush C.1 C.2.1 hd hv (k H locs ls hP hD hS hl)
theorem x_sipush (C : xC E p s m args c A cc nL own) {n : Int} {v : Int32} (hd : decode cc pc = .ok (.sipush n, 3)) (hv : (Int16.ofInt n).toInt32 = v) (hp : pc + 3 = pc') (k : X E p l e R s m args below meth c A nL cells slots Q ws pc' lv (.int v :: st)) : X E p l e R s m args below meth c A nL cells slots Q ws pc lv st := by
  subst hp; exact fun H locs ls hP hD hS hl => lv_sipush C.1 C.2.1 hd hv (k H locs ls hP hD hS hl)
theorem x_ldc (C : xC E p s m args c A cc nL own) {i : Nat} {v : Int32} (hm : Cond.constant own i v ∈ gT) (hd : decode cc pc = .ok (.ldc i, 2)) (hp : pc + 2 = pc') (k : X E p l e R s m args below meth c A nL cells slots Q ws pc' lv (.int v :: st)) : X E p l e R s m args below meth c A nL cells slots Q ws pc lv st := by
  subst hp; exact fun H locs ls hP hD hS hl => lv_ldc C.1 C.2.1 C.2.2.2.1 (C.2.2.2.2.1 _ hm) hd (k H locs ls hP hD hS hl)
theorem x_ldcw (C : xC E p s m args c A cc nL own) {i : Nat} {v : Int32} (hm : Cond.constant own i v ∈ gT) (hd : decode cc pc = .ok (.ldc_w i, 3)) (hp : pc + 3 = pc') (k : X E p l e R s m args below meth c A nL cells slots Q ws pc' lv (.int v :: st)) : X E p l e R s m args below meth c A nL cells slots Q ws pc lv st := by
  subst hp; exact fun H locs ls hP hD hS hl => lv_ldcw C.1 C.2.1 C.2.2.2.1 (C.2.2.2.2.1 _ hm) hd (k H locs ls hP hD hS hl)
theorem x_iload_n (C : xC E p s m args c A cc nL own) {k : Fin 4} {i : Nat} {x : Int32} (hd : decode cc pc = .ok (.iload_n k, 1)) (hi : (k : Nat) = i) (j : Nat) (hj : lv[j]? = some (i, .int x)) (hp : pc + 1 = pc') (kk : X E p l e R s m args below meth c A nL cells slots Q ws pc' lv (.int x :: st)) : X E p l e R s m args below meth c A nL cells slots Q ws pc lv st := by
  subst hp; exact fun H locs ls hP hD hS hl => lv_iload_n C.1 C.2.1 hd hi (lv_at hl j hj) (kk H locs ls hP hD hS hl)
theorem x_iload (C : xC E p s m args c A cc nL own) {i : Nat} {x : Int32} (hd : decode cc pc = .ok (.iload i, 2)) (j : Nat) (hj : lv[j]? = some (i, .int x)) (hp : pc + 2 = pc') (kk : X E p l e R s m args below meth c A nL cells slots Q ws pc' lv (.int x :: st)) : X E p l e R s m args below meth c A nL cells slots Q ws pc lv st := by
  subst hp; exact fun H locs ls hP hD hS hl => lv_iload C.1 C.2.1 hd (lv_at hl j hj) (kk H locs ls hP hD hS hl)
theorem x_aload_n (C : xC E p s m args c A cc nL own) {k : Fin 4} {i : Nat} {x : Nat} (hd : decode cc pc = .ok (.aload_n k, 1)) (hi : (k : Nat) = i) (j : Nat) (hj : lv[j]? = some (i, .ref x)) (hp : pc + 1 = pc') (kk : X E p l e R s m args below meth c A nL cells slots Q ws pc' lv (.ref x :: st)) : X E p l e R s m args below meth c A nL cells slots Q ws pc lv st := by
  subst hp; exact fun H locs ls hP hD hS hl => lv_aload_n C.1 C.2.1 hd hi (lv_at hl j hj) (kk H locs ls hP hD hS hl)
theorem x_istore_n (C : xC E p s m args c A cc nL own) {k : Fin 4} {i : Nat} {x : Int32} (hd : decode cc pc = .ok (.istore_n k, 1)) (hi : (k : Nat) = i) (hn : i < nL) (hl' : (i, Value.int x) :: lv.filter (fun q => !(q.1 == i) && !(q.1 + 1 == i && q.2.category == 2)) = lv') (hp : pc + 1 = pc') (kk : X E p l e R s m args below meth c A nL cells slots Q ws pc' lv' st) : X E p l e R s m args below meth c A nL cells slots Q ws pc lv (.int x :: st) := by
  subst hp; exact fun H locs ls hP hD hS hl => lv_istore_n C.1 C.2.1 hd hi hl hn hl' (fun ls hl => kk H locs ls hP hD hS hl)
theorem x_istore (C : xC E p s m args c A cc nL own) {i : Nat} {x : Int32} (hd : decode cc pc = .ok (.istore i, 2)) (hn : i < nL) (hl' : (i, Value.int x) :: lv.filter (fun q => !(q.1 == i) && !(q.1 + 1 == i && q.2.category == 2)) = lv') (hp : pc + 2 = pc') (kk : X E p l e R s m args below meth c A nL cells slots Q ws pc' lv' st) : X E p l e R s m args below meth c A nL cells slots Q ws pc lv (.int x :: st) := by
  subst hp; exact fun H locs ls hP hD hS hl => lv_istore C.1 C.2.1 hd hl hn hl' (fun ls hl => kk H locs ls hP hD hS hl)
theorem x_astore_n (C : xC E p s m args c A cc nL own) {k : Fin 4} {i : Nat} {x : Nat} (hd : decode cc pc = .ok (.astore_n k, 1)) (hi : (k : Nat) = i) (hn : i < nL) (hl' : (i, Value.ref x) :: lv.filter (fun q => !(q.1 == i) && !(q.1 + 1 == i && q.2.category == 2)) = lv') (hp : pc + 1 = pc') (kk : X E p l e R s m args below meth c A nL cells slots Q ws pc' lv' st) : X E p l e R s m args below meth c A nL cells slots Q ws pc lv (.ref x :: st) := by
  subst hp; exact fun H locs ls hP hD hS hl => lv_astore_n C.1 C.2.1 hd hi hl hn hl' (fun ls hl => kk H locs ls hP hD hS hl)
theorem x_iinc (C : xC E p s m args c A cc nL own) {i : Nat} {n : Int} {x v : Int32} (hd : decode cc pc = .ok (.iinc i n, 3)) (j : Nat) (hj : lv[j]? = some (i, .int x)) (hv : x + Int32.ofInt n = v) (hn : i < nL) (hl' : (i, Value.int v) :: lv.filter (fun q => !(q.1 == i) && !(q.1 + 1 == i && q.2.category == 2)) = lv') (hp : pc + 3 = pc') (kk : X E p l e R s m args below meth c A nL cells slots Q ws pc' lv' st) : X E p l e R s m args below meth c A nL cells slots Q ws pc lv st := by
  subst hp; exact fun H locs ls hP hD hS hl => lv_iinc C.1 C.2.1 hd hl hj hv hn hl' (fun ls hl => kk H locs ls hP hD hS hl)
theorem x_iadd (C : xC E p s m args c A cc nL own) {x y v : Int32} (hd : decode cc pc = .ok (.iadd, 1)) (hv : x + y = v) (hp : pc + 1 = pc') (k : X E p l e R s m args below meth c A nL cells slots Q ws pc' lv (.int v :: st)) : X E p l e R s m args below meth c A nL cells slots Q ws pc lv (.int y :: .int x :: st) := by
  subst hp; subst hv; exact fun H locs ls hP hD hS hl => lv_iadd C.1 C.2.1 hd (k H locs ls hP hD hS hl)
theorem x_isub (C : xC E p s m args c A cc nL own) {x y v : Int32} (hd : decode cc pc = .ok (.isub, 1)) (hv : x - y = v) (hp : pc + 1 = pc') (k : X E p l e R s m args below meth c A nL cells slots Q ws pc' lv (.int v :: st)) : X E p l e R s m args below meth c A nL cells slots Q ws pc lv (.int y :: .int x :: st) := by
  subst hp; subst hv; exact fun H locs ls hP hD hS hl => lv_isub C.1 C.2.1 hd (k H locs ls hP hD hS hl)
theorem x_imul (C : xC E p s m args c A cc nL own) {x y v : Int32} (hd : decode cc pc = .ok (.imul, 1)) (hv : x * y = v) (hp : pc + 1 = pc') (k : X E p l e R s m args below meth c A nL cells slots Q ws pc' lv (.int v :: st)) : X E p l e R s m args below meth c A nL cells slots Q ws pc lv (.int y :: .int x :: st) := by
  subst hp; subst hv; exact fun H locs ls hP hD hS hl => lv_imul C.1 C.2.1 hd (k H locs ls hP hD hS hl)
theorem x_iand (C : xC E p s m args c A cc nL own) {x y v : Int32} (hd : decode cc pc = .ok (.iand, 1)) (hv : x &&& y = v) (hp : pc + 1 = pc') (k : X E p l e R s m args below meth c A nL cells slots Q ws pc' lv (.int v :: st)) : X E p l e R s m args below meth c A nL cells slots Q ws pc lv (.int y :: .int x :: st) := by
  subst hp; subst hv; exact fun H locs ls hP hD hS hl => lv_iand C.1 C.2.1 hd (k H locs ls hP hD hS hl)
theorem x_ior (C : xC E p s m args c A cc nL own) {x y v : Int32} (hd : decode cc pc = .ok (.ior, 1)) (hv : x ||| y = v) (hp : pc + 1 = pc') (k : X E p l e R s m args below meth c A nL cells slots Q ws pc' lv (.int v :: st)) : X E p l e R s m args below meth c A nL cells slots Q ws pc lv (.int y :: .int x :: st) := by
  subst hp; subst hv; exact fun H locs ls hP hD hS hl => lv_ior C.1 C.2.1 hd (k H locs ls hP hD hS hl)
theorem x_ixor (C : xC E p s m args c A cc nL own) {x y v : Int32} (hd : decode cc pc = .ok (.ixor, 1)) (hv : x ^^^ y = v) (hp : pc + 1 = pc') (k : X E p l e R s m args below meth c A nL cells slots Q ws pc' lv (.int v :: st)) : X E p l e R s m args below meth c A nL cells slots Q ws pc lv (.int y :: .int x :: st) := by
  subst hp; subst hv; exact fun H locs ls hP hD hS hl => lv_ixor C.1 C.2.1 hd (k H locs ls hP hD hS hl)
theorem x_idiv (C : xC E p s m args c A cc nL own) {x y v : Int32} (hd : decode cc pc = .ok (.idiv, 1)) (hne : ¬ y = 0) (hv : x / y = v) (hp : pc + 1 = pc') (k : X E p l e R s m args below meth c A nL cells slots Q ws pc' lv (.int v :: st)) : X E p l e R s m args below meth c A nL cells slots Q ws pc lv (.int y :: .int x :: st) := by
  subst hp; subst hv; exact fun H locs ls hP hD hS hl => lv_idiv C.1 C.2.1 hd hne (k H locs ls hP hD hS hl)
theorem x_irem (C : xC E p s m args c A cc nL own) {x y v : Int32} (hd : decode cc pc = .ok (.irem, 1)) (hne : ¬ y = 0) (hv : x - x / y * y = v) (hp : pc + 1 = pc') (k : X E p l e R s m args below meth c A nL cells slots Q ws pc' lv (.int v :: st)) : X E p l e R s m args below meth c A nL cells slots Q ws pc lv (.int y :: .int x :: st) := by
  subst hp; subst hv; exact fun H locs ls hP hD hS hl => lv_irem C.1 C.2.1 hd hne (k H locs ls hP hD hS hl)
theorem x_ishl (C : xC E p s m args c A cc nL own) {x y v : Int32} (hd : decode cc pc = .ok (.ishl, 1)) (hv : x <<< (y &&& 31) = v) (hp : pc + 1 = pc') (k : X E p l e R s m args below meth c A nL cells slots Q ws pc' lv (.int v :: st)) : X E p l e R s m args below meth c A nL cells slots Q ws pc lv (.int y :: .int x :: st) := by
  subst hp; subst hv; exact fun H locs ls hP hD hS hl => lv_ishl C.1 C.2.1 hd (k H locs ls hP hD hS hl)
theorem x_ishr (C : xC E p s m args c A cc nL own) {x y v : Int32} (hd : decode cc pc = .ok (.ishr, 1)) (hv : x >>> (y &&& 31) = v) (hp : pc + 1 = pc') (k : X E p l e R s m args below meth c A nL cells slots Q ws pc' lv (.int v :: st)) : X E p l e R s m args below meth c A nL cells slots Q ws pc lv (.int y :: .int x :: st) := by
  subst hp; subst hv; exact fun H locs ls hP hD hS hl => lv_ishr C.1 C.2.1 hd (k H locs ls hP hD hS hl)
theorem x_iushr (C : xC E p s m args c A cc nL own) {x y v : Int32} (hd : decode cc pc = .ok (.iushr, 1)) (hv : (x.toUInt32 >>> (y.toUInt32 &&& Int32.toUInt32 31)).toInt32 = v) (hp : pc + 1 = pc') (k : X E p l e R s m args below meth c A nL cells slots Q ws pc' lv (.int v :: st)) : X E p l e R s m args below meth c A nL cells slots Q ws pc lv (.int y :: .int x :: st) := by
  subst hp; exact fun H locs ls hP hD hS hl => lv_iushr C.1 C.2.1 hd hv (k H locs ls hP hD hS hl)
theorem x_i2b (C : xC E p s m args c A cc nL own) {x v : Int32} (hd : decode cc pc = .ok (.i2b, 1)) (hv : x.toInt8.toInt32 = v) (hp : pc + 1 = pc') (k : X E p l e R s m args below meth c A nL cells slots Q ws pc' lv (.int v :: st)) : X E p l e R s m args below meth c A nL cells slots Q ws pc lv (.int x :: st) := by
  subst hp; exact fun H locs ls hP hD hS hl => lv_i2b C.1 C.2.1 hd hv (k H locs ls hP hD hS hl)
theorem x_dup (C : xC E p s m args c A cc nL own) {va : Value} (hd : decode cc pc = .ok (.dup, 1)) (hva : va.category = 1) (hp : pc + 1 = pc') (k : X E p l e R s m args below meth c A nL cells slots Q ws pc' lv (va :: va :: st)) : X E p l e R s m args below meth c A nL cells slots Q ws pc lv (va :: st) := by
  subst hp; exact fun H locs ls hP hD hS hl => lv_dup C.1 C.2.1 hd hva (k H locs ls hP hD hS hl)
theorem x_pop (C : xC E p s m args c A cc nL own) {va : Value} (hd : decode cc pc = .ok (.pop, 1)) (hva : va.category = 1) (hp : pc + 1 = pc') (k : X E p l e R s m args below meth c A nL cells slots Q ws pc' lv st) : X E p l e R s m args below meth c A nL cells slots Q ws pc lv (va :: st) := by
  subst hp; exact fun H locs ls hP hD hS hl => lv_pop C.1 C.2.1 hd hva (k H locs ls hP hD hS hl)
theorem x_goto (C : xC E p s m args c A cc nL own) {off : Int} {tgt : Nat} (hd : decode cc pc = .ok (.goto off, 3)) (ht : (pc : Int) + off = (tgt : Int)) (k : X E p l e R s m args below meth c A nL cells slots Q ws tgt lv st) : X E p l e R s m args below meth c A nL cells slots Q ws pc lv st := fun H locs ls hP hD hS hl => lv_goto C.1 C.2.1 hd ht (k H locs ls hP hD hS hl)
theorem x_if_eq (C : xC E p s m args c A cc nL own) {x : Int32} {off : Int} {tgt : Nat} (hd : decode cc pc = .ok (.ifCond .eq off, 3)) (ht : (pc : Int) + off = (tgt : Int)) (hp : pc + 3 = pc') (kt : x = 0 → X E p l e R s m args below meth c A nL cells slots Q ws tgt lv st) (kf : ¬ x = 0 → X E p l e R s m args below meth c A nL cells slots Q ws pc' lv st) : X E p l e R s m args below meth c A nL cells slots Q ws pc lv (.int x :: st) := by
  subst hp; exact fun H locs ls hP hD hS hl => lv_if_eq C.1 C.2.1 hd ht (fun h => kt h H locs ls hP hD hS hl) (fun h => kf h H locs ls hP hD hS hl)
theorem x_if_ne (C : xC E p s m args c A cc nL own) {x : Int32} {off : Int} {tgt : Nat} (hd : decode cc pc = .ok (.ifCond .ne off, 3)) (ht : (pc : Int) + off = (tgt : Int)) (hp : pc + 3 = pc') (kt : ¬ x = 0 → X E p l e R s m args below meth c A nL cells slots Q ws tgt lv st) (kf : x = 0 → X E p l e R s m args below meth c A nL cells slots Q ws pc' lv st) : X E p l e R s m args below meth c A nL cells slots Q ws pc lv (.int x :: st) := by
  subst hp; exact fun H locs ls hP hD hS hl => lv_if_ne C.1 C.2.1 hd ht (fun h => kt h H locs ls hP hD hS hl) (fun h => kf h H locs ls hP hD hS hl)
theorem x_if_lt (C : xC E p s m args c A cc nL own) {x : Int32} {off : Int} {tgt : Nat} (hd : decode cc pc = .ok (.ifCond .lt off, 3)) (ht : (pc : Int) + off = (tgt : Int)) (hp : pc + 3 = pc') (kt : x < 0 → X E p l e R s m args below meth c A nL cells slots Q ws tgt lv st) (kf : ¬ x < 0 → X E p l e R s m args below meth c A nL cells slots Q ws pc' lv st) : X E p l e R s m args below meth c A nL cells slots Q ws pc lv (.int x :: st) := by
  subst hp; exact fun H locs ls hP hD hS hl => lv_if_lt C.1 C.2.1 hd ht (fun h => kt h H locs ls hP hD hS hl) (fun h => kf h H locs ls hP hD hS hl)
theorem x_if_ge (C : xC E p s m args c A cc nL own) {x : Int32} {off : Int} {tgt : Nat} (hd : decode cc pc = .ok (.ifCond .ge off, 3)) (ht : (pc : Int) + off = (tgt : Int)) (hp : pc + 3 = pc') (kt : 0 ≤ x → X E p l e R s m args below meth c A nL cells slots Q ws tgt lv st) (kf : ¬ 0 ≤ x → X E p l e R s m args below meth c A nL cells slots Q ws pc' lv st) : X E p l e R s m args below meth c A nL cells slots Q ws pc lv (.int x :: st) := by
  subst hp; exact fun H locs ls hP hD hS hl => lv_if_ge C.1 C.2.1 hd ht (fun h => kt h H locs ls hP hD hS hl) (fun h => kf h H locs ls hP hD hS hl)
theorem x_if_gt (C : xC E p s m args c A cc nL own) {x : Int32} {off : Int} {tgt : Nat} (hd : decode cc pc = .ok (.ifCond .gt off, 3)) (ht : (pc : Int) + off = (tgt : Int)) (hp : pc + 3 = pc') (kt : 0 < x → X E p l e R s m args below meth c A nL cells slots Q ws tgt lv st) (kf : ¬ 0 < x → X E p l e R s m args below meth c A nL cells slots Q ws pc' lv st) : X E p l e R s m args below meth c A nL cells slots Q ws pc lv (.int x :: st) := by
  subst hp; exact fun H locs ls hP hD hS hl => lv_if_gt C.1 C.2.1 hd ht (fun h => kt h H locs ls hP hD hS hl) (fun h => kf h H locs ls hP hD hS hl)
theorem x_if_le (C : xC E p s m args c A cc nL own) {x : Int32} {off : Int} {tgt : Nat} (hd : decode cc pc = .ok (.ifCond .le off, 3)) (ht : (pc : Int) + off = (tgt : Int)) (hp : pc + 3 = pc') (kt : x ≤ 0 → X E p l e R s m args below meth c A nL cells slots Q ws tgt lv st) (kf : ¬ x ≤ 0 → X E p l e R s m args below meth c A nL cells slots Q ws pc' lv st) : X E p l e R s m args below meth c A nL cells slots Q ws pc lv (.int x :: st) := by
  subst hp; exact fun H locs ls hP hD hS hl => lv_if_le C.1 C.2.1 hd ht (fun h => kt h H locs ls hP hD hS hl) (fun h => kf h H locs ls hP hD hS hl)
theorem x_icmp_eq (C : xC E p s m args c A cc nL own) {x y : Int32} {off : Int} {tgt : Nat} (hd : decode cc pc = .ok (.if_icmp .eq off, 3)) (ht : (pc : Int) + off = (tgt : Int)) (hp : pc + 3 = pc') (kt : x = y → X E p l e R s m args below meth c A nL cells slots Q ws tgt lv st) (kf : ¬ x = y → X E p l e R s m args below meth c A nL cells slots Q ws pc' lv st) : X E p l e R s m args below meth c A nL cells slots Q ws pc lv (.int y :: .int x :: st) := by
  subst hp; exact fun H locs ls hP hD hS hl => lv_icmp_eq C.1 C.2.1 hd ht (fun h => kt h H locs ls hP hD hS hl) (fun h => kf h H locs ls hP hD hS hl)
theorem x_icmp_ne (C : xC E p s m args c A cc nL own) {x y : Int32} {off : Int} {tgt : Nat} (hd : decode cc pc = .ok (.if_icmp .ne off, 3)) (ht : (pc : Int) + off = (tgt : Int)) (hp : pc + 3 = pc') (kt : ¬ x = y → X E p l e R s m args below meth c A nL cells slots Q ws tgt lv st) (kf : x = y → X E p l e R s m args below meth c A nL cells slots Q ws pc' lv st) : X E p l e R s m args below meth c A nL cells slots Q ws pc lv (.int y :: .int x :: st) := by
  subst hp; exact fun H locs ls hP hD hS hl => lv_icmp_ne C.1 C.2.1 hd ht (fun h => kt h H locs ls hP hD hS hl) (fun h => kf h H locs ls hP hD hS hl)
theorem x_icmp_lt (C : xC E p s m args c A cc nL own) {x y : Int32} {off : Int} {tgt : Nat} (hd : decode cc pc = .ok (.if_icmp .lt off, 3)) (ht : (pc : Int) + off = (tgt : Int)) (hp : pc + 3 = pc') (kt : x < y → X E p l e R s m args below meth c A nL cells slots Q ws tgt lv st) (kf : ¬ x < y → X E p l e R s m args below meth c A nL cells slots Q ws pc' lv st) : X E p l e R s m args below meth c A nL cells slots Q ws pc lv (.int y :: .int x :: st) := by
  subst hp; exact fun H locs ls hP hD hS hl => lv_icmp_lt C.1 C.2.1 hd ht (fun h => kt h H locs ls hP hD hS hl) (fun h => kf h H locs ls hP hD hS hl)
theorem x_icmp_ge (C : xC E p s m args c A cc nL own) {x y : Int32} {off : Int} {tgt : Nat} (hd : decode cc pc = .ok (.if_icmp .ge off, 3)) (ht : (pc : Int) + off = (tgt : Int)) (hp : pc + 3 = pc') (kt : y ≤ x → X E p l e R s m args below meth c A nL cells slots Q ws tgt lv st) (kf : ¬ y ≤ x → X E p l e R s m args below meth c A nL cells slots Q ws pc' lv st) : X E p l e R s m args below meth c A nL cells slots Q ws pc lv (.int y :: .int x :: st) := by
  subst hp; exact fun H locs ls hP hD hS hl => lv_icmp_ge C.1 C.2.1 hd ht (fun h => kt h H locs ls hP hD hS hl) (fun h => kf h H locs ls hP hD hS hl)
theorem x_icmp_gt (C : xC E p s m args c A cc nL own) {x y : Int32} {off : Int} {tgt : Nat} (hd : decode cc pc = .ok (.if_icmp .gt off, 3)) (ht : (pc : Int) + off = (tgt : Int)) (hp : pc + 3 = pc') (kt : y < x → X E p l e R s m args below meth c A nL cells slots Q ws tgt lv st) (kf : ¬ y < x → X E p l e R s m args below meth c A nL cells slots Q ws pc' lv st) : X E p l e R s m args below meth c A nL cells slots Q ws pc lv (.int y :: .int x :: st) := by
  subst hp; exact fun H locs ls hP hD hS hl => lv_icmp_gt C.1 C.2.1 hd ht (fun h => kt h H locs ls hP hD hS hl) (fun h => kf h H locs ls hP hD hS hl)
theorem x_icmp_le (C : xC E p s m args c A cc nL own) {x y : Int32} {off : Int} {tgt : Nat} (hd : decode cc pc = .ok (.if_icmp .le off, 3)) (ht : (pc : Int) + off = (tgt : Int)) (hp : pc + 3 = pc') (kt : x ≤ y → X E p l e R s m args below meth c A nL cells slots Q ws tgt lv st) (kf : ¬ x ≤ y → X E p l e R s m args below meth c A nL cells slots Q ws pc' lv st) : X E p l e R s m args below meth c A nL cells slots Q ws pc lv (.int y :: .int x :: st) := by
  subst hp; exact fun H locs ls hP hD hS hl => lv_icmp_le C.1 C.2.1 hd ht (fun h => kt h H locs ls hP hD hS hl) (fun h => kf h H locs ls hP hD hS hl)
theorem x_tabIn (C : xC E p s m args c A cc nL own) {dflt lo hi : Int} {offs : Array Int} {len : Nat} {x : Int32} {off : Int} {tgt : Nat} (hd : decode cc pc = .ok (.tableswitch dflt lo hi offs, len)) (h1 : ¬ x.toInt < lo) (h2 : ¬ hi < x.toInt) (ho : offs[(x.toInt - lo).toNat]? = some off) (ht : (pc : Int) + off = (tgt : Int)) (k : X E p l e R s m args below meth c A nL cells slots Q ws tgt lv st) : X E p l e R s m args below meth c A nL cells slots Q ws pc lv (.int x :: st) := fun H locs ls hP hD hS hl => lv_tableIn C.1 C.2.1 hd h1 h2 ho ht (k H locs ls hP hD hS hl)
theorem x_tabOut (C : xC E p s m args c A cc nL own) {dflt lo hi : Int} {offs : Array Int} {len : Nat} {x : Int32} {tgt : Nat} (hd : decode cc pc = .ok (.tableswitch dflt lo hi offs, len)) (h : x.toInt < lo ∨ hi < x.toInt) (ht : (pc : Int) + dflt = (tgt : Int)) (k : X E p l e R s m args below meth c A nL cells slots Q ws tgt lv st) : X E p l e R s m args below meth c A nL cells slots Q ws pc lv (.int x :: st) := fun H locs ls hP hD hS hl => lv_tableOut C.1 C.2.1 hd h ht (k H locs ls hP hD hS hl)
/-- fewer locals are known -/
theorem x_lv {lv1 : List (Nat × Value)} (ks : List Nat) (hl1 : lv_pick lv ks = lv1) (k : X E p l e R s m args below meth c A nL cells slots Q ws pc lv1 st) : X E p l e R s m args below meth c A nL cells slots Q ws pc lv st := fun H locs ls hP hD hS hl => k H locs ls hP hD hS (lv_sub hl ks hl1)
/-- the same world by another name -/
theorem x_ws {ws1 : va_W} (h : ws = ws1) (k : X E p l e R s m args below meth c A nL cells slots Q ws1 pc lv st) : X E p l e R s m args below meth c A nL cells slots Q ws pc lv st := by rw [h]; exact k
theorem x_top {x v : Int32} (h : x = v) (k : X E p l e R s m args below meth c A nL cells slots Q ws pc lv (.int v :: st)) : X E p l e R s m args below meth c A nL cells slots Q ws pc lv (.int x :: st) := by rw [h]; exact k
/-- only some of the cells are looked at from here on -/
theorem x_sub {ws1 : va_W} (is : List Nat) (hn : va_nd is = true) (h1 : is.filterMap (fun i => ws[i]?) = ws1) (h2 : is.map (fun i => ws[i]?) = ws1.map some) (k : X E p l e R s m args below meth c A nL cells slots Q ws1 pc lv st) : X E p l e R s m args below meth c A nL cells slots Q ws pc lv st := fun H locs ls hP hD hS hl => k H locs ls (hP.sub is h1) (hD.sub is hn h2) hS hl
theorem x_wide {k n : Nat} (h1 : cells ≤ k) (h2 : slots ≤ n) (kk : X E p l e R s m args below meth c A nL k n Q ws pc lv st) : X E p l e R s m args below meth c A nL cells slots Q ws pc lv st := fun H locs ls hP hD hS hl => W.widen h1 h2 (kk H locs ls hP hD hS hl)
theorem x_get (C : xC E p s m args c A cc nL own) {a ci idx N k : Nat} {Cn : String} {T : u_T} {fs : List Value} {v : Value} (q0 : Nat) (he : ws[q0]? = some (a, .inr (ci, fs))) (hc : vwCl[ci]? = some (Cn, T, N)) (hin : ∀ w ∈ u_ws Cn T N, w ∈ gT) (hk : k < N) (hlink : Cond.fieldLink own idx (T k).1 (T k).2.1 (T k).2.2.1 ∈ gT) (hv : fs[k]? = some v) (hd : decode cc pc = .ok (.getfield idx, 3)) (hp : pc + 3 = pc') (kk : X E p l e R s m args below meth c A nL cells slots Q ws pc' lv (v :: st)) : X E p l e R s m args below meth c A nL cells slots Q ws pc lv (.ref a :: st) := by
  subst hp; exact fun H locs ls hP hD hS hl => va_get C.1 C.2.1 C.2.2.2.2.1 hin C.2.2.2.1 C.2.2.2.2.2.1.1 hP q0 he hc k hk (C.2.2.2.2.1 _ hlink) (fun _ h9 => h9) hv hd (kk H locs ls hP hD hS hl)
theorem x_put (C : xC E p s m args c A cc nL own) {a ci idx N k : Nat} {Cn : String} {T : u_T} {fs : List Value} {v : Value} {ty : FieldType} {ws1 : va_W} (q0 : Nat) (he : ws[q0]? = some (a, .inr (ci, fs))) (hc : vwCl[ci]? = some (Cn, T, N)) (hin : ∀ w ∈ u_ws Cn T N, w ∈ gT) (ty0 : Nat → FieldType) (hty : ∀ k, k < N → parseFieldDescriptor (T k).2.2.1 = some (ty0 k)) (hnm : ∀ a, a < N → ∀ b, b < N → a ≠ b → (T a).2.1 ≠ (T b).2.1) (hk : k < N) (hlink : Cond.fieldLink own idx (T k).1 (T k).2.1 (T k).2.2.1 ∈ gT) (hfin : (T k).2.2.2 = false) (htk : ty0 k = ty) (hn : narrow ty v = v) (hfit : fits ty v = true) (hl : k < fs.length) (hw : ws.set q0 (a, .inr (ci, fs.set k v)) = ws1) (hd : decode cc pc = .ok (.putfield idx, 3)) (hp : pc + 3 = pc') (kk : X E p l e R s m args below meth c A nL cells slots Q ws1 pc' lv st) : X E p l e R s m args below meth c A nL cells slots Q ws pc lv (v :: .ref a :: st) := by
  subst hp; subst hw; exact fun H locs ls hP hD hS hl' => va_put C.1 C.2.1 C.2.2.2.2.1 hin ty0 hty hnm C.2.2.2.1 C.2.2.2.2.2.1.1 hP hD hS q0 he hc k hk (C.2.2.2.2.1 _ hlink) (fun _ h9 => h9) hfin (by rw [hty k hk, htk]) hn hfit hl hd (fun H1 locs1 hP hD hS => kk H1 locs1 ls hP hD hS hl')
theorem x_putF (C : xC E p s m args c A cc nL own) {a ci idx N k : Nat} {Cn : String} {T : u_T} {fs : List Value} {v : Value} {ty : FieldType} {ws1 : va_W} (hin2 : meth.name = "<init>") (q0 : Nat) (he : ws[q0]? = some (a, .inr (ci, fs))) (hc : vwCl[ci]? = some (Cn, T, N)) (hin : ∀ w ∈ u_ws Cn T N, w ∈ gT) (ty0 : Nat → FieldType) (hty : ∀ k, k < N → parseFieldDescriptor (T k).2.2.1 = some (ty0 k)) (hnm : ∀ a, a < N → ∀ b, b < N → a ≠ b → (T a).2.1 ≠ (T b).2.1) (hk : k < N) (hlink : Cond.fieldLink own idx (T k).1 (T k).2.1 (T k).2.2.1 ∈ gT) (hfin : (T k).2.2.2 = true) (hdecl : (T k).1 = own) (htk : ty0 k = ty) (hn : narrow ty v = v) (hfit : fits ty v = true) (hl : k < fs.length) (hw : ws.set q0 (a, .inr (ci, fs.set k v)) = ws1) (hd : decode cc pc = .ok (.putfield idx, 3)) (hp : pc + 3 = pc') (kk : X E p l e R s m args below meth c A nL cells slots Q ws1 pc' lv st) : X E p l e R s m args below meth c A nL cells slots Q ws pc lv (v :: .ref a :: st) := by
  subst hp; subst hw; exact fun H locs ls hP hD hS hl' => va_putF C.1 C.2.1 C.2.2.2.2.1 hin ty0 hty hnm C.2.2.2.1 C.2.2.2.2.2.1.1 hP hD hS q0 he hc k hk (C.2.2.2.2.1 _ hlink) (fun _ h9 => h9) hfin hin2 hdecl (by rw [hty k hk, htk]) hn hfit hl hd (fun H1 locs1 hP hD hS => kk H1 locs1 ls hP hD hS hl')
theorem x_iald (C : xC E p s m args c A cc nL own) {a n : Nat} {f : Nat → Int32} {i v : Int32} (q0 : Nat) (he : ws[q0]? = some (iA E a n f)) (hi : vp_in i n) (hv : f i.toNatClampNeg = v) (hd : decode cc pc = .ok (.iaload, 1)) (hp : pc + 1 = pc') (kk : X E p l e R s m args below meth c A nL cells slots Q ws pc' lv (.int v :: st)) : X E p l e R s m args below meth c A nL cells slots Q ws pc lv (.int i :: .ref a :: st) := by
  subst hp; subst hv; exact fun H locs ls hP hD hS hl => va_iald C.1 C.2.1 C.2.2.2.2.2.1.1 hP q0 0 he rfl hi hd (kk H locs ls hP hD hS hl)
theorem x_bald (C : xC E p s m args c A cc nL own) {a n : Nat} {f : Nat → Int32} {i v : Int32} (q0 : Nat) (he : ws[q0]? = some (bA E a n f)) (hi : vp_in i n) (hv : f i.toNatClampNeg = v) (hd : decode cc pc = .ok (.baload, 1)) (hp : pc + 1 = pc') (kk : X E p l e R s m args below meth c A nL cells slots Q ws pc' lv (.int v :: st)) : X E p l e R s m args below meth c A nL cells slots Q ws pc lv (.int i :: .ref a :: st) := by
  subst hp; subst hv; exact fun H locs ls hP hD hS hl => va_bald C.1 C.2.1 C.2.2.2.2.2.1.1 hP q0 1 he rfl hi hd (kk H locs ls hP hD hS hl)
theorem x_iast (C : xC E p s m args c A cc nL own) {a n : Nat} {f : Nat → Int32} {i x : Int32} {ws1 : va_W} (q0 : Nat) (he : ws[q0]? = some (iA E a n f)) (hi : vp_in i n) (hw : ws.set q0 (iA E a n (upd f i.toNatClampNeg x)) = ws1) (hd : decode cc pc = .ok (.iastore, 1)) (hp : pc + 1 = pc') (kk : X E p l e R s m args below meth c A nL cells slots Q ws1 pc' lv st) : X E p l e R s m args below meth c A nL cells slots Q ws pc lv (.int x :: .int i :: .ref a :: st) := by
  subst hp; subst hw; exact fun H locs ls hP hD hS hl => va_iast C.1 C.2.1 C.2.2.2.2.2.1.1 hP hD hS q0 0 he rfl hi hd (fun H1 locs1 hP hD hS => kk H1 locs1 ls hP hD hS hl)
theorem x_bast (C : xC E p s m args c A cc nL own) {a n : Nat} {f : Nat → Int32} {i x : Int32} {ws1 : va_W} (q0 : Nat) (he : ws[q0]? = some (bA E a n f)) (hi : vp_in i n) (hw : ws.set q0 (bA E a n (upd f i.toNatClampNeg (vp_nar .byte x))) = ws1) (hd : decode cc pc = .ok (.bastore, 1)) (hp : pc + 1 = pc') (kk : X E p l e R s m args below meth c A nL cells slots Q ws1 pc' lv st) : X E p l e R s m args below meth c A nL cells slots Q ws pc lv (.int x :: .int i :: .ref a :: st) := by
  subst hp; subst hw; exact fun H locs ls hP hD hS hl => va_bast C.1 C.2.1 C.2.2.2.2.2.1.1 hP hD hS q0 1 he rfl hi hd (fun H1 locs1 hP hD hS => kk H1 locs1 ls hP hD hS hl)
/-- an int array comes: its class is the one of all int arrays -/
theorem x_newi (C : xC E p s m args c A cc nL own) {n : Int32} (N : Nat) (hm : Cond.arrayClass .int ∈ gT) (hn : ¬ n < 0) (hN : n.toNatClampNeg = N) (hb : N * componentBytes .int ≤ 536870912) (hc : cells + 1 ≤ R.cells) (hs : slots + N ≤ R.slots) (hd : decode cc pc = .ok (.newarray .int, 2)) (hp : pc + 2 = pc') (kk : ∀ q : Nat, X E p l e R s m args below meth c A nL (cells + 1) (slots + N) Q (ws ++ [iA E q N (fun _ => 0)]) pc' lv (.ref q :: st)) : X E p l e R s m args below meth c A nL cells slots Q ws pc lv (.int n :: st) := by
  subst hp
  intro H locs ls hP hD hS hl
  refine va_newa (a0 := (N, .inl (fun _ => 0))) C.1 C.2.1 (atype := .int) (ty := .int) (C.2.2.2.2.1 _ hm) rfl C.2.2.2.2.2.1.1 hP hD hS C.2.2.2.2.2.2 (fun _ => rfl) hn hN hb hc hs hd (fun q cA H1 hK hP hD hS => ?_)
  have h1 : s.vm.findClass ("[" ++ FieldType.int.toString) = some cA := (hK.2 2 (cA, .int) rfl).2
  have h2 : s.vm.findClass ("[" ++ FieldType.int.toString) = some E.2.1 := (C.2.2.2.2.2.1.1.2 0 (E.2.1, .int) rfl).2
  have h3 : cA = E.2.1 := Option.some.inj (h1.symm.trans h2)
  subst h3
  exact kk q H1 locs ls hP hD hS hl
theorem x_newb (C : xC E p s m args c A cc nL own) {n : Int32} (N : Nat) (hm : Cond.arrayClass .byte ∈ gT) (hn : ¬ n < 0) (hN : n.toNatClampNeg = N) (hb : N * componentBytes .byte ≤ 536870912) (hc : cells + 1 ≤ R.cells) (hs : slots + N ≤ R.slots) (hd : decode cc pc = .ok (.newarray .byte, 2)) (hp : pc + 2 = pc') (kk : ∀ q : Nat, X E p l e R s m args below meth c A nL (cells + 1) (slots + N) Q (ws ++ [bA E q N (fun _ => 0)]) pc' lv (.ref q :: st)) : X E p l e R s m args below meth c A nL cells slots Q ws pc lv (.int n :: st) := by
  subst hp
  intro H locs ls hP hD hS hl
  refine va_newa (a0 := (N, .inl (fun _ => 0))) C.1 C.2.1 (atype := .byte) (ty := .byte) (C.2.2.2.2.1 _ hm) rfl C.2.2.2.2.2.1.1 hP hD hS C.2.2.2.2.2.2 (fun _ => rfl) hn hN hb hc hs hd (fun q cA H1 hK hP hD hS => ?_)
  have h1 : s.vm.findClass ("[" ++ FieldType.byte.toString) = some cA := (hK.2 2 (cA, .byte) rfl).2
  have h2 : s.vm.findClass ("[" ++ FieldType.byte.toString) = some E.2.2 := (C.2.2.2.2.2.1.1.2 1 (E.2.2, .byte) rfl).2
  have h3 : cA = E.2.2 := Option.some.inj (h1.symm.trans h2)
  subst h3
  exact kk q H1 locs ls hP hD hS hl
theorem x_new (C : xC E p s m args c A cc nL own) {ci idx N : Nat} {Cn : String} {T : u_T} {fs : List Value} (hc : vwCl[ci]? = some (Cn, T, N)) (hin : ∀ w ∈ u_ws Cn T N, w ∈ gT) (ty0 : Nat → FieldType) (hty : ∀ k, k < N → parseFieldDescriptor (T k).2.2.1 = some (ty0 k)) (hcl : Cond.classLink own idx Cn ∈ gT) (hinst : Cond.instantiable Cn N ∈ gT) (hini : Cond.initialized Cn ∈ gT) (hfs : ∀ j, j < N → defaultValue (ty0 j) = vp_V fs j) (hcs : cells + 1 ≤ R.cells) (hss : slots + N ≤ R.slots) (hd : decode cc pc = .ok (.new idx, 3)) (hp : pc + 3 = pc') (kk : ∀ q : Nat, X E p l e R s m args below meth c A nL (cells + 1) (slots + N) Q (ws ++ [ob q ci fs]) pc' lv (.ref q :: st)) : X E p l e R s m args below meth c A nL cells slots Q ws pc lv st := by
  subst hp
  intro H locs ls hP hD hS hl
  exact va_new C.1 C.2.1 C.2.2.2.2.1 hin ty0 hty C.2.2.2.1 (C.2.2.2.2.1 _ hcl) (C.2.2.2.2.1 _ hinst) (C.2.2.2.2.1 _ hini) C.2.2.2.2.2.1.1 hP hD hS C.2.2.2.2.2.2 hc hfs hcs hss hd (fun q H1 hP hD hS => kk q H1 locs ls hP hD hS hl)
theorem x_copy (C : xC E p s m args c A cc nL own) {idx a0 a n0 n1 : Nat} {f g : Nat → Int32} {sp dp n : Int32} {ws1 : va_W} (q0 q1 : Nat) (he0 : ws[q0]? = some (iA E a0 n0 f)) (he1 : ws[q1]? = some (iA E a n1 g)) (hlink : Cond.methodLink own idx arraycopyName ∈ gT) (hnat : Cond.native arraycopyName ∈ gT) (hstat : Cond.static arraycopyName ∈ gT) (hini : Cond.initialized "java/lang/System" ∈ gT) (h1 : ¬ sp < 0) (h2 : ¬ dp < 0) (h3 : ¬ n < 0) (h4 : sp.toNatClampNeg + n.toNatClampNeg ≤ n0) (h5 : dp.toNatClampNeg + n.toNatClampNeg ≤ n1) (hfr : 1 ≤ R.frames) (hlo : (st.map fun v => v.category).sum + (nativeFrameWords "java/lang/System" "arraycopy" 5 + 11) ≤ R.locals) (hw : ws.set q1 (iA E a n1 (va_cpy f g sp.toNatClampNeg dp.toNatClampNeg n.toNatClampNeg)) = ws1) (hd : decode cc pc = .ok (.invokestatic idx, 3)) (hp : pc + 3 = pc') (kk : X E p l e R s m args below meth c A nL cells slots Q ws1 pc' lv st) : X E p l e R s m args below meth c A nL cells slots Q ws pc lv (.int n :: .int dp :: .ref a :: .int sp :: .ref a0 :: st) := by
  subst hp; subst hw
  intro H locs ls hP hD hS hl
  exact va_copyi C.1 C.2.1 (by rw [C.2.2.1]; exact hl.1.symm) C.2.2.2.1 (C.2.2.2.2.1 _ hlink) (C.2.2.2.2.1 _ hnat) (C.2.2.2.2.1 _ hstat) (C.2.2.2.2.1 _ hini) C.2.2.2.2.2.1.1 hP hD hS q0 q1 0 0 he0 he1 rfl rfl rfl h1 h2 h3 h4 h5 (fun _ _ => rfl) hfr hlo hd (fun H1 locs1 hP hD hS => kk H1 locs1 ls hP hD hS hl)
theorem x_oinit (C : xC E p s m args c A cc nL own) {idx a : Nat} (hl : Cond.methodLink own idx Lib.objectInit ∈ gT) (hi : Cond.instanceMethod Lib.objectInit ∈ gT) (hco : Cond.code Lib.objectInit ⟨#[0xb1]⟩ 1 none ∈ gT) (hd : decode cc pc = .ok (.invokespecial idx, 3)) (hfr : 1 ≤ R.frames) (hlo : (st.map fun v => v.category).sum + 12 ≤ R.locals) (hp : pc + 3 = pc') (kk : X E p l e R s m args below meth c A nL cells slots Q ws pc' lv st) : X E p l e R s m args below meth c A nL cells slots Q ws pc lv (.ref a :: st) := by
  subst hp
  intro H locs ls hP hD hS hl'
  exact W.objInit C.1 C.2.1 C.2.2.2.1 (C.2.2.2.2.1 _ hl) (C.2.2.2.2.1 _ hi) (C.2.2.2.2.1 _ hco) rfl (by rw [C.2.2.1]; exact hl'.1) rfl hd hfr (by simpa [F0, JFrame.monitorRoom] using hlo) (W.eq (g2 := F0 m (pc + 3) ls st) rfl (kk H locs ls hP hD hS hl'))
end XR
end
section
/-! my own small kit, second part: start and end of a method, calls -/
theorem fr_app {A0 : Nat → Prop} {D : va_G} {cl : List vw_C} {W0 wc w1 : va_W} {H H1 : Heap} (hP : va_P D cl (W0 ++ wc) H) (hD : va_D A0 (W0 ++ wc)) (hk : ∀ q : Nat, q < H.size → ¬ va_A wc H.size q → H1[q]? = H[q]?) (hF : ∀ q, va_A wc H.size q → A0 q) (hP1 : va_P D cl w1 H1) (hD1 : va_D (va_A wc H.size) w1) : va_P D cl (W0 ++ w1) H1 ∧ va_D A0 (W0 ++ w1) := by
  have lf : ∀ (k : Nat) (q : Nat × va_E), W0[k]? = some q → (W0 ++ wc)[k]? = some q := fun k q h => by
    rw [List.getElem?_append_left (List.getElem?_eq_some_iff.mp h).1]; exact h
  have apart : ∀ (k : Nat) (q : Nat × va_E), W0[k]? = some q → q.1 < H.size ∧ ¬ va_A wc H.size q.1 := by
    intro k q hq
    have h2 := lf k q hq
    have hl := (hP k q h2).lt
    refine ⟨hl, fun h => ?_⟩
    rcases h with ⟨k2, e, h⟩ | h
    · have h4 : (W0 ++ wc)[W0.length + k2]? = some (q.1, e) := by
        rw [List.getElem?_append_right (Nat.le_add_right _ _), Nat.add_sub_cancel_left]; exact h
      have hij := hD.1 k (W0.length + k2) q (q.1, e) h2 h4 rfl
      have hkl := (List.getElem?_eq_some_iff.mp hq).1
      omega
    · omega
  refine ⟨va_P.app (fun k q hq => ?_) hP1, va_D.app ⟨fun i j x y hx hy e => hD.1 i j x y (lf i x hx) (lf j y hy) e, fun k q h => hD.2 k q (lf k q h)⟩ (hD1.weaken (fun k q _ h => hF q.1 h)) (fun i j x y hx hy hxy => ?_)⟩
  · obtain ⟨g1, g2⟩ := apart k q hq
    exact (hP k q (lf k q hq)).kept (hk q.1 g1 g2)
  · exact (apart i x hx).2 (by rw [hxy]; exact hD1.2 j y hy)
theorem xP_blind {E : xE} {av : List Value} {sz : Nat} {ws : va_W} : FrameBlind (va_Pc av (xPre E sz ws)) := fun _ _ _ _ q => by
  obtain ⟨q0, q1, qP, qK, qD⟩ := q
  exact ⟨q0, q1, qP, qK.calling, qD⟩
theorem xP_at {E : xE} {av : List Value} {ws : va_W} {s U : State} {H : Heap} (hU : U.heap = H) (hW : s.WarmedH U.vm) (hP : va_P E.1 vwCl ws H) (hK : xK E s) {A : Nat → Prop} (hD : va_D A ws) : va_Pc av (xPre E H.size ws) av.toArray U :=
  ⟨rfl, by rw [hU], by rw [hU]; exact hP, hK.warm hW, hD.weaken (fun _ _ _ _ => trivial)⟩
/-- what is known of a method that is called: virtual, static, a constructor -/
def xMV (y : MethodName) (b : ByteArray) (n : Nat) (ret : Option FieldType) (k : Nat) (Cn : String) : Prop := Cond.code y b n ret ∈ gT ∧ Cond.initialized Cn ∈ gT ∧ Cond.instanceMethod y ∈ gT ∧ Cond.selects Cn y y ∈ gT ∧ (y.cls = Cn ∧ y.cls ≠ "java/lang/invoke/MethodHandle" ∧ y.cls ≠ "java/lang/invoke/VarHandle" ∧ (parseMethodDescriptor y.desc).map (fun d => d.parameters.length) = some k)
def xMS (y : MethodName) (b : ByteArray) (n : Nat) (ret : Option FieldType) (k : Nat) : Prop := Cond.code y b n ret ∈ gT ∧ Cond.initialized y.cls ∈ gT ∧ Cond.static y ∈ gT ∧ (y.cls ≠ "java/lang/invoke/MethodHandle" ∧ y.cls ≠ "java/lang/invoke/VarHandle" ∧ (parseMethodDescriptor y.desc).map (fun d => d.parameters.length) = some k)
def xMN (y : MethodName) (b : ByteArray) (n : Nat) (k : Nat) : Prop := Cond.code y b n none ∈ gT ∧ Cond.initialized y.cls ∈ gT ∧ Cond.instanceMethod y ∈ gT ∧ y.name = "<init>" ∧ (y.cls ≠ "java/lang/invoke/MethodHandle" ∧ y.cls ≠ "java/lang/invoke/VarHandle" ∧ (parseMethodDescriptor y.desc).map (fun d => d.parameters.length) = some k)
theorem gT_V {own : String} {idx n k : Nat} {y : MethodName} {b : ByteArray} {ret : Option FieldType} {Cn : String} (F : xMV y b n ret k Cn) (hl : Cond.methodLink own idx y ∈ gT) : GoodIn gT (wsV own idx Cn y (Cond.code y b n ret :: gT)) := by
  refine gT_app [.methodLink own idx y, .instanceMethod y, .selects Cn y y, .initialized Cn] (fun w hw => ?_) (gT_cons F.1)
  rcases List.mem_cons.mp hw with h | hw
  · rw [h]; exact hl
  rcases List.mem_cons.mp hw with h | hw
  · rw [h]; exact F.2.2.1
  rcases List.mem_cons.mp hw with h | hw
  · rw [h]; exact F.2.2.2.1
  rcases List.mem_cons.mp hw with h | hw
  · rw [h]; exact F.2.1
  · cases hw
section XS
variable {E : xE} {l : Launch}
theorem xI_start {y : MethodName} {b : ByteArray} {n d : Nat} {ret : Option FieldType} {av : List Value} {ws : va_W} {post : Int32 → va_W → Prop} {lv : List (Nat × Value)} (own : String) (hy : plainName y.cls = true) (ho : y.cls = own) (hlen : (lg_sl av).length ≤ n) (hlv : lv_args 0 av = lv)
    (body : ∀ (p : Program) (e : Env) (s : State) (m : MethodId) (below : List Frame) (meth : Method) (c : Code) (A : Nat → Prop), xC E p s m av.toArray c A b n own → meth.sig.returnType = ret → meth.locks = false → X E p l e (xRm d 0 0) s m av.toArray below meth c A n 0 0 (MQ below (va_Qi post (xB E A) A) av.toArray s 0 0 A) ws 0 lv []) : xI E l y b n ret d av ws post := by
  intro sz
  refine Met.ofW (cc := b) (maxL := n) (ret := ret) hy rfl ?_
  intro p e s m args below meth c s₁ B hml hv
  obtain ⟨rfl, hsz, hP, hK, hD0⟩ := hv
  subst hsz
  have hts := atoms_spec (ws := Cond.code y b n ret :: gT) B.pre
  have hown : s.vm.findClass y.cls = some m.cls := findClass_of_methodNamed B.named
  rw [ho] at hown
  have C : xC E p s m av.toArray c (va_A ws s.heap.size) b n own := ⟨B.exec, B.bytes, hml, hown, fun w h => hts w (List.mem_cons_of_mem _ h), hK, fun q h => Or.inr h⟩
  rw [lg_entry_eq]
  exact body p e s m below meth c _ C B.returns B.notSynchronized s.heap [] _ hP hD0.self va_S.rf (by rw [← hlv]; exact lv_entry av hlen)
theorem xV_start {y : MethodName} {b : ByteArray} {n d mc ms : Nat} {av : List Value} {ws : va_W} {post : va_W → Prop} {lv : List (Nat × Value)} (own : String) (hy : plainName y.cls = true) (ho : y.cls = own) (hlen : (lg_sl av).length ≤ n) (hlv : lv_args 0 av = lv)
    (body : ∀ (p : Program) (e : Env) (s : State) (m : MethodId) (below : List Frame) (meth : Method) (c : Code) (A : Nat → Prop), xC E p s m av.toArray c A b n own → meth.sig.returnType = none → meth.locks = false → meth.name = y.name → X E p l e (xRm d mc ms) s m av.toArray below meth c A n 0 0 (MQ below (va_Qv post (xB E A) A) av.toArray s mc ms A) ws 0 lv []) : xV E l y b n d mc ms av ws post := by
  intro sz
  refine Met.ofW (cc := b) (maxL := n) (ret := none) hy rfl ?_
  intro p e s m args below meth c s₁ B hml hv
  obtain ⟨rfl, hsz, hP, hK, hD0⟩ := hv
  subst hsz
  have hts := atoms_spec (ws := Cond.code y b n none :: gT) B.pre
  have hown : s.vm.findClass y.cls = some m.cls := findClass_of_methodNamed B.named
  rw [ho] at hown
  have C : xC E p s m av.toArray c (va_A ws s.heap.size) b n own := ⟨B.exec, B.bytes, hml, hown, fun w h => hts w (List.mem_cons_of_mem _ h), hK, fun q h => Or.inr h⟩
  rw [lg_entry_eq]
  exact body p e s m below meth c _ C B.returns B.notSynchronized (name_of_methodNamed B.named B.method).1 s.heap [] _ hP hD0.self va_S.rf (by rw [← hlv]; exact lv_entry av hlen)
end XS
section XCALL
variable {E : xE} {p : Program} {l : Launch} {e : Env} {R : Room} {s : State} {m : MethodId} {args : Array Value} {below : List Frame} {meth : Method} {c : Code} {A : Nat → Prop} {cc : ByteArray} {nL : Nat} {own : String} {cells slots : Nat} {Q : State → Prop} {ws : va_W} {pc pc' : Nat} {lv : List (Nat × Value)} {st : List Value}
theorem x_zret (C : xC E p s m args c A cc nL own) {ty : FieldType} {v : Int32} {post : Int32 → va_W → Prop} (hr : meth.sig.returnType = some ty) (hlk : meth.locks = false) (hn : narrow ty (.int v) = .int v) (hd : decode cc pc = .ok (.ireturn, 1)) (hq : post v ws) : X E p l e R s m args below meth c A nL cells slots (MQ below (va_Qi post (xB E A) A) args s cells slots A) ws pc lv [.int v] :=
  fun _ _ _ hP hD hS _ => W.zret C.1 C.2.1 hr hn (fun t ht _ => ⟨⟨v, ws, rfl, hq, (And.intro (by rw [ht]; exact hP) hD : xB E A ws t)⟩, hS.F ht⟩) hS.2.2 hd hlk
theorem x_vret (C : xC E p s m args c A cc nL own) {post : va_W → Prop} (hr : meth.sig.returnType = none) (hlk : meth.locks = false) (hd : decode cc pc = .ok (.return_, 1)) (hq : post ws) : X E p l e R s m args below meth c A nL cells slots (MQ below (va_Qv post (xB E A) A) args s cells slots A) ws pc lv [] :=
  fun _ _ _ hP hD hS _ => W.vret C.1 C.2.1 hr (fun t ht _ => ⟨⟨ws, rfl, hq, (And.intro (by rw [ht]; exact hP) hD : xB E A ws t)⟩, hS.F ht⟩) hS.2.2 hd hlk
theorem xC.fr (C : xC E p s m args c A cc nL own) {H : Heap} {locs : List Loc} {W0 wc : va_W} (hD : va_D A (W0 ++ wc)) (hS : va_S A s.heap H locs) : ∀ q, va_A wc H.size q → A q := by
  intro q h
  rcases h with ⟨k, e, h⟩ | h
  · exact hD.2 (W0.length + k) (q, e) (by rw [List.getElem?_append_right (Nat.le_add_right _ _), Nat.add_sub_cancel_left]; exact h)
  · exact C.2.2.2.2.2.2 q (Nat.le_trans hS.1 h)
theorem xC.fr0 (C : xC E p s m args c A cc nL own) {H : Heap} {locs : List Loc} {wc : va_W} (hD : va_D A wc) (hS : va_S A s.heap H locs) : ∀ q, va_A wc H.size q → A q := C.fr (W0 := []) hD hS
/-- invokevirtual, an int (boolean) comes -/
theorem x_vi (C : xC E p s m args c A cc nL own) {y : MethodName} {b : ByteArray} {n d k idx a ci N : Nat} {ret : Option FieldType} {Cn : String} {T : u_T} {fs As rest : List Value} {post : Int32 → va_W → Prop} (hM : xI E l y b n ret d (.ref a :: As) ws post) (F : xMV y b n ret k Cn) (hl : Cond.methodLink own idx y ∈ gT) (q0 : Nat) (he : ws[q0]? = some (a, .inr (ci, fs))) (hc : vwCl[ci]? = some (Cn, T, N)) (hk : As.length = k) (hst : st = As.reverse ++ .ref a :: rest) (hr : (rest.map fun v => v.category).sum ≤ 8) (hR : d + 1 ≤ R.frames ∧ 8 + (n + 11) + 40 * d ≤ R.locals) (hf : cells ≤ R.cells ∧ slots ≤ R.slots) (hd : decode cc pc = .ok (.invokevirtual idx, 3)) (hp : pc + 3 = pc') (kk : ∀ (r : Int32) (w : va_W), post r w → X E p l e R s m args below meth c A nL cells slots Q w pc' lv (.int r :: rest)) : X E p l e R s m args below meth c A nL cells slots Q ws pc lv st := by
  subst hp; subst hst
  intro H locs ls hP hD hS hl'
  have hF := C.fr0 hD hS
  refine va_calli (va_runV (As := As) (rest := rest) ⟨C.1, C.2.1, C.2.2.1, C.2.2.2.1, C.2.2.2.2.1⟩ (hM H.size) (cwV k C.2.2.2.2.1 (gT_V F hl) rfl rfl rfl F.2.2.2.2 hR) ⟨xP_blind, va_recv C.2.2.2.2.2.1.1 hP hc he, fun U hU hW => xP_at hU hW hP C.2.2.2.2.2.1 hD⟩ rfl hk hl'.1 rfl (lv_room hr) hd hf) hS (fun q _ h => hF q h) hF (fun r u t H1 locs1 ht hvm hpost hB hz hk1 hS1 => ?_)
  obtain ⟨hP1, hD1⟩ := hB
  rw [ht] at hP1
  exact kk r u hpost H1 locs1 ls hP1 (hD1.weaken (fun _ q _ h => hF q.1 h)) hS1 hl'
/-- invokevirtual, nothing comes -/
theorem x_vv (C : xC E p s m args c A cc nL own) {y : MethodName} {b : ByteArray} {n d k idx a ci N : Nat} {Cn : String} {T : u_T} {fs As rest : List Value} {post : va_W → Prop} (hM : xV E l y b n d 0 0 (.ref a :: As) ws post) (F : xMV y b n none k Cn) (hl : Cond.methodLink own idx y ∈ gT) (q0 : Nat) (he : ws[q0]? = some (a, .inr (ci, fs))) (hc : vwCl[ci]? = some (Cn, T, N)) (hk : As.length = k) (hst : st = As.reverse ++ .ref a :: rest) (hr : (rest.map fun v => v.category).sum ≤ 8) (hR : d + 1 ≤ R.frames ∧ 8 + (n + 11) + 40 * d ≤ R.locals) (hf : cells ≤ R.cells ∧ slots ≤ R.slots) (hd : decode cc pc = .ok (.invokevirtual idx, 3)) (hp : pc + 3 = pc') (kk : ∀ (w : va_W), post w → X E p l e R s m args below meth c A nL cells slots Q w pc' lv rest) : X E p l e R s m args below meth c A nL cells slots Q ws pc lv st := by
  subst hp; subst hst
  intro H locs ls hP hD hS hl'
  have hF := C.fr0 hD hS
  refine va_callv (va_runV (As := As) (rest := rest) ⟨C.1, C.2.1, C.2.2.1, C.2.2.2.1, C.2.2.2.2.1⟩ (hM H.size) (cwV k C.2.2.2.2.1 (gT_V F hl) rfl rfl rfl F.2.2.2.2 hR) ⟨xP_blind, va_recv C.2.2.2.2.2.1.1 hP hc he, fun U hU hW => xP_at hU hW hP C.2.2.2.2.2.1 hD⟩ rfl hk hl'.1 rfl (lv_room hr) hd hf) hS (fun q _ h => hF q h) hF (fun u t H1 locs1 ht hvm hpost hB hz hk1 hS1 => ?_)
  obtain ⟨hP1, hD1⟩ := hB
  rw [ht] at hP1
  exact kk u hpost H1 locs1 ls hP1 (hD1.weaken (fun _ q _ h => hF q.1 h)) hS1 hl'
/-- invokestatic, an int (boolean) comes -/
theorem x_si (C : xC E p s m args c A cc nL own) {y : MethodName} {b : ByteArray} {n d k idx : Nat} {ret : Option FieldType} {As rest : List Value} {post : Int32 → va_W → Prop} (hM : xI E l y b n ret d As ws post) (F : xMS y b n ret k) (hl : Cond.methodLink own idx y ∈ gT) (hk : As.length = k) (hst : st = As.reverse ++ rest) (hr : (rest.map fun v => v.category).sum ≤ 8) (hR : d + 1 ≤ R.frames ∧ 8 + (n + 11) + 40 * d ≤ R.locals) (hf : cells ≤ R.cells ∧ slots ≤ R.slots) (hd : decode cc pc = .ok (.invokestatic idx, 3)) (hp : pc + 3 = pc') (kk : ∀ (r : Int32) (w : va_W), post r w → X E p l e R s m args below meth c A nL cells slots Q w pc' lv (.int r :: rest)) : X E p l e R s m args below meth c A nL cells slots Q ws pc lv st := by
  subst hp; subst hst
  intro H locs ls hP hD hS hl'
  have hF := C.fr0 hD hS
  refine va_calli (va_runS (As := As) (rest := rest) ⟨C.1, C.2.1, C.2.2.1, C.2.2.2.1, C.2.2.2.2.1⟩ (hM H.size) ⟨callB_of k C.2.2.2.2.1 (gT_cons F.1) rfl rfl rfl (C.2.2.2.2.1 _ F.2.1) (C.2.2.2.2.1 _ hl) F.2.2.2 hR, C.2.2.2.2.1 _ F.2.2.1⟩ ⟨xP_blind, fun U hU hW => xP_at hU hW hP C.2.2.2.2.2.1 hD⟩ rfl hk hl'.1 rfl (lv_room hr) hd hf) hS (fun q _ h => hF q h) hF (fun r u t H1 locs1 ht hvm hpost hB hz hk1 hS1 => ?_)
  obtain ⟨hP1, hD1⟩ := hB
  rw [ht] at hP1
  exact kk r u hpost H1 locs1 ls hP1 (hD1.weaken (fun _ q _ h => hF q.1 h)) hS1 hl'
/-- invokestatic, nothing comes -/
theorem x_sv (C : xC E p s m args c A cc nL own) {y : MethodName} {b : ByteArray} {n d k idx : Nat} {As rest : List Value} {post : va_W → Prop} (hM : xV E l y b n d 0 0 As ws post) (F : xMS y b n none k) (hl : Cond.methodLink own idx y ∈ gT) (hk : As.length = k) (hst : st = As.reverse ++ rest) (hr : (rest.map fun v => v.category).sum ≤ 8) (hR : d + 1 ≤ R.frames ∧ 8 + (n + 11) + 40 * d ≤ R.locals) (hf : cells ≤ R.cells ∧ slots ≤ R.slots) (hd : decode cc pc = .ok (.invokestatic idx, 3)) (hp : pc + 3 = pc') (kk : ∀ (w : va_W), post w → X E p l e R s m args below meth c A nL cells slots Q w pc' lv rest) : X E p l e R s m args below meth c A nL cells slots Q ws pc lv st := by
  subst hp; subst hst
  intro H locs ls hP hD hS hl'
  have hF := C.fr0 hD hS
  refine va_callv (va_runS (As := As) (rest := rest) ⟨C.1, C.2.1, C.2.2.1, C.2.2.2.1, C.2.2.2.2.1⟩ (hM H.size) ⟨callB_of k C.2.2.2.2.1 (gT_cons F.1) rfl rfl rfl (C.2.2.2.2.1 _ F.2.1) (C.2.2.2.2.1 _ hl) F.2.2.2 hR, C.2.2.2.2.1 _ F.2.2.1⟩ ⟨xP_blind, fun U hU hW => xP_at hU hW hP C.2.2.2.2.2.1 hD⟩ rfl hk hl'.1 rfl (lv_room hr) hd hf) hS (fun q _ h => hF q h) hF (fun u t H1 locs1 ht hvm hpost hB hz hk1 hS1 => ?_)
  obtain ⟨hP1, hD1⟩ := hB
  rw [ht] at hP1
  exact kk u hpost H1 locs1 ls hP1 (hD1.weaken (fun _ q _ h => hF q.1 h)) hS1 hl'
/-- invokestatic of a nest mate's private method -/
theorem x_sn (C : xC E p s m args c A cc nL own) {y : MethodName} {b : ByteArray} {n d k idx : Nat} {host : String} {ret : Option FieldType} {As rest : List Value} {post : Int32 → va_W → Prop} (hM : xI E l y b n ret d As ws post) (F : xMS y b n ret k) (hl : Cond.methodLinkNest own idx y host ∈ tables_1) (hk : As.length = k) (hst : st = As.reverse ++ rest) (hr : (rest.map fun v => v.category).sum ≤ 8) (hR : d + 1 ≤ R.frames ∧ 8 + (n + 11) + 40 * d ≤ R.locals) (hf : cells ≤ R.cells ∧ slots ≤ R.slots) (hd : decode cc pc = .ok (.invokestatic idx, 3)) (hp : pc + 3 = pc') (kk : ∀ (r : Int32) (w : va_W), post r w → X E p l e R s m args below meth c A nL cells slots Q w pc' lv (.int r :: rest)) : X E p l e R s m args below meth c A nL cells slots Q ws pc lv st := by
  subst hp; subst hst
  intro H locs ls hP hD hS hl'
  have hF := C.fr0 hD hS
  refine va_calli (va_runSN (As := As) (rest := rest) ⟨C.1, C.2.1, C.2.2.1, C.2.2.2.1, C.2.2.2.2.1⟩ (hM H.size) ⟨va_cnB k C.2.2.2.2.1 (gT_cons F.1) rfl rfl rfl (C.2.2.2.2.2.1.2 _ _ _ _ hl) (C.2.2.2.2.1 _ F.2.1) F.2.2.2 hR, C.2.2.2.2.1 _ F.2.2.1, trivial⟩ ⟨xP_blind, fun U hU hW => xP_at hU hW hP C.2.2.2.2.2.1 hD⟩ rfl hk hl'.1 rfl (lv_room hr) hd hf) hS (fun q _ h => hF q h) hF (fun r u t H1 locs1 ht hvm hpost hB hz hk1 hS1 => ?_)
  obtain ⟨hP1, hD1⟩ := hB
  rw [ht] at hP1
  exact kk r u hpost H1 locs1 ls hP1 (hD1.weaken (fun _ q _ h => hF q.1 h)) hS1 hl'
/-- invokespecial of a constructor on the cell that came last: W0 stays -/
theorem x_ni (C : xC E p s m args c A cc nL own) {y : MethodName} {b : ByteArray} {n d k idx a mc ms : Nat} {As rest : List Value} {W0 wc : va_W} {post : va_W → Prop} (hM : xV E l y b n d mc ms (.ref a :: As) wc post) (F : xMN y b n k) (hl : Cond.methodLink own idx y ∈ gT) (hw : ws = W0 ++ wc) (hk : As.length = k) (hst : st = As.reverse ++ .ref a :: rest) (hr : (rest.map fun v => v.category).sum ≤ 8) (hR : d + 1 ≤ R.frames ∧ 8 + (n + 11) + 40 * d ≤ R.locals) (hf : cells + mc ≤ R.cells ∧ slots + ms ≤ R.slots) (hd : decode cc pc = .ok (.invokespecial idx, 3)) (hp : pc + 3 = pc') (kk : ∀ (w : va_W), post w → X E p l e R s m args below meth c A nL (cells + mc) (slots + ms) Q (W0 ++ w) pc' lv rest) : X E p l e R s m args below meth c A nL cells slots Q ws pc lv st := by
  subst hp; subst hst; subst hw
  intro H locs ls hP hD hS hl'
  have hF := C.fr hD hS
  have hPc : va_P E.1 vwCl wc H := fun j q h => hP (W0.length + j) q (by rw [List.getElem?_append_right (Nat.le_add_right _ _), Nat.add_sub_cancel_left]; exact h)
  have rt : ∀ (j : Nat) (q : Nat × va_E), wc[j]? = some q → (W0 ++ wc)[W0.length + j]? = some q := fun j q h => by rw [List.getElem?_append_right (Nat.le_add_right _ _), Nat.add_sub_cancel_left]; exact h
  have hDc : va_D A wc := ⟨fun i j x y hx hy e => by have := hD.1 _ _ x y (rt i x hx) (rt j y hy) e; omega, fun j q h => hD.2 _ q (rt j q h)⟩
  refine va_callv (va_runI (As := As) (rest := rest) ⟨C.1, C.2.1, C.2.2.1, C.2.2.2.1, C.2.2.2.2.1⟩ (hM H.size) (cwI k C.2.2.2.2.1 (gT_cons F.1) rfl rfl rfl (C.2.2.2.2.1 _ F.2.1) (C.2.2.2.2.1 _ hl) (C.2.2.2.2.1 _ F.2.2.1) F.2.2.2.1 F.2.2.2.2 hR) ⟨xP_blind, fun U hU hW => xP_at hU hW hPc C.2.2.2.2.2.1 hDc⟩ rfl hk hl'.1 rfl (lv_room hr) hd hf) hS (fun q _ h => hF q h) hF (fun u t H1 locs1 ht hvm hpost hB hz hk1 hS1 => ?_)
  obtain ⟨hP1, hD1⟩ := hB
  rw [ht] at hP1
  obtain ⟨g1, g2⟩ := fr_app hP hD hk1 hF hP1 hD1
  exact kk u hpost H1 locs1 ls g1 g2 hS1 hl'
/-- the same of a nest mate's private constructor -/
theorem x_nn (C : xC E p s m args c A cc nL own) {y : MethodName} {b : ByteArray} {n d k idx a mc ms : Nat} {host : String} {As rest : List Value} {W0 wc : va_W} {post : va_W → Prop} (hM : xV E l y b n d mc ms (.ref a :: As) wc post) (F : xMN y b n k) (hl : Cond.methodLinkNest own idx y host ∈ tables_1) (hw : ws = W0 ++ wc) (hk : As.length = k) (hst : st = As.reverse ++ .ref a :: rest) (hr : (rest.map fun v => v.category).sum ≤ 8) (hR : d + 1 ≤ R.frames ∧ 8 + (n + 11) + 40 * d ≤ R.locals) (hf : cells + mc ≤ R.cells ∧ slots + ms ≤ R.slots) (hd : decode cc pc = .ok (.invokespecial idx, 3)) (hp : pc + 3 = pc') (kk : ∀ (w : va_W), post w → X E p l e R s m args below meth c A nL (cells + mc) (slots + ms) Q (W0 ++ w) pc' lv rest) : X E p l e R s m args below meth c A nL cells slots Q ws pc lv st := by
  subst hp; subst hst; subst hw
  intro H locs ls hP hD hS hl'
  have hF := C.fr hD hS
  have hPc : va_P E.1 vwCl wc H := fun j q h => hP (W0.length + j) q (by rw [List.getElem?_append_right (Nat.le_add_right _ _), Nat.add_sub_cancel_left]; exact h)
  have rt : ∀ (j : Nat) (q : Nat × va_E), wc[j]? = some q → (W0 ++ wc)[W0.length + j]? = some q := fun j q h => by rw [List.getElem?_append_right (Nat.le_add_right _ _), Nat.add_sub_cancel_left]; exact h
  have hDc : va_D A wc := ⟨fun i j x y hx hy e => by have := hD.1 _ _ x y (rt i x hx) (rt j y hy) e; omega, fun j q h => hD.2 _ q (rt j q h)⟩
  refine va_callv (va_runIN (As := As) (rest := rest) ⟨C.1, C.2.1, C.2.2.1, C.2.2.2.1, C.2.2.2.2.1⟩ (hM H.size) ⟨va_cnB k C.2.2.2.2.1 (gT_cons F.1) rfl rfl rfl (C.2.2.2.2.2.1.2 _ _ _ _ hl) (C.2.2.2.2.1 _ F.2.1) F.2.2.2.2 hR, F.2.2.2.1, C.2.2.2.2.1 _ F.2.2.1⟩ ⟨xP_blind, fun U hU hW => xP_at hU hW hPc C.2.2.2.2.2.1 hDc⟩ rfl hk hl'.1 rfl (lv_room hr) hd hf) hS (fun q _ h => hF q h) hF (fun u t H1 locs1 ht hvm hpost hB hz hk1 hS1 => ?_)
  obtain ⟨hP1, hD1⟩ := hB
  rw [ht] at hP1
  obtain ⟨g1, g2⟩ := fr_app hP hD hk1 hF hP1 hD1
  exact kk u hpost H1 locs1 ls g1 g2 hS1 hl'
end XCALL
end
section
/-! my own small kit, third part: arrays at known places, small numbers -/
abbrev wth (v lo hi : Int32) : Prop := ¬ v < lo ∧ ¬ hi < v
theorem vp_k {i : Int32} {j n : Nat} (hj : i.toNatClampNeg = j) (hn : ¬ i < 0) (hlt : j < n) : vp_in i n := by
  intro h
  rcases h with h | h
  · exact hn h
  · omega
theorem z_shr (p : Int32) : (0 : Int32) >>> p = 0 := by
  apply Int32.toBitVec_inj.mp
  simp
theorem x_ne {a b : Int32} (h : ¬ a = b) : a ≠ b := h
section XR3
variable {E : xE} {p : Program} {l : Launch} {e : Env} {R : Room} {s : State} {m : MethodId} {args : Array Value} {below : List Frame} {meth : Method} {c : Code} {A : Nat → Prop} {cc : ByteArray} {nL : Nat} {own : String} {cells slots : Nat} {Q : State → Prop} {ws : va_W} {pc pc' : Nat} {lv lv' : List (Nat × Value)} {st : List Value}
theorem x_ialk (C : xC E p s m args c A cc nL own) {a n : Nat} {f : Nat → Int32} {i v : Int32} (j : Nat) (hj : i.toNatClampNeg = j) (hn : ¬ i < 0) (hlt : j < n) (q0 : Nat) (he : ws[q0]? = some (iA E a n f)) (hv : f j = v) (hd : decode cc pc = .ok (.iaload, 1)) (hp : pc + 1 = pc') (kk : X E p l e R s m args below meth c A nL cells slots Q ws pc' lv (.int v :: st)) : X E p l e R s m args below meth c A nL cells slots Q ws pc lv (.int i :: .ref a :: st) := x_iald C q0 he (vp_k hj hn hlt) (by rw [hj]; exact hv) hd hp kk
theorem x_iask (C : xC E p s m args c A cc nL own) {a n : Nat} {f : Nat → Int32} {i x : Int32} {ws1 : va_W} (j : Nat) (hj : i.toNatClampNeg = j) (hn : ¬ i < 0) (hlt : j < n) (q0 : Nat) (he : ws[q0]? = some (iA E a n f)) (hw : ws.set q0 (iA E a n (upd f j x)) = ws1) (hd : decode cc pc = .ok (.iastore, 1)) (hp : pc + 1 = pc') (kk : X E p l e R s m args below meth c A nL cells slots Q ws1 pc' lv st) : X E p l e R s m args below meth c A nL cells slots Q ws pc lv (.int x :: .int i :: .ref a :: st) := x_iast C q0 he (vp_k hj hn hlt) (by rw [hj]; exact hw) hd hp kk
theorem x_bask (C : xC E p s m args c A cc nL own) {a n : Nat} {f : Nat → Int32} {i x : Int32} {ws1 : va_W} (j : Nat) (hj : i.toNatClampNeg = j) (hn : ¬ i < 0) (hlt : j < n) (q0 : Nat) (he : ws[q0]? = some (bA E a n f)) (hw : ws.set q0 (bA E a n (upd f j (vp_nar .byte x))) = ws1) (hd : decode cc pc = .ok (.bastore, 1)) (hp : pc + 1 = pc') (kk : X E p l e R s m args below meth c A nL cells slots Q ws1 pc' lv st) : X E p l e R s m args below meth c A nL cells slots Q ws pc lv (.int x :: .int i :: .ref a :: st) := x_bast C q0 he (vp_k hj hn hlt) (by rw [hj]; exact hw) hd hp kk
/-- the world gets a new name -/
theorem x_nm {P : va_W → Prop} (w : va_W) (h : P w) : ∃ w1, w1 = w ∧ P w1 := ⟨w, rfl, h⟩
end XR3
end
section
theorem w_0 : Cond.initialized RL ∈ gT := gT_in 0 (by decide +kernel) rfl
theorem w_1 : Cond.initialized RX11 ∈ gT := gT_in 1 (by decide +kernel) rfl
theorem w_2 : Cond.initialized RX8 ∈ gT := gT_in 2 (by decide +kernel) rfl
theorem w_3 : Cond.initialized RX9 ∈ gT := gT_in 3 (by decide +kernel) rfl
theorem w_4 : Cond.initialized RX2 ∈ gT := gT_in 4 (by decide +kernel) rfl
theorem w_5 : Cond.initialized RX5 ∈ gT := gT_in 5 (by decide +kernel) rfl
theorem w_6 : Cond.initialized RX1 ∈ gT := gT_in 6 (by decide +kernel) rfl
theorem w_7 : Cond.initialized RX10 ∈ gT := gT_in 7 (by decide +kernel) rfl
theorem w_8 : Cond.initialized RX3 ∈ gT := gT_in 8 (by decide +kernel) rfl
theorem w_9 : Cond.initialized RX0 ∈ gT := gT_in 9 (by decide +kernel) rfl
theorem w_10 : Cond.initialized RX6 ∈ gT := gT_in 10 (by decide +kernel) rfl
theorem w_11 : Cond.initialized RX7 ∈ gT := gT_in 11 (by decide +kernel) rfl
theorem w_12 : Cond.initialized RX12 ∈ gT := gT_in 12 (by decide +kernel) rfl
theorem w_16 : Cond.initialized RJ9 ∈ gT := gT_in 16 (by decide +kernel) rfl
theorem w_20 : Cond.initialized RJ10 ∈ gT := gT_in 20 (by decide +kernel) rfl
theorem w_21 : Cond.initialized RJ6 ∈ gT := gT_in 21 (by decide +kernel) rfl
theorem w_22 : Cond.classLink RL 7 RX11 ∈ gT := gT_in 22 (by decide +kernel) rfl
theorem w_23 : Cond.instantiable RX11 19 ∈ gT := gT_in 23 (by decide +kernel) rfl
theorem w_24 : Cond.methodLink RL 9 yX11_init ∈ gT := gT_in 24 (by decide +kernel) rfl
theorem w_25 : Cond.instanceMethod yX11_init ∈ gT := gT_in 25 (by decide +kernel) rfl
theorem w_26 : Cond.code yX11_init cX11_init 1 none ∈ gT := gT_in 26 (by decide +kernel) rfl
theorem w_27 : Cond.methodLink RX11 1 Lib.objectInit ∈ gT := gT_in 27 (by decide +kernel) rfl
theorem w_28 : Cond.instanceMethod Lib.objectInit ∈ gT := gT_in 28 (by decide +kernel) rfl
theorem w_29 : Cond.code Lib.objectInit ⟨#[0xb1]⟩ 1 none ∈ gT := gT_in 29 (by decide +kernel) rfl
theorem w_30 : Cond.classLink RX11 7 RX8 ∈ gT := gT_in 30 (by decide +kernel) rfl
theorem w_31 : Cond.instantiable RX8 5 ∈ gT := gT_in 31 (by decide +kernel) rfl
theorem n_32 : Cond.methodLinkNest RX11 9 yX8_init "EggTown" ∈ tables_1 := List.mem_of_getElem? (i := 32) (by decide +kernel)
theorem w_33 : Cond.instanceMethod yX8_init ∈ gT := gT_in 33 (by decide +kernel) rfl
theorem w_34 : Cond.code yX8_init cX8_init 1 none ∈ gT := gT_in 34 (by decide +kernel) rfl
theorem w_35 : Cond.methodLink RX8 3 Lib.objectInit ∈ gT := gT_in 35 (by decide +kernel) rfl
theorem w_36 : Cond.fieldLink RX8 9 "EggTown$Tape" "bytes" "[I" ∈ gT := gT_in 36 (by decide +kernel) rfl
theorem w_37 : Cond.fieldLink RX8 15 "EggTown$Tape" "size" "I" ∈ gT := gT_in 37 (by decide +kernel) rfl
theorem w_38 : Cond.fieldLink RX11 142 "EggTown$Tape" "size" "I" ∈ gT := gT_in 38 (by decide +kernel) rfl
theorem w_39 : Cond.fieldLink RX8 19 "EggTown$Tape" "end" "I" ∈ gT := gT_in 39 (by decide +kernel) rfl
theorem w_40 : Cond.fieldLink RX8 22 "EggTown$Tape" "at" "I" ∈ gT := gT_in 40 (by decide +kernel) rfl
theorem w_42 : Cond.fieldLink RX0 61 "EggTown$Tape" "at" "I" ∈ gT := gT_in 42 (by decide +kernel) rfl
theorem w_43 : Cond.fieldLink RX8 25 "EggTown$Tape" "fault" "I" ∈ gT := gT_in 43 (by decide +kernel) rfl
theorem w_55 : Cond.arrayClass .int ∈ gT := gT_in 55 (by decide +kernel) rfl
theorem w_56 : Cond.classLink RX11 19 RX9 ∈ gT := gT_in 56 (by decide +kernel) rfl
theorem w_57 : Cond.instantiable RX9 10 ∈ gT := gT_in 57 (by decide +kernel) rfl
theorem n_58 : Cond.methodLinkNest RX11 21 yX9_init "EggTown" ∈ tables_1 := List.mem_of_getElem? (i := 58) (by decide +kernel)
theorem w_59 : Cond.instanceMethod yX9_init ∈ gT := gT_in 59 (by decide +kernel) rfl
theorem w_60 : Cond.code yX9_init cX9_init 1 none ∈ gT := gT_in 60 (by decide +kernel) rfl
theorem w_61 : Cond.methodLink RX9 3 Lib.objectInit ∈ gT := gT_in 61 (by decide +kernel) rfl
theorem w_62 : Cond.classLink RX9 18 RX2 ∈ gT := gT_in 62 (by decide +kernel) rfl
theorem w_63 : Cond.instantiable RX2 3 ∈ gT := gT_in 63 (by decide +kernel) rfl
theorem n_64 : Cond.methodLinkNest RX9 20 yX2_init "EggTown" ∈ tables_1 := List.mem_of_getElem? (i := 64) (by decide +kernel)
theorem w_65 : Cond.instanceMethod yX2_init ∈ gT := gT_in 65 (by decide +kernel) rfl
theorem w_66 : Cond.code yX2_init cX2_init 1 none ∈ gT := gT_in 66 (by decide +kernel) rfl
theorem w_67 : Cond.methodLink RX2 3 Lib.objectInit ∈ gT := gT_in 67 (by decide +kernel) rfl
theorem w_68 : Cond.fieldLink RX2 9 "EggTown$Hens" "told" "I" ∈ gT := gT_in 68 (by decide +kernel) rfl
theorem w_69 : Cond.fieldLink RX11 119 "EggTown$Hens" "told" "I" ∈ gT := gT_in 69 (by decide +kernel) rfl
theorem w_70 : Cond.fieldLink RX2 15 "EggTown$Hens" "kind" "[I" ∈ gT := gT_in 70 (by decide +kernel) rfl
theorem w_71 : Cond.fieldLink RX3 84 "EggTown$Hens" "kind" "[I" ∈ gT := gT_in 71 (by decide +kernel) rfl
theorem w_72 : Cond.fieldLink RX11 403 "EggTown$Hens" "kind" "[I" ∈ gT := gT_in 72 (by decide +kernel) rfl
theorem w_73 : Cond.fieldLink RX2 19 "EggTown$Hens" "owner" "[I" ∈ gT := gT_in 73 (by decide +kernel) rfl
theorem w_74 : Cond.fieldLink RX3 53 "EggTown$Hens" "owner" "[I" ∈ gT := gT_in 74 (by decide +kernel) rfl
theorem w_75 : Cond.fieldLink RX9 107 "EggTown$Hens" "owner" "[I" ∈ gT := gT_in 75 (by decide +kernel) rfl
theorem w_76 : Cond.fieldLink RX11 406 "EggTown$Hens" "owner" "[I" ∈ gT := gT_in 76 (by decide +kernel) rfl
theorem w_84 : Cond.classLink RX9 25 RX5 ∈ gT := gT_in 84 (by decide +kernel) rfl
theorem w_85 : Cond.instantiable RX5 5 ∈ gT := gT_in 85 (by decide +kernel) rfl
theorem n_86 : Cond.methodLinkNest RX9 27 yX5_init "EggTown" ∈ tables_1 := List.mem_of_getElem? (i := 86) (by decide +kernel)
theorem w_87 : Cond.instanceMethod yX5_init ∈ gT := gT_in 87 (by decide +kernel) rfl
theorem w_88 : Cond.code yX5_init cX5_init 1 none ∈ gT := gT_in 88 (by decide +kernel) rfl
theorem w_89 : Cond.methodLink RX5 3 Lib.objectInit ∈ gT := gT_in 89 (by decide +kernel) rfl
theorem w_90 : Cond.fieldLink RX5 9 "EggTown$People" "told" "I" ∈ gT := gT_in 90 (by decide +kernel) rfl
theorem w_91 : Cond.fieldLink RX11 407 "EggTown$People" "told" "I" ∈ gT := gT_in 91 (by decide +kernel) rfl
theorem w_92 : Cond.fieldLink RX5 15 "EggTown$People" "lived" "[I" ∈ gT := gT_in 92 (by decide +kernel) rfl
theorem w_93 : Cond.fieldLink RX11 235 "EggTown$People" "lived" "[I" ∈ gT := gT_in 93 (by decide +kernel) rfl
theorem w_94 : Cond.fieldLink RX5 19 "EggTown$People" "laid" "[I" ∈ gT := gT_in 94 (by decide +kernel) rfl
theorem w_95 : Cond.fieldLink RX9 115 "EggTown$People" "laid" "[I" ∈ gT := gT_in 95 (by decide +kernel) rfl
theorem w_96 : Cond.fieldLink RX11 238 "EggTown$People" "laid" "[I" ∈ gT := gT_in 96 (by decide +kernel) rfl
theorem w_97 : Cond.fieldLink RX5 22 "EggTown$People" "givenTo" "[I" ∈ gT := gT_in 97 (by decide +kernel) rfl
theorem w_98 : Cond.fieldLink RX9 154 "EggTown$People" "givenTo" "[I" ∈ gT := gT_in 98 (by decide +kernel) rfl
theorem w_99 : Cond.fieldLink RX11 241 "EggTown$People" "givenTo" "[I" ∈ gT := gT_in 99 (by decide +kernel) rfl
theorem w_100 : Cond.fieldLink RX5 25 "EggTown$People" "givenBy" "[I" ∈ gT := gT_in 100 (by decide +kernel) rfl
theorem w_101 : Cond.fieldLink RX9 151 "EggTown$People" "givenBy" "[I" ∈ gT := gT_in 101 (by decide +kernel) rfl
theorem w_102 : Cond.fieldLink RX11 244 "EggTown$People" "givenBy" "[I" ∈ gT := gT_in 102 (by decide +kernel) rfl
theorem w_114 : Cond.classLink RX9 32 RX1 ∈ gT := gT_in 114 (by decide +kernel) rfl
theorem w_115 : Cond.instantiable RX1 7 ∈ gT := gT_in 115 (by decide +kernel) rfl
theorem n_116 : Cond.methodLinkNest RX9 34 yX1_init "EggTown" ∈ tables_1 := List.mem_of_getElem? (i := 116) (by decide +kernel)
theorem w_117 : Cond.instanceMethod yX1_init ∈ gT := gT_in 117 (by decide +kernel) rfl
theorem w_118 : Cond.code yX1_init cX1_init 1 none ∈ gT := gT_in 118 (by decide +kernel) rfl
theorem w_119 : Cond.methodLink RX1 3 Lib.objectInit ∈ gT := gT_in 119 (by decide +kernel) rfl
theorem w_120 : Cond.fieldLink RX1 9 "EggTown$Eggs" "size" "I" ∈ gT := gT_in 120 (by decide +kernel) rfl
theorem w_121 : Cond.fieldLink RX9 83 "EggTown$Eggs" "size" "I" ∈ gT := gT_in 121 (by decide +kernel) rfl
theorem w_122 : Cond.fieldLink RX11 383 "EggTown$Eggs" "size" "I" ∈ gT := gT_in 122 (by decide +kernel) rfl
theorem w_123 : Cond.fieldLink RX1 15 "EggTown$Eggs" "minutes" "[I" ∈ gT := gT_in 123 (by decide +kernel) rfl
theorem w_124 : Cond.fieldLink RX3 71 "EggTown$Eggs" "minutes" "[I" ∈ gT := gT_in 124 (by decide +kernel) rfl
theorem w_125 : Cond.fieldLink RX9 128 "EggTown$Eggs" "minutes" "[I" ∈ gT := gT_in 125 (by decide +kernel) rfl
theorem w_126 : Cond.fieldLink RX11 210 "EggTown$Eggs" "minutes" "[I" ∈ gT := gT_in 126 (by decide +kernel) rfl
theorem w_127 : Cond.fieldLink RX1 19 "EggTown$Eggs" "laidOn" "[I" ∈ gT := gT_in 127 (by decide +kernel) rfl
theorem w_128 : Cond.fieldLink RX3 77 "EggTown$Eggs" "laidOn" "[I" ∈ gT := gT_in 128 (by decide +kernel) rfl
theorem w_129 : Cond.fieldLink RX9 121 "EggTown$Eggs" "laidOn" "[I" ∈ gT := gT_in 129 (by decide +kernel) rfl
theorem w_130 : Cond.fieldLink RX11 213 "EggTown$Eggs" "laidOn" "[I" ∈ gT := gT_in 130 (by decide +kernel) rfl
theorem w_131 : Cond.fieldLink RX1 22 "EggTown$Eggs" "layer" "[I" ∈ gT := gT_in 131 (by decide +kernel) rfl
theorem w_132 : Cond.fieldLink RX3 66 "EggTown$Eggs" "layer" "[I" ∈ gT := gT_in 132 (by decide +kernel) rfl
theorem w_133 : Cond.fieldLink RX11 216 "EggTown$Eggs" "layer" "[I" ∈ gT := gT_in 133 (by decide +kernel) rfl
theorem w_134 : Cond.fieldLink RX1 25 "EggTown$Eggs" "owner" "[I" ∈ gT := gT_in 134 (by decide +kernel) rfl
theorem w_135 : Cond.fieldLink RX3 83 "EggTown$Eggs" "owner" "[I" ∈ gT := gT_in 135 (by decide +kernel) rfl
theorem w_136 : Cond.fieldLink RX0 97 "EggTown$Eggs" "owner" "[I" ∈ gT := gT_in 136 (by decide +kernel) rfl
theorem w_137 : Cond.fieldLink RX9 127 "EggTown$Eggs" "owner" "[I" ∈ gT := gT_in 137 (by decide +kernel) rfl
theorem w_138 : Cond.fieldLink RX11 219 "EggTown$Eggs" "owner" "[I" ∈ gT := gT_in 138 (by decide +kernel) rfl
theorem w_139 : Cond.fieldLink RX1 28 "EggTown$Eggs" "brooded" "[I" ∈ gT := gT_in 139 (by decide +kernel) rfl
theorem w_140 : Cond.fieldLink RX3 80 "EggTown$Eggs" "brooded" "[I" ∈ gT := gT_in 140 (by decide +kernel) rfl
theorem w_141 : Cond.fieldLink RX0 100 "EggTown$Eggs" "brooded" "[I" ∈ gT := gT_in 141 (by decide +kernel) rfl
theorem w_142 : Cond.fieldLink RX9 163 "EggTown$Eggs" "brooded" "[I" ∈ gT := gT_in 142 (by decide +kernel) rfl
theorem w_143 : Cond.fieldLink RX11 222 "EggTown$Eggs" "brooded" "[I" ∈ gT := gT_in 143 (by decide +kernel) rfl
theorem w_144 : Cond.fieldLink RX1 31 "EggTown$Eggs" "state" "[I" ∈ gT := gT_in 144 (by decide +kernel) rfl
theorem w_145 : Cond.fieldLink RX9 124 "EggTown$Eggs" "state" "[I" ∈ gT := gT_in 145 (by decide +kernel) rfl
theorem w_146 : Cond.fieldLink RX11 225 "EggTown$Eggs" "state" "[I" ∈ gT := gT_in 146 (by decide +kernel) rfl
theorem w_162 : Cond.classLink RX9 39 RX10 ∈ gT := gT_in 162 (by decide +kernel) rfl
theorem w_163 : Cond.instantiable RX10 6 ∈ gT := gT_in 163 (by decide +kernel) rfl
theorem n_164 : Cond.methodLinkNest RX9 41 yX10_init "EggTown" ∈ tables_1 := List.mem_of_getElem? (i := 164) (by decide +kernel)
theorem w_165 : Cond.instanceMethod yX10_init ∈ gT := gT_in 165 (by decide +kernel) rfl
theorem w_166 : Cond.code yX10_init cX10_init 1 none ∈ gT := gT_in 166 (by decide +kernel) rfl
theorem w_167 : Cond.methodLink RX10 3 Lib.objectInit ∈ gT := gT_in 167 (by decide +kernel) rfl
theorem w_168 : Cond.fieldLink RX10 9 "EggTown$Works" "told" "I" ∈ gT := gT_in 168 (by decide +kernel) rfl
theorem w_169 : Cond.fieldLink RX11 280 "EggTown$Works" "told" "I" ∈ gT := gT_in 169 (by decide +kernel) rfl
theorem w_170 : Cond.fieldLink RX10 15 "EggTown$Works" "needs" "[I" ∈ gT := gT_in 170 (by decide +kernel) rfl
theorem w_171 : Cond.fieldLink RX6 84 "EggTown$Works" "needs" "[I" ∈ gT := gT_in 171 (by decide +kernel) rfl
theorem w_172 : Cond.fieldLink RX11 258 "EggTown$Works" "needs" "[I" ∈ gT := gT_in 172 (by decide +kernel) rfl
theorem w_173 : Cond.fieldLink RX10 19 "EggTown$Works" "done" "[I" ∈ gT := gT_in 173 (by decide +kernel) rfl
theorem w_174 : Cond.fieldLink RX6 87 "EggTown$Works" "done" "[I" ∈ gT := gT_in 174 (by decide +kernel) rfl
theorem w_175 : Cond.fieldLink RX11 261 "EggTown$Works" "done" "[I" ∈ gT := gT_in 175 (by decide +kernel) rfl
theorem w_176 : Cond.fieldLink RX10 22 "EggTown$Works" "worth" "[I" ∈ gT := gT_in 176 (by decide +kernel) rfl
theorem w_177 : Cond.fieldLink RX6 70 "EggTown$Works" "worth" "[I" ∈ gT := gT_in 177 (by decide +kernel) rfl
theorem w_178 : Cond.fieldLink RX11 264 "EggTown$Works" "worth" "[I" ∈ gT := gT_in 178 (by decide +kernel) rfl
theorem w_179 : Cond.fieldLink RX10 25 "EggTown$Works" "by" "[I" ∈ gT := gT_in 179 (by decide +kernel) rfl
theorem w_180 : Cond.fieldLink RX11 267 "EggTown$Works" "by" "[I" ∈ gT := gT_in 180 (by decide +kernel) rfl
theorem w_181 : Cond.fieldLink RX10 28 "EggTown$Works" "doneOn" "[I" ∈ gT := gT_in 181 (by decide +kernel) rfl
theorem w_195 : Cond.fieldLink RX9 9 "EggTown$Town" "day" "I" ∈ gT := gT_in 195 (by decide +kernel) rfl
theorem w_196 : Cond.fieldLink RX3 74 "EggTown$Town" "day" "I" ∈ gT := gT_in 196 (by decide +kernel) rfl
theorem w_197 : Cond.fieldLink RX11 273 "EggTown$Town" "day" "I" ∈ gT := gT_in 197 (by decide +kernel) rfl
theorem w_198 : Cond.fieldLink RX9 15 "EggTown$Town" "x" "I" ∈ gT := gT_in 198 (by decide +kernel) rfl
theorem w_199 : Cond.fieldLink RX11 394 "EggTown$Town" "x" "I" ∈ gT := gT_in 199 (by decide +kernel) rfl
theorem w_200 : Cond.fieldLink RX9 21 "EggTown$Town" "hens" "LEggTown$Hens;" ∈ gT := gT_in 200 (by decide +kernel) rfl
theorem w_201 : Cond.fieldLink RX11 109 "EggTown$Town" "hens" "LEggTown$Hens;" ∈ gT := gT_in 201 (by decide +kernel) rfl
theorem w_202 : Cond.fieldLink RX3 47 "EggTown$Town" "hens" "LEggTown$Hens;" ∈ gT := gT_in 202 (by decide +kernel) rfl
theorem w_203 : Cond.fieldLink RX9 28 "EggTown$Town" "people" "LEggTown$People;" ∈ gT := gT_in 203 (by decide +kernel) rfl
theorem w_204 : Cond.fieldLink RX11 92 "EggTown$Town" "people" "LEggTown$People;" ∈ gT := gT_in 204 (by decide +kernel) rfl
theorem w_205 : Cond.fieldLink RX0 68 "EggTown$Town" "people" "LEggTown$People;" ∈ gT := gT_in 205 (by decide +kernel) rfl
theorem w_206 : Cond.fieldLink RX9 35 "EggTown$Town" "eggs" "LEggTown$Eggs;" ∈ gT := gT_in 206 (by decide +kernel) rfl
theorem w_207 : Cond.fieldLink RX6 52 "EggTown$Town" "eggs" "LEggTown$Eggs;" ∈ gT := gT_in 207 (by decide +kernel) rfl
theorem w_208 : Cond.fieldLink RX3 62 "EggTown$Town" "eggs" "LEggTown$Eggs;" ∈ gT := gT_in 208 (by decide +kernel) rfl
theorem w_209 : Cond.fieldLink RX11 132 "EggTown$Town" "eggs" "LEggTown$Eggs;" ∈ gT := gT_in 209 (by decide +kernel) rfl
theorem w_210 : Cond.fieldLink RX0 89 "EggTown$Town" "eggs" "LEggTown$Eggs;" ∈ gT := gT_in 210 (by decide +kernel) rfl
theorem w_211 : Cond.fieldLink RX9 42 "EggTown$Town" "works" "LEggTown$Works;" ∈ gT := gT_in 211 (by decide +kernel) rfl
theorem w_212 : Cond.fieldLink RX6 67 "EggTown$Town" "works" "LEggTown$Works;" ∈ gT := gT_in 212 (by decide +kernel) rfl
theorem w_213 : Cond.fieldLink RX11 123 "EggTown$Town" "works" "LEggTown$Works;" ∈ gT := gT_in 213 (by decide +kernel) rfl
theorem w_214 : Cond.fieldLink RX0 79 "EggTown$Town" "works" "LEggTown$Works;" ∈ gT := gT_in 214 (by decide +kernel) rfl
theorem w_215 : Cond.fieldLink RX9 46 "EggTown$Town" "laidEggs" "I" ∈ gT := gT_in 215 (by decide +kernel) rfl
theorem w_216 : Cond.fieldLink RX11 191 "EggTown$Town" "laidEggs" "I" ∈ gT := gT_in 216 (by decide +kernel) rfl
theorem w_217 : Cond.fieldLink RX9 49 "EggTown$Town" "laidMinutes" "I" ∈ gT := gT_in 217 (by decide +kernel) rfl
theorem w_218 : Cond.fieldLink RX11 194 "EggTown$Town" "laidMinutes" "I" ∈ gT := gT_in 218 (by decide +kernel) rfl
theorem w_219 : Cond.fieldLink RX9 52 "EggTown$Town" "badEggs" "I" ∈ gT := gT_in 219 (by decide +kernel) rfl
theorem w_220 : Cond.fieldLink RX11 197 "EggTown$Town" "badEggs" "I" ∈ gT := gT_in 220 (by decide +kernel) rfl
theorem w_221 : Cond.fieldLink RX9 55 "EggTown$Town" "strikes" "I" ∈ gT := gT_in 221 (by decide +kernel) rfl
theorem w_222 : Cond.fieldLink RX11 200 "EggTown$Town" "strikes" "I" ∈ gT := gT_in 222 (by decide +kernel) rfl
theorem w_244 : Cond.classLink RX11 36 RX3 ∈ gT := gT_in 244 (by decide +kernel) rfl
theorem w_245 : Cond.instantiable RX3 10 ∈ gT := gT_in 245 (by decide +kernel) rfl
theorem n_246 : Cond.methodLinkNest RX11 38 yX3_init "EggTown" ∈ tables_1 := List.mem_of_getElem? (i := 246) (by decide +kernel)
theorem w_247 : Cond.instanceMethod yX3_init ∈ gT := gT_in 247 (by decide +kernel) rfl
theorem w_248 : Cond.code yX3_init cX3_init 1 none ∈ gT := gT_in 248 (by decide +kernel) rfl
theorem w_249 : Cond.methodLink RX3 3 Lib.objectInit ∈ gT := gT_in 249 (by decide +kernel) rfl
theorem w_250 : Cond.fieldLink RX3 9 "EggTown$Law" "clauses" "I" ∈ gT := gT_in 250 (by decide +kernel) rfl
theorem w_252 : Cond.fieldLink RX11 165 "EggTown$Law" "clauses" "I" ∈ gT := gT_in 252 (by decide +kernel) rfl
theorem w_253 : Cond.fieldLink RX3 15 "EggTown$Law" "letter" "[I" ∈ gT := gT_in 253 (by decide +kernel) rfl
theorem w_255 : Cond.fieldLink RX3 19 "EggTown$Law" "valueAt" "[I" ∈ gT := gT_in 255 (by decide +kernel) rfl
theorem w_257 : Cond.fieldLink RX3 22 "EggTown$Law" "conditionAt" "[I" ∈ gT := gT_in 257 (by decide +kernel) rfl
theorem w_259 : Cond.fieldLink RX3 25 "EggTown$Law" "endAt" "[I" ∈ gT := gT_in 259 (by decide +kernel) rfl
theorem w_261 : Cond.fieldLink RX3 28 "EggTown$Law" "size" "I" ∈ gT := gT_in 261 (by decide +kernel) rfl
theorem w_263 : Cond.fieldLink RX3 31 "EggTown$Law" "code" "[I" ∈ gT := gT_in 263 (by decide +kernel) rfl
theorem w_264 : Cond.fieldLink RX3 34 "EggTown$Law" "told" "[I" ∈ gT := gT_in 264 (by decide +kernel) rfl
theorem w_265 : Cond.fieldLink RX3 37 "EggTown$Law" "stack" "[I" ∈ gT := gT_in 265 (by decide +kernel) rfl
theorem w_266 : Cond.fieldLink RX3 40 "EggTown$Law" "top" "I" ∈ gT := gT_in 266 (by decide +kernel) rfl
theorem w_288 : Cond.classLink RX11 46 RX0 ∈ gT := gT_in 288 (by decide +kernel) rfl
theorem w_289 : Cond.instantiable RX0 6 ∈ gT := gT_in 289 (by decide +kernel) rfl
theorem n_290 : Cond.methodLinkNest RX11 48 yX0_init "EggTown" ∈ tables_1 := List.mem_of_getElem? (i := 290) (by decide +kernel)
theorem w_291 : Cond.instanceMethod yX0_init ∈ gT := gT_in 291 (by decide +kernel) rfl
theorem w_292 : Cond.code yX0_init cX0_init 1 none ∈ gT := gT_in 292 (by decide +kernel) rfl
theorem w_293 : Cond.methodLink RX0 3 Lib.objectInit ∈ gT := gT_in 293 (by decide +kernel) rfl
theorem w_294 : Cond.fieldLink RX0 9 "EggTown$Acts" "size" "I" ∈ gT := gT_in 294 (by decide +kernel) rfl
theorem w_295 : Cond.fieldLink RX11 171 "EggTown$Acts" "size" "I" ∈ gT := gT_in 295 (by decide +kernel) rfl
theorem w_296 : Cond.fieldLink RX0 15 "EggTown$Acts" "signs" "[I" ∈ gT := gT_in 296 (by decide +kernel) rfl
theorem w_297 : Cond.fieldLink RX0 19 "EggTown$Acts" "targets" "[I" ∈ gT := gT_in 297 (by decide +kernel) rfl
theorem w_298 : Cond.fieldLink RX0 22 "EggTown$Acts" "starts" "[I" ∈ gT := gT_in 298 (by decide +kernel) rfl
theorem w_299 : Cond.fieldLink RX0 25 "EggTown$Acts" "eggs" "[I" ∈ gT := gT_in 299 (by decide +kernel) rfl
theorem w_300 : Cond.fieldLink RX0 28 "EggTown$Acts" "told" "I" ∈ gT := gT_in 300 (by decide +kernel) rfl
theorem w_314 : Cond.classLink RX11 53 RX6 ∈ gT := gT_in 314 (by decide +kernel) rfl
theorem w_315 : Cond.instantiable RX6 13 ∈ gT := gT_in 315 (by decide +kernel) rfl
theorem n_316 : Cond.methodLinkNest RX11 55 yX6_init "EggTown" ∈ tables_1 := List.mem_of_getElem? (i := 316) (by decide +kernel)
theorem w_317 : Cond.instanceMethod yX6_init ∈ gT := gT_in 317 (by decide +kernel) rfl
theorem w_318 : Cond.code yX6_init cX6_init 1 none ∈ gT := gT_in 318 (by decide +kernel) rfl
theorem w_319 : Cond.methodLink RX6 3 Lib.objectInit ∈ gT := gT_in 319 (by decide +kernel) rfl
theorem w_320 : Cond.fieldLink RX6 9 "EggTown$Plan" "eggs" "[I" ∈ gT := gT_in 320 (by decide +kernel) rfl
theorem w_321 : Cond.fieldLink RX6 15 "EggTown$Plan" "towards" "[I" ∈ gT := gT_in 321 (by decide +kernel) rfl
theorem w_322 : Cond.fieldLink RX6 18 "EggTown$Plan" "size" "I" ∈ gT := gT_in 322 (by decide +kernel) rfl
theorem w_323 : Cond.fieldLink RX6 22 "EggTown$Plan" "works" "I" ∈ gT := gT_in 323 (by decide +kernel) rfl
theorem w_324 : Cond.fieldLink RX6 25 "EggTown$Plan" "numbers" "[I" ∈ gT := gT_in 324 (by decide +kernel) rfl
theorem w_325 : Cond.fieldLink RX6 28 "EggTown$Plan" "worth" "[I" ∈ gT := gT_in 325 (by decide +kernel) rfl
theorem w_326 : Cond.fieldLink RX6 31 "EggTown$Plan" "fit" "[I" ∈ gT := gT_in 326 (by decide +kernel) rfl
theorem w_327 : Cond.fieldLink RX6 34 "EggTown$Plan" "fits" "[I" ∈ gT := gT_in 327 (by decide +kernel) rfl
theorem w_328 : Cond.fieldLink RX6 37 "EggTown$Plan" "fewest" "[I" ∈ gT := gT_in 328 (by decide +kernel) rfl
theorem w_329 : Cond.fieldLink RX6 40 "EggTown$Plan" "hope" "[I" ∈ gT := gT_in 329 (by decide +kernel) rfl
theorem w_330 : Cond.fieldLink RX6 43 "EggTown$Plan" "row" "[I" ∈ gT := gT_in 330 (by decide +kernel) rfl
theorem w_331 : Cond.fieldLink RX6 46 "EggTown$Plan" "bestRow" "[I" ∈ gT := gT_in 331 (by decide +kernel) rfl
theorem w_332 : Cond.fieldLink RX6 49 "EggTown$Plan" "best" "I" ∈ gT := gT_in 332 (by decide +kernel) rfl
theorem w_360 : Cond.classLink RX11 60 RX7 ∈ gT := gT_in 360 (by decide +kernel) rfl
theorem w_361 : Cond.instantiable RX7 5 ∈ gT := gT_in 361 (by decide +kernel) rfl
theorem n_362 : Cond.methodLinkNest RX11 62 yX7_init "EggTown" ∈ tables_1 := List.mem_of_getElem? (i := 362) (by decide +kernel)
theorem w_363 : Cond.instanceMethod yX7_init ∈ gT := gT_in 363 (by decide +kernel) rfl
theorem w_364 : Cond.code yX7_init cX7_init 1 none ∈ gT := gT_in 364 (by decide +kernel) rfl
theorem w_365 : Cond.methodLink RX7 3 Lib.objectInit ∈ gT := gT_in 365 (by decide +kernel) rfl
theorem w_366 : Cond.fieldLink RX7 9 "EggTown$Sets" "found" "I" ∈ gT := gT_in 366 (by decide +kernel) rfl
theorem w_367 : Cond.fieldLink RX11 355 "EggTown$Sets" "found" "I" ∈ gT := gT_in 367 (by decide +kernel) rfl
theorem w_368 : Cond.fieldLink RX7 15 "EggTown$Sets" "least" "I" ∈ gT := gT_in 368 (by decide +kernel) rfl
theorem w_369 : Cond.fieldLink RX11 358 "EggTown$Sets" "least" "I" ∈ gT := gT_in 369 (by decide +kernel) rfl
theorem w_370 : Cond.fieldLink RX7 18 "EggTown$Sets" "fewest" "I" ∈ gT := gT_in 370 (by decide +kernel) rfl
theorem w_371 : Cond.fieldLink RX11 365 "EggTown$Sets" "fewest" "I" ∈ gT := gT_in 371 (by decide +kernel) rfl
theorem w_372 : Cond.fieldLink RX7 21 "EggTown$Sets" "minutes" "[I" ∈ gT := gT_in 372 (by decide +kernel) rfl
theorem w_373 : Cond.fieldLink RX7 25 "EggTown$Sets" "size" "I" ∈ gT := gT_in 373 (by decide +kernel) rfl
theorem w_385 : Cond.fieldLink RX11 10 "EggTown" "tape" "LEggTown$Tape;" ∈ gT := gT_in 385 (by decide +kernel) rfl
theorem w_386 : Cond.fieldLink RX11 16 "EggTown" "keptTape" "LEggTown$Tape;" ∈ gT := gT_in 386 (by decide +kernel) rfl
theorem w_387 : Cond.fieldLink RX11 22 "EggTown" "now" "LEggTown$Town;" ∈ gT := gT_in 387 (by decide +kernel) rfl
theorem w_388 : Cond.fieldLink RX11 26 "EggTown" "kept" "LEggTown$Town;" ∈ gT := gT_in 388 (by decide +kernel) rfl
theorem w_389 : Cond.fieldLink RX11 29 "EggTown" "trial" "LEggTown$Town;" ∈ gT := gT_in 389 (by decide +kernel) rfl
theorem w_390 : Cond.fieldLink RX11 32 "EggTown" "hasKept" "Z" ∈ gT := gT_in 390 (by decide +kernel) rfl
theorem w_391 : Cond.fieldLink RX11 39 "EggTown" "ruling" "LEggTown$Law;" ∈ gT := gT_in 391 (by decide +kernel) rfl
theorem w_392 : Cond.fieldLink RX11 43 "EggTown" "spare" "LEggTown$Law;" ∈ gT := gT_in 392 (by decide +kernel) rfl
theorem w_393 : Cond.fieldLink RX11 49 "EggTown" "lines" "LEggTown$Acts;" ∈ gT := gT_in 393 (by decide +kernel) rfl
theorem w_394 : Cond.fieldLink RX11 56 "EggTown" "planning" "LEggTown$Plan;" ∈ gT := gT_in 394 (by decide +kernel) rfl
theorem w_395 : Cond.fieldLink RX11 63 "EggTown" "sets" "LEggTown$Sets;" ∈ gT := gT_in 395 (by decide +kernel) rfl
theorem w_396 : Cond.fieldLink RX11 67 "EggTown" "handful" "[I" ∈ gT := gT_in 396 (by decide +kernel) rfl
theorem w_397 : Cond.fieldLink RX11 71 "EggTown" "lastDays" "[I" ∈ gT := gT_in 397 (by decide +kernel) rfl
theorem w_398 : Cond.fieldLink RX11 74 "EggTown" "room" "[I" ∈ gT := gT_in 398 (by decide +kernel) rfl
theorem w_399 : Cond.fieldLink RX11 77 "EggTown" "hours" "[I" ∈ gT := gT_in 399 (by decide +kernel) rfl
theorem w_400 : Cond.fieldLink RX11 80 "EggTown" "shares" "[I" ∈ gT := gT_in 400 (by decide +kernel) rfl
theorem w_401 : Cond.fieldLink RX11 83 "EggTown" "row" "[I" ∈ gT := gT_in 401 (by decide +kernel) rfl
theorem w_402 : Cond.fieldLink RX11 86 "EggTown" "bestRow" "[I" ∈ gT := gT_in 402 (by decide +kernel) rfl
theorem w_403 : Cond.fieldLink RX11 89 "EggTown" "worths" "[I" ∈ gT := gT_in 403 (by decide +kernel) rfl
theorem w_443 : Cond.methodLink RL 13 yX11_person ∈ gT := gT_in 443 (by decide +kernel) rfl
theorem w_444 : Cond.instanceMethod yX11_person ∈ gT := gT_in 444 (by decide +kernel) rfl
theorem w_445 : Cond.selects RX11 yX11_person yX11_person ∈ gT := gT_in 445 (by decide +kernel) rfl
theorem w_446 : Cond.code yX11_person cX11_person 2 (some .boolean) ∈ gT := gT_in 446 (by decide +kernel) rfl
theorem w_447 : Cond.methodLink RX11 96 yX5_tell ∈ gT := gT_in 447 (by decide +kernel) rfl
theorem w_448 : Cond.instanceMethod yX5_tell ∈ gT := gT_in 448 (by decide +kernel) rfl
theorem w_449 : Cond.selects RX5 yX5_tell yX5_tell ∈ gT := gT_in 449 (by decide +kernel) rfl
theorem w_450 : Cond.code yX5_tell cX5_tell 2 (some .boolean) ∈ gT := gT_in 450 (by decide +kernel) rfl
theorem w_451 : Cond.methodLink RX5 32 yX5_isTold ∈ gT := gT_in 451 (by decide +kernel) rfl
theorem w_452 : Cond.instanceMethod yX5_isTold ∈ gT := gT_in 452 (by decide +kernel) rfl
theorem w_453 : Cond.selects RX5 yX5_isTold yX5_isTold ∈ gT := gT_in 453 (by decide +kernel) rfl
theorem w_454 : Cond.code yX5_isTold cX5_isTold 2 (some .boolean) ∈ gT := gT_in 454 (by decide +kernel) rfl
theorem n_455 : Cond.methodLinkNest RX5 28 yX11_isIn "EggTown" ∈ tables_1 := List.mem_of_getElem? (i := 455) (by decide +kernel)
theorem w_456 : Cond.static yX11_isIn ∈ gT := gT_in 456 (by decide +kernel) rfl
theorem w_457 : Cond.code yX11_isIn cX11_isIn 2 (some .boolean) ∈ gT := gT_in 457 (by decide +kernel) rfl
theorem w_458 : Cond.methodLink RL 18 yX11_hen ∈ gT := gT_in 458 (by decide +kernel) rfl
theorem w_459 : Cond.instanceMethod yX11_hen ∈ gT := gT_in 459 (by decide +kernel) rfl
theorem w_460 : Cond.selects RX11 yX11_hen yX11_hen ∈ gT := gT_in 460 (by decide +kernel) rfl
theorem w_461 : Cond.code yX11_hen cX11_hen 4 (some .boolean) ∈ gT := gT_in 461 (by decide +kernel) rfl
theorem w_462 : Cond.methodLink RX11 102 yX11_isWithin ∈ gT := gT_in 462 (by decide +kernel) rfl
theorem w_463 : Cond.static yX11_isWithin ∈ gT := gT_in 463 (by decide +kernel) rfl
theorem w_464 : Cond.code yX11_isWithin cX11_isWithin 3 (some .boolean) ∈ gT := gT_in 464 (by decide +kernel) rfl
theorem w_465 : Cond.methodLink RX11 106 yX5_isTold ∈ gT := gT_in 465 (by decide +kernel) rfl
theorem w_466 : Cond.methodLink RX11 113 yX2_tell ∈ gT := gT_in 466 (by decide +kernel) rfl
theorem w_467 : Cond.instanceMethod yX2_tell ∈ gT := gT_in 467 (by decide +kernel) rfl
theorem w_468 : Cond.selects RX2 yX2_tell yX2_tell ∈ gT := gT_in 468 (by decide +kernel) rfl
theorem w_469 : Cond.code yX2_tell cX2_tell 4 none ∈ gT := gT_in 469 (by decide +kernel) rfl
theorem w_470 : Cond.methodLink RL 23 yX11_fox ∈ gT := gT_in 470 (by decide +kernel) rfl
theorem w_471 : Cond.instanceMethod yX11_fox ∈ gT := gT_in 471 (by decide +kernel) rfl
theorem w_472 : Cond.selects RX11 yX11_fox yX11_fox ∈ gT := gT_in 472 (by decide +kernel) rfl
theorem w_473 : Cond.code yX11_fox cX11_fox 2 (some .boolean) ∈ gT := gT_in 473 (by decide +kernel) rfl
theorem w_474 : Cond.methodLink RX11 118 yX2_isTold ∈ gT := gT_in 474 (by decide +kernel) rfl
theorem w_475 : Cond.instanceMethod yX2_isTold ∈ gT := gT_in 475 (by decide +kernel) rfl
theorem w_476 : Cond.selects RX2 yX2_isTold yX2_isTold ∈ gT := gT_in 476 (by decide +kernel) rfl
theorem w_477 : Cond.code yX2_isTold cX2_isTold 2 (some .boolean) ∈ gT := gT_in 477 (by decide +kernel) rfl
theorem n_478 : Cond.methodLinkNest RX2 22 yX11_isIn "EggTown" ∈ tables_1 := List.mem_of_getElem? (i := 478) (by decide +kernel)
theorem w_479 : Cond.methodLink RL 27 yX11_work ∈ gT := gT_in 479 (by decide +kernel) rfl
theorem w_480 : Cond.instanceMethod yX11_work ∈ gT := gT_in 480 (by decide +kernel) rfl
theorem w_481 : Cond.selects RX11 yX11_work yX11_work ∈ gT := gT_in 481 (by decide +kernel) rfl
theorem w_482 : Cond.code yX11_work cX11_work 5 (some .boolean) ∈ gT := gT_in 482 (by decide +kernel) rfl
theorem w_483 : Cond.methodLink RX11 127 yX10_tell ∈ gT := gT_in 483 (by decide +kernel) rfl
theorem w_484 : Cond.instanceMethod yX10_tell ∈ gT := gT_in 484 (by decide +kernel) rfl
theorem w_485 : Cond.selects RX10 yX10_tell yX10_tell ∈ gT := gT_in 485 (by decide +kernel) rfl
theorem w_486 : Cond.code yX10_tell cX10_tell 5 none ∈ gT := gT_in 486 (by decide +kernel) rfl
theorem w_487 : Cond.methodLink RL 32 yX11_clean ∈ gT := gT_in 487 (by decide +kernel) rfl
theorem w_488 : Cond.instanceMethod yX11_clean ∈ gT := gT_in 488 (by decide +kernel) rfl
theorem w_489 : Cond.selects RX11 yX11_clean yX11_clean ∈ gT := gT_in 489 (by decide +kernel) rfl
theorem w_490 : Cond.code yX11_clean cX11_clean 1 (some .int) ∈ gT := gT_in 490 (by decide +kernel) rfl
theorem w_491 : Cond.methodLink RX11 136 yX1_sweepOut ∈ gT := gT_in 491 (by decide +kernel) rfl
theorem w_492 : Cond.instanceMethod yX1_sweepOut ∈ gT := gT_in 492 (by decide +kernel) rfl
theorem w_493 : Cond.selects RX1 yX1_sweepOut yX1_sweepOut ∈ gT := gT_in 493 (by decide +kernel) rfl
theorem w_494 : Cond.code yX1_sweepOut cX1_sweepOut 3 (some .int) ∈ gT := gT_in 494 (by decide +kernel) rfl
theorem w_495 : Cond.methodLink RL 37 yX11_feed ∈ gT := gT_in 495 (by decide +kernel) rfl
theorem w_496 : Cond.instanceMethod yX11_feed ∈ gT := gT_in 496 (by decide +kernel) rfl
theorem w_497 : Cond.selects RX11 yX11_feed yX11_feed ∈ gT := gT_in 497 (by decide +kernel) rfl
theorem w_498 : Cond.code yX11_feed cX11_feed 6 (some .int) ∈ gT := gT_in 498 (by decide +kernel) rfl
theorem w_499 : Cond.methodLink RX11 145 yX8_addWord ∈ gT := gT_in 499 (by decide +kernel) rfl
theorem w_500 : Cond.instanceMethod yX8_addWord ∈ gT := gT_in 500 (by decide +kernel) rfl
theorem w_501 : Cond.selects RX8 yX8_addWord yX8_addWord ∈ gT := gT_in 501 (by decide +kernel) rfl
theorem w_502 : Cond.code yX8_addWord cX8_addWord 3 none ∈ gT := gT_in 502 (by decide +kernel) rfl
theorem w_503 : Cond.methodLink RL 42 yX11_law ∈ gT := gT_in 503 (by decide +kernel) rfl
theorem w_504 : Cond.instanceMethod yX11_law ∈ gT := gT_in 504 (by decide +kernel) rfl
theorem w_505 : Cond.selects RX11 yX11_law yX11_law ∈ gT := gT_in 505 (by decide +kernel) rfl
theorem w_506 : Cond.code yX11_law cX11_law 4 (some .int) ∈ gT := gT_in 506 (by decide +kernel) rfl
theorem w_507 : Cond.methodLink RX11 149 yX8_holds ∈ gT := gT_in 507 (by decide +kernel) rfl
theorem w_508 : Cond.instanceMethod yX8_holds ∈ gT := gT_in 508 (by decide +kernel) rfl
theorem w_509 : Cond.selects RX8 yX8_holds yX8_holds ∈ gT := gT_in 509 (by decide +kernel) rfl
theorem w_510 : Cond.code yX8_holds cX8_holds 5 (some .boolean) ∈ gT := gT_in 510 (by decide +kernel) rfl
theorem w_511 : Cond.methodLink RX11 153 yX8_startText ∈ gT := gT_in 511 (by decide +kernel) rfl
theorem w_512 : Cond.instanceMethod yX8_startText ∈ gT := gT_in 512 (by decide +kernel) rfl
theorem w_513 : Cond.selects RX8 yX8_startText yX8_startText ∈ gT := gT_in 513 (by decide +kernel) rfl
theorem w_514 : Cond.code yX8_startText cX8_startText 2 none ∈ gT := gT_in 514 (by decide +kernel) rfl
theorem w_523 : Cond.instanceMethod yX8_sign ∈ gT := gT_in 523 (by decide +kernel) rfl
theorem w_524 : Cond.selects RX8 yX8_sign yX8_sign ∈ gT := gT_in 524 (by decide +kernel) rfl
theorem w_525 : Cond.code yX8_sign cX8_sign 1 (some .int) ∈ gT := gT_in 525 (by decide +kernel) rfl
theorem w_558 : Cond.static yJ9_max_7cf53 ∈ gT := gT_in 558 (by decide +kernel) rfl
theorem w_559 : Cond.code yJ9_max_7cf53 cJ9_max_7cf53 2 (some .int) ∈ gT := gT_in 559 (by decide +kernel) rfl
theorem w_561 : Cond.static yJ9_min_7cf53 ∈ gT := gT_in 561 (by decide +kernel) rfl
theorem w_562 : Cond.code yJ9_min_7cf53 cJ9_min_7cf53 2 (some .int) ∈ gT := gT_in 562 (by decide +kernel) rfl
theorem w_616 : Cond.instanceMethod yX8_fails ∈ gT := gT_in 616 (by decide +kernel) rfl
theorem w_617 : Cond.selects RX8 yX8_fails yX8_fails ∈ gT := gT_in 617 (by decide +kernel) rfl
theorem w_618 : Cond.code yX8_fails cX8_fails 2 (some .boolean) ∈ gT := gT_in 618 (by decide +kernel) rfl
theorem w_626 : Cond.static yX11_isDigit ∈ gT := gT_in 626 (by decide +kernel) rfl
theorem w_627 : Cond.code yX11_isDigit cX11_isDigit 1 (some .boolean) ∈ gT := gT_in 627 (by decide +kernel) rfl
theorem w_632 : Cond.instanceMethod yX3_emit ∈ gT := gT_in 632 (by decide +kernel) rfl
theorem w_633 : Cond.selects RX3 yX3_emit yX3_emit ∈ gT := gT_in 633 (by decide +kernel) rfl
theorem w_634 : Cond.code yX3_emit cX3_emit 3 none ∈ gT := gT_in 634 (by decide +kernel) rfl
theorem w_636 : Cond.instanceMethod yX8_takes ∈ gT := gT_in 636 (by decide +kernel) rfl
theorem w_637 : Cond.selects RX8 yX8_takes yX8_takes ∈ gT := gT_in 637 (by decide +kernel) rfl
theorem w_638 : Cond.code yX8_takes cX8_takes 2 (some .boolean) ∈ gT := gT_in 638 (by decide +kernel) rfl
theorem w_639 : Cond.methodLink RX8 35 yX8_sign ∈ gT := gT_in 639 (by decide +kernel) rfl
theorem w_640 : Cond.methodLink RX8 39 yX8_fails ∈ gT := gT_in 640 (by decide +kernel) rfl
theorem w_652 : Cond.instanceMethod yX3_aim ∈ gT := gT_in 652 (by decide +kernel) rfl
theorem w_653 : Cond.selects RX3 yX3_aim yX3_aim ∈ gT := gT_in 653 (by decide +kernel) rfl
theorem w_654 : Cond.code yX3_aim cX3_aim 2 none ∈ gT := gT_in 654 (by decide +kernel) rfl
theorem w_655 : Cond.methodLink RX11 162 yX8_faultAnswer ∈ gT := gT_in 655 (by decide +kernel) rfl
theorem w_656 : Cond.instanceMethod yX8_faultAnswer ∈ gT := gT_in 656 (by decide +kernel) rfl
theorem w_657 : Cond.selects RX8 yX8_faultAnswer yX8_faultAnswer ∈ gT := gT_in 657 (by decide +kernel) rfl
theorem w_658 : Cond.code yX8_faultAnswer cX8_faultAnswer 1 (some .int) ∈ gT := gT_in 658 (by decide +kernel) rfl
theorem w_659 : Cond.arrayClass .byte ∈ gT := gT_in 659 (by decide +kernel) rfl
theorem w_660 : Cond.methodLink RL 47 yX11_acts ∈ gT := gT_in 660 (by decide +kernel) rfl
theorem w_661 : Cond.instanceMethod yX11_acts ∈ gT := gT_in 661 (by decide +kernel) rfl
theorem w_662 : Cond.selects RX11 yX11_acts yX11_acts ∈ gT := gT_in 662 (by decide +kernel) rfl
theorem w_663 : Cond.code yX11_acts cX11_acts 4 (some .int) ∈ gT := gT_in 663 (by decide +kernel) rfl
theorem w_664 : Cond.methodLink RX11 168 yX11_readActs ∈ gT := gT_in 664 (by decide +kernel) rfl
theorem w_666 : Cond.instanceMethod yX11_readActs ∈ gT := gT_in 666 (by decide +kernel) rfl
theorem w_667 : Cond.code yX11_readActs cX11_readActs 3 (some .boolean) ∈ gT := gT_in 667 (by decide +kernel) rfl
theorem w_668 : Cond.methodLink RX11 184 yX0_read ∈ gT := gT_in 668 (by decide +kernel) rfl
theorem w_669 : Cond.instanceMethod yX0_read ∈ gT := gT_in 669 (by decide +kernel) rfl
theorem w_670 : Cond.selects RX0 yX0_read yX0_read ∈ gT := gT_in 670 (by decide +kernel) rfl
theorem w_671 : Cond.code yX0_read cX0_read 3 (some .boolean) ∈ gT := gT_in 671 (by decide +kernel) rfl
theorem w_672 : Cond.methodLink RX0 31 yX0_line ∈ gT := gT_in 672 (by decide +kernel) rfl
theorem w_674 : Cond.instanceMethod yX0_line ∈ gT := gT_in 674 (by decide +kernel) rfl
theorem w_675 : Cond.code yX0_line cX0_line 4 (some .boolean) ∈ gT := gT_in 675 (by decide +kernel) rfl
theorem w_676 : Cond.methodLink RX0 35 yX8_sign ∈ gT := gT_in 676 (by decide +kernel) rfl
theorem n_677 : Cond.methodLinkNest RX0 48 yX11_isDigit "EggTown" ∈ tables_1 := List.mem_of_getElem? (i := 677) (by decide +kernel)
theorem w_678 : Cond.methodLink RX0 45 yX8_fails ∈ gT := gT_in 678 (by decide +kernel) rfl
theorem w_679 : Cond.methodLink RX0 51 yX0_someEggs ∈ gT := gT_in 679 (by decide +kernel) rfl
theorem w_681 : Cond.instanceMethod yX0_someEggs ∈ gT := gT_in 681 (by decide +kernel) rfl
theorem w_682 : Cond.code yX0_someEggs cX0_someEggs 4 (some .boolean) ∈ gT := gT_in 682 (by decide +kernel) rfl
theorem w_683 : Cond.methodLink RX0 55 yX0_oneEgg ∈ gT := gT_in 683 (by decide +kernel) rfl
theorem w_685 : Cond.instanceMethod yX0_oneEgg ∈ gT := gT_in 685 (by decide +kernel) rfl
theorem w_686 : Cond.code yX0_oneEgg cX0_oneEgg 6 (some .boolean) ∈ gT := gT_in 686 (by decide +kernel) rfl
theorem w_687 : Cond.methodLink RX0 64 yX8_failsAt ∈ gT := gT_in 687 (by decide +kernel) rfl
theorem w_688 : Cond.instanceMethod yX8_failsAt ∈ gT := gT_in 688 (by decide +kernel) rfl
theorem w_689 : Cond.selects RX8 yX8_failsAt yX8_failsAt ∈ gT := gT_in 689 (by decide +kernel) rfl
theorem w_690 : Cond.code yX8_failsAt cX8_failsAt 3 (some .boolean) ∈ gT := gT_in 690 (by decide +kernel) rfl
theorem w_691 : Cond.methodLink RX0 41 yX8_takes ∈ gT := gT_in 691 (by decide +kernel) rfl
theorem w_692 : Cond.methodLink RX0 58 yX0_whatIsDone ∈ gT := gT_in 692 (by decide +kernel) rfl
theorem w_694 : Cond.instanceMethod yX0_whatIsDone ∈ gT := gT_in 694 (by decide +kernel) rfl
theorem w_695 : Cond.code yX0_whatIsDone cX0_whatIsDone 5 (some .boolean) ∈ gT := gT_in 695 (by decide +kernel) rfl
theorem w_696 : Cond.methodLink RX11 172 yX0_canBe ∈ gT := gT_in 696 (by decide +kernel) rfl
theorem w_697 : Cond.instanceMethod yX0_canBe ∈ gT := gT_in 697 (by decide +kernel) rfl
theorem w_698 : Cond.selects RX0 yX0_canBe yX0_canBe ∈ gT := gT_in 698 (by decide +kernel) rfl
theorem w_699 : Cond.code yX0_canBe cX0_canBe 7 (some .boolean) ∈ gT := gT_in 699 (by decide +kernel) rfl
theorem w_700 : Cond.methodLink RX0 74 yX5_isTold ∈ gT := gT_in 700 (by decide +kernel) rfl
theorem w_701 : Cond.methodLink RX0 83 yX10_isTold ∈ gT := gT_in 701 (by decide +kernel) rfl
theorem w_702 : Cond.instanceMethod yX10_isTold ∈ gT := gT_in 702 (by decide +kernel) rfl
theorem w_703 : Cond.selects RX10 yX10_isTold yX10_isTold ∈ gT := gT_in 703 (by decide +kernel) rfl
theorem w_704 : Cond.code yX10_isTold cX10_isTold 2 (some .boolean) ∈ gT := gT_in 704 (by decide +kernel) rfl
theorem n_705 : Cond.methodLinkNest RX10 31 yX11_isIn "EggTown" ∈ tables_1 := List.mem_of_getElem? (i := 705) (by decide +kernel)
theorem w_706 : Cond.methodLink RX0 86 yX10_isDone ∈ gT := gT_in 706 (by decide +kernel) rfl
theorem w_707 : Cond.instanceMethod yX10_isDone ∈ gT := gT_in 707 (by decide +kernel) rfl
theorem w_708 : Cond.selects RX10 yX10_isDone yX10_isDone ∈ gT := gT_in 708 (by decide +kernel) rfl
theorem w_709 : Cond.code yX10_isDone cX10_isDone 2 (some .boolean) ∈ gT := gT_in 709 (by decide +kernel) rfl
theorem w_710 : Cond.methodLink RX10 35 yX10_isTold ∈ gT := gT_in 710 (by decide +kernel) rfl
theorem w_711 : Cond.methodLink RX0 92 yX1_isWhole ∈ gT := gT_in 711 (by decide +kernel) rfl
theorem w_712 : Cond.instanceMethod yX1_isWhole ∈ gT := gT_in 712 (by decide +kernel) rfl
theorem w_713 : Cond.selects RX1 yX1_isWhole yX1_isWhole ∈ gT := gT_in 713 (by decide +kernel) rfl
theorem w_714 : Cond.code yX1_isWhole cX1_isWhole 2 (some .boolean) ∈ gT := gT_in 714 (by decide +kernel) rfl
theorem w_715 : Cond.methodLink RX1 34 yX1_isLaid ∈ gT := gT_in 715 (by decide +kernel) rfl
theorem w_716 : Cond.instanceMethod yX1_isLaid ∈ gT := gT_in 716 (by decide +kernel) rfl
theorem w_717 : Cond.selects RX1 yX1_isLaid yX1_isLaid ∈ gT := gT_in 717 (by decide +kernel) rfl
theorem w_718 : Cond.code yX1_isLaid cX1_isLaid 2 (some .boolean) ∈ gT := gT_in 718 (by decide +kernel) rfl
theorem w_719 : Cond.methodLink RX11 176 yX0_carryOut ∈ gT := gT_in 719 (by decide +kernel) rfl
theorem w_720 : Cond.instanceMethod yX0_carryOut ∈ gT := gT_in 720 (by decide +kernel) rfl
theorem w_721 : Cond.selects RX0 yX0_carryOut yX0_carryOut ∈ gT := gT_in 721 (by decide +kernel) rfl
theorem w_722 : Cond.code yX0_carryOut cX0_carryOut 6 none ∈ gT := gT_in 722 (by decide +kernel) rfl
theorem w_723 : Cond.methodLink RX0 103 yX9_give ∈ gT := gT_in 723 (by decide +kernel) rfl
theorem w_724 : Cond.instanceMethod yX9_give ∈ gT := gT_in 724 (by decide +kernel) rfl
theorem w_725 : Cond.selects RX9 yX9_give yX9_give ∈ gT := gT_in 725 (by decide +kernel) rfl
theorem w_726 : Cond.code yX9_give cX9_give 3 none ∈ gT := gT_in 726 (by decide +kernel) rfl
theorem w_727 : Cond.methodLink RX0 107 yX9_breakFor ∈ gT := gT_in 727 (by decide +kernel) rfl
theorem w_728 : Cond.instanceMethod yX9_breakFor ∈ gT := gT_in 728 (by decide +kernel) rfl
theorem w_729 : Cond.selects RX9 yX9_breakFor yX9_breakFor ∈ gT := gT_in 729 (by decide +kernel) rfl
theorem w_730 : Cond.code yX9_breakFor cX9_breakFor 4 none ∈ gT := gT_in 730 (by decide +kernel) rfl
theorem w_731 : Cond.methodLink RX9 118 yX3_ofEgg ∈ gT := gT_in 731 (by decide +kernel) rfl
theorem w_732 : Cond.instanceMethod yX3_ofEgg ∈ gT := gT_in 732 (by decide +kernel) rfl
theorem w_733 : Cond.selects RX3 yX3_ofEgg yX3_ofEgg ∈ gT := gT_in 733 (by decide +kernel) rfl
theorem w_734 : Cond.code yX3_ofEgg cX3_ofEgg 5 (some .int) ∈ gT := gT_in 734 (by decide +kernel) rfl
theorem w_735 : Cond.methodLink RX3 43 yX3_start ∈ gT := gT_in 735 (by decide +kernel) rfl
theorem w_737 : Cond.instanceMethod yX3_start ∈ gT := gT_in 737 (by decide +kernel) rfl
theorem w_738 : Cond.code yX3_start cX3_start 4 none ∈ gT := gT_in 738 (by decide +kernel) rfl
theorem w_739 : Cond.methodLink RX3 58 yX3_ask ∈ gT := gT_in 739 (by decide +kernel) rfl
theorem w_741 : Cond.instanceMethod yX3_ask ∈ gT := gT_in 741 (by decide +kernel) rfl
theorem w_742 : Cond.code yX3_ask cX3_ask 3 (some .int) ∈ gT := gT_in 742 (by decide +kernel) rfl
theorem w_743 : Cond.methodLink RX3 87 yX3_run ∈ gT := gT_in 743 (by decide +kernel) rfl
theorem w_745 : Cond.instanceMethod yX3_run ∈ gT := gT_in 745 (by decide +kernel) rfl
theorem w_746 : Cond.code yX3_run cX3_run 8 (some .int) ∈ gT := gT_in 746 (by decide +kernel) rfl
theorem w_747 : Cond.methodLink RX3 102 yX3_push ∈ gT := gT_in 747 (by decide +kernel) rfl
theorem w_749 : Cond.instanceMethod yX3_push ∈ gT := gT_in 749 (by decide +kernel) rfl
theorem w_750 : Cond.code yX3_push cX3_push 2 none ∈ gT := gT_in 750 (by decide +kernel) rfl
theorem w_751 : Cond.methodLink RX3 106 yX3_pop ∈ gT := gT_in 751 (by decide +kernel) rfl
theorem w_753 : Cond.instanceMethod yX3_pop ∈ gT := gT_in 753 (by decide +kernel) rfl
theorem w_754 : Cond.code yX3_pop cX3_pop 1 (some .int) ∈ gT := gT_in 754 (by decide +kernel) rfl
theorem w_755 : Cond.methodLink RX3 110 yX3_reckon ∈ gT := gT_in 755 (by decide +kernel) rfl
theorem w_756 : Cond.static yX3_reckon ∈ gT := gT_in 756 (by decide +kernel) rfl
theorem w_757 : Cond.code yX3_reckon cX3_reckon 3 (some .int) ∈ gT := gT_in 757 (by decide +kernel) rfl
theorem w_760 : Cond.methodLink RX3 94 yJ9_min_7cf53 ∈ gT := gT_in 760 (by decide +kernel) rfl
theorem w_761 : Cond.methodLink RX3 99 yJ9_max_7cf53 ∈ gT := gT_in 761 (by decide +kernel) rfl
theorem w_762 : Cond.methodLink RX9 135 yX10_add ∈ gT := gT_in 762 (by decide +kernel) rfl
theorem w_763 : Cond.instanceMethod yX10_add ∈ gT := gT_in 763 (by decide +kernel) rfl
theorem w_764 : Cond.selects RX10 yX10_add yX10_add ∈ gT := gT_in 764 (by decide +kernel) rfl
theorem w_765 : Cond.code yX10_add cX10_add 4 none ∈ gT := gT_in 765 (by decide +kernel) rfl
theorem w_766 : Cond.methodLink RX10 39 yX10_isDone ∈ gT := gT_in 766 (by decide +kernel) rfl
theorem w_767 : Cond.methodLink RX10 42 yJ9_min_7cf53 ∈ gT := gT_in 767 (by decide +kernel) rfl
theorem w_768 : Cond.methodLink RX9 139 yX9_breakEgg ∈ gT := gT_in 768 (by decide +kernel) rfl
theorem w_769 : Cond.instanceMethod yX9_breakEgg ∈ gT := gT_in 769 (by decide +kernel) rfl
theorem w_770 : Cond.selects RX9 yX9_breakEgg yX9_breakEgg ∈ gT := gT_in 770 (by decide +kernel) rfl
theorem w_771 : Cond.code yX9_breakEgg cX9_breakEgg 2 none ∈ gT := gT_in 771 (by decide +kernel) rfl
theorem w_772 : Cond.methodLink RX9 131 yX5_live ∈ gT := gT_in 772 (by decide +kernel) rfl
theorem w_773 : Cond.instanceMethod yX5_live ∈ gT := gT_in 773 (by decide +kernel) rfl
theorem w_774 : Cond.selects RX5 yX5_live yX5_live ∈ gT := gT_in 774 (by decide +kernel) rfl
theorem w_775 : Cond.code yX5_live cX5_live 3 none ∈ gT := gT_in 775 (by decide +kernel) rfl
theorem w_776 : Cond.constant RX5 36 999999 ∈ gT := gT_in 776 (by decide +kernel) rfl
theorem w_777 : Cond.methodLink RX5 37 yJ9_min_7cf53 ∈ gT := gT_in 777 (by decide +kernel) rfl
theorem w_778 : Cond.methodLink RX0 111 yX9_breakEgg ∈ gT := gT_in 778 (by decide +kernel) rfl
theorem w_779 : Cond.methodLink RX0 115 yX9_brood ∈ gT := gT_in 779 (by decide +kernel) rfl
theorem w_780 : Cond.instanceMethod yX9_brood ∈ gT := gT_in 780 (by decide +kernel) rfl
theorem w_781 : Cond.selects RX9 yX9_brood yX9_brood ∈ gT := gT_in 781 (by decide +kernel) rfl
theorem w_782 : Cond.code yX9_brood cX9_brood 4 none ∈ gT := gT_in 782 (by decide +kernel) rfl
theorem w_783 : Cond.methodLink RX9 157 yJ9_min_7cf53 ∈ gT := gT_in 783 (by decide +kernel) rfl
theorem w_784 : Cond.methodLink RL 51 yX11_judged ∈ gT := gT_in 784 (by decide +kernel) rfl
theorem w_785 : Cond.instanceMethod yX11_judged ∈ gT := gT_in 785 (by decide +kernel) rfl
theorem w_786 : Cond.selects RX11 yX11_judged yX11_judged ∈ gT := gT_in 786 (by decide +kernel) rfl
theorem w_787 : Cond.code yX11_judged cX11_judged 3 (some .int) ∈ gT := gT_in 787 (by decide +kernel) rfl
theorem w_788 : Cond.methodLink RX11 180 yX9_copyFrom ∈ gT := gT_in 788 (by decide +kernel) rfl
theorem w_789 : Cond.instanceMethod yX9_copyFrom ∈ gT := gT_in 789 (by decide +kernel) rfl
theorem w_790 : Cond.selects RX9 yX9_copyFrom yX9_copyFrom ∈ gT := gT_in 790 (by decide +kernel) rfl
theorem w_791 : Cond.code yX9_copyFrom cX9_copyFrom 2 none ∈ gT := gT_in 791 (by decide +kernel) rfl
theorem w_792 : Cond.methodLink RX9 58 yX2_copyFrom ∈ gT := gT_in 792 (by decide +kernel) rfl
theorem w_793 : Cond.instanceMethod yX2_copyFrom ∈ gT := gT_in 793 (by decide +kernel) rfl
theorem w_794 : Cond.selects RX2 yX2_copyFrom yX2_copyFrom ∈ gT := gT_in 794 (by decide +kernel) rfl
theorem w_795 : Cond.code yX2_copyFrom cX2_copyFrom 2 none ∈ gT := gT_in 795 (by decide +kernel) rfl
theorem w_796 : Cond.methodLink RX2 30 arraycopyName ∈ gT := gT_in 796 (by decide +kernel) rfl
theorem w_797 : Cond.static arraycopyName ∈ gT := gT_in 797 (by decide +kernel) rfl
theorem w_798 : Cond.native arraycopyName ∈ gT := gT_in 798 (by decide +kernel) rfl
theorem w_799 : Cond.methodLink RX9 62 yX5_copyFrom ∈ gT := gT_in 799 (by decide +kernel) rfl
theorem w_800 : Cond.instanceMethod yX5_copyFrom ∈ gT := gT_in 800 (by decide +kernel) rfl
theorem w_801 : Cond.selects RX5 yX5_copyFrom yX5_copyFrom ∈ gT := gT_in 801 (by decide +kernel) rfl
theorem w_802 : Cond.code yX5_copyFrom cX5_copyFrom 2 none ∈ gT := gT_in 802 (by decide +kernel) rfl
theorem w_803 : Cond.methodLink RX5 43 arraycopyName ∈ gT := gT_in 803 (by decide +kernel) rfl
theorem w_804 : Cond.methodLink RX9 65 yX1_copyFrom ∈ gT := gT_in 804 (by decide +kernel) rfl
theorem w_805 : Cond.instanceMethod yX1_copyFrom ∈ gT := gT_in 805 (by decide +kernel) rfl
theorem w_806 : Cond.selects RX1 yX1_copyFrom yX1_copyFrom ∈ gT := gT_in 806 (by decide +kernel) rfl
theorem w_807 : Cond.code yX1_copyFrom cX1_copyFrom 2 none ∈ gT := gT_in 807 (by decide +kernel) rfl
theorem w_808 : Cond.methodLink RX1 45 arraycopyName ∈ gT := gT_in 808 (by decide +kernel) rfl
theorem w_809 : Cond.methodLink RX9 68 yX10_copyFrom ∈ gT := gT_in 809 (by decide +kernel) rfl
theorem w_810 : Cond.instanceMethod yX10_copyFrom ∈ gT := gT_in 810 (by decide +kernel) rfl
theorem w_811 : Cond.selects RX10 yX10_copyFrom yX10_copyFrom ∈ gT := gT_in 811 (by decide +kernel) rfl
theorem w_812 : Cond.code yX10_copyFrom cX10_copyFrom 2 none ∈ gT := gT_in 812 (by decide +kernel) rfl
theorem w_813 : Cond.methodLink RX10 48 arraycopyName ∈ gT := gT_in 813 (by decide +kernel) rfl
theorem w_814 : Cond.methodLink RL 55 yX11_days ∈ gT := gT_in 814 (by decide +kernel) rfl
theorem w_815 : Cond.instanceMethod yX11_days ∈ gT := gT_in 815 (by decide +kernel) rfl
theorem w_816 : Cond.selects RX11 yX11_days yX11_days ∈ gT := gT_in 816 (by decide +kernel) rfl
theorem w_817 : Cond.code yX11_days cX11_days 2 (some .int) ∈ gT := gT_in 817 (by decide +kernel) rfl
theorem w_818 : Cond.methodLink RX11 187 yX9_passDays ∈ gT := gT_in 818 (by decide +kernel) rfl
theorem w_819 : Cond.instanceMethod yX9_passDays ∈ gT := gT_in 819 (by decide +kernel) rfl
theorem w_820 : Cond.selects RX9 yX9_passDays yX9_passDays ∈ gT := gT_in 820 (by decide +kernel) rfl
theorem w_821 : Cond.code yX9_passDays cX9_passDays 4 none ∈ gT := gT_in 821 (by decide +kernel) rfl
theorem w_822 : Cond.methodLink RX9 71 yX9_passDay ∈ gT := gT_in 822 (by decide +kernel) rfl
theorem w_823 : Cond.instanceMethod yX9_passDay ∈ gT := gT_in 823 (by decide +kernel) rfl
theorem w_824 : Cond.selects RX9 yX9_passDay yX9_passDay ∈ gT := gT_in 824 (by decide +kernel) rfl
theorem w_825 : Cond.code yX9_passDay cX9_passDay 3 (some .boolean) ∈ gT := gT_in 825 (by decide +kernel) rfl
theorem w_826 : Cond.methodLink RX9 75 yX2_isTold ∈ gT := gT_in 826 (by decide +kernel) rfl
theorem w_827 : Cond.methodLink RX9 79 yX9_strikeOrLay ∈ gT := gT_in 827 (by decide +kernel) rfl
theorem w_829 : Cond.instanceMethod yX9_strikeOrLay ∈ gT := gT_in 829 (by decide +kernel) rfl
theorem w_830 : Cond.code yX9_strikeOrLay cX9_strikeOrLay 5 none ∈ gT := gT_in 830 (by decide +kernel) rfl
theorem w_831 : Cond.methodLink RX9 97 yX9_draw ∈ gT := gT_in 831 (by decide +kernel) rfl
theorem w_833 : Cond.instanceMethod yX9_draw ∈ gT := gT_in 833 (by decide +kernel) rfl
theorem w_834 : Cond.code yX9_draw cX9_draw 1 (some .int) ∈ gT := gT_in 834 (by decide +kernel) rfl
theorem w_835 : Cond.constant RX9 96 65535 ∈ gT := gT_in 835 (by decide +kernel) rfl
theorem w_836 : Cond.methodLink RX9 101 yX3_ofHen ∈ gT := gT_in 836 (by decide +kernel) rfl
theorem w_837 : Cond.instanceMethod yX3_ofHen ∈ gT := gT_in 837 (by decide +kernel) rfl
theorem w_838 : Cond.selects RX3 yX3_ofHen yX3_ofHen ∈ gT := gT_in 838 (by decide +kernel) rfl
theorem w_839 : Cond.code yX3_ofHen cX3_ofHen 5 (some .int) ∈ gT := gT_in 839 (by decide +kernel) rfl
theorem w_840 : Cond.methodLink RX9 111 yX1_lay ∈ gT := gT_in 840 (by decide +kernel) rfl
theorem w_841 : Cond.instanceMethod yX1_lay ∈ gT := gT_in 841 (by decide +kernel) rfl
theorem w_842 : Cond.selects RX1 yX1_lay yX1_lay ∈ gT := gT_in 842 (by decide +kernel) rfl
theorem w_843 : Cond.code yX1_lay cX1_lay 5 none ∈ gT := gT_in 843 (by decide +kernel) rfl
theorem w_844 : Cond.methodLink RX9 86 yX1_isWhole ∈ gT := gT_in 844 (by decide +kernel) rfl
theorem w_845 : Cond.methodLink RX9 89 yX9_mayGoBad ∈ gT := gT_in 845 (by decide +kernel) rfl
theorem w_847 : Cond.instanceMethod yX9_mayGoBad ∈ gT := gT_in 847 (by decide +kernel) rfl
theorem w_848 : Cond.code yX9_mayGoBad cX9_mayGoBad 4 none ∈ gT := gT_in 848 (by decide +kernel) rfl
theorem w_849 : Cond.methodLink RL 59 yX11_tried ∈ gT := gT_in 849 (by decide +kernel) rfl
theorem w_850 : Cond.instanceMethod yX11_tried ∈ gT := gT_in 850 (by decide +kernel) rfl
theorem w_851 : Cond.selects RX11 yX11_tried yX11_tried ∈ gT := gT_in 851 (by decide +kernel) rfl
theorem w_852 : Cond.code yX11_tried cX11_tried 3 (some .int) ∈ gT := gT_in 852 (by decide +kernel) rfl
theorem w_853 : Cond.methodLink RX11 203 yX1_howMany ∈ gT := gT_in 853 (by decide +kernel) rfl
theorem w_854 : Cond.instanceMethod yX1_howMany ∈ gT := gT_in 854 (by decide +kernel) rfl
theorem w_855 : Cond.selects RX1 yX1_howMany yX1_howMany ∈ gT := gT_in 855 (by decide +kernel) rfl
theorem w_856 : Cond.code yX1_howMany cX1_howMany 4 (some .int) ∈ gT := gT_in 856 (by decide +kernel) rfl
theorem w_857 : Cond.methodLink RL 64 yX11_egg ∈ gT := gT_in 857 (by decide +kernel) rfl
theorem w_858 : Cond.instanceMethod yX11_egg ∈ gT := gT_in 858 (by decide +kernel) rfl
theorem w_859 : Cond.selects RX11 yX11_egg yX11_egg ∈ gT := gT_in 859 (by decide +kernel) rfl
theorem w_860 : Cond.code yX11_egg cX11_egg 3 (some .int) ∈ gT := gT_in 860 (by decide +kernel) rfl
theorem w_861 : Cond.methodLink RX11 207 yX1_isLaid ∈ gT := gT_in 861 (by decide +kernel) rfl
theorem w_862 : Cond.methodLink RX11 228 yX11_firstBadDay ∈ gT := gT_in 862 (by decide +kernel) rfl
theorem w_864 : Cond.instanceMethod yX11_firstBadDay ∈ gT := gT_in 864 (by decide +kernel) rfl
theorem w_865 : Cond.code yX11_firstBadDay cX11_firstBadDay 3 (some .int) ∈ gT := gT_in 865 (by decide +kernel) rfl
theorem w_866 : Cond.methodLink RX11 231 yX3_ofEgg ∈ gT := gT_in 866 (by decide +kernel) rfl
theorem w_867 : Cond.methodLink RL 68 yX11_personIs ∈ gT := gT_in 867 (by decide +kernel) rfl
theorem w_868 : Cond.instanceMethod yX11_personIs ∈ gT := gT_in 868 (by decide +kernel) rfl
theorem w_869 : Cond.selects RX11 yX11_personIs yX11_personIs ∈ gT := gT_in 869 (by decide +kernel) rfl
theorem w_870 : Cond.code yX11_personIs cX11_personIs 3 (some .int) ∈ gT := gT_in 870 (by decide +kernel) rfl
theorem w_871 : Cond.methodLink RX11 247 yX1_wholeOf ∈ gT := gT_in 871 (by decide +kernel) rfl
theorem w_872 : Cond.instanceMethod yX1_wholeOf ∈ gT := gT_in 872 (by decide +kernel) rfl
theorem w_873 : Cond.selects RX1 yX1_wholeOf yX1_wholeOf ∈ gT := gT_in 873 (by decide +kernel) rfl
theorem w_874 : Cond.code yX1_wholeOf cX1_wholeOf 6 (some .int) ∈ gT := gT_in 874 (by decide +kernel) rfl
theorem w_875 : Cond.methodLink RX1 41 yX1_isWholeOf ∈ gT := gT_in 875 (by decide +kernel) rfl
theorem w_876 : Cond.instanceMethod yX1_isWholeOf ∈ gT := gT_in 876 (by decide +kernel) rfl
theorem w_877 : Cond.selects RX1 yX1_isWholeOf yX1_isWholeOf ∈ gT := gT_in 877 (by decide +kernel) rfl
theorem w_878 : Cond.code yX1_isWholeOf cX1_isWholeOf 3 (some .boolean) ∈ gT := gT_in 878 (by decide +kernel) rfl
theorem w_879 : Cond.methodLink RX1 38 yX1_isWhole ∈ gT := gT_in 879 (by decide +kernel) rfl
theorem w_880 : Cond.methodLink RX11 251 yX1_minutesOf ∈ gT := gT_in 880 (by decide +kernel) rfl
theorem w_881 : Cond.instanceMethod yX1_minutesOf ∈ gT := gT_in 881 (by decide +kernel) rfl
theorem w_882 : Cond.selects RX1 yX1_minutesOf yX1_minutesOf ∈ gT := gT_in 882 (by decide +kernel) rfl
theorem w_883 : Cond.code yX1_minutesOf cX1_minutesOf 4 (some .int) ∈ gT := gT_in 883 (by decide +kernel) rfl
theorem w_884 : Cond.methodLink RX11 254 yX2_howManyOf ∈ gT := gT_in 884 (by decide +kernel) rfl
theorem w_885 : Cond.instanceMethod yX2_howManyOf ∈ gT := gT_in 885 (by decide +kernel) rfl
theorem w_886 : Cond.selects RX2 yX2_howManyOf yX2_howManyOf ∈ gT := gT_in 886 (by decide +kernel) rfl
theorem w_887 : Cond.code yX2_howManyOf cX2_howManyOf 4 (some .int) ∈ gT := gT_in 887 (by decide +kernel) rfl
theorem w_888 : Cond.methodLink RX2 26 yX2_isTold ∈ gT := gT_in 888 (by decide +kernel) rfl
theorem w_889 : Cond.methodLink RL 72 yX11_workIs ∈ gT := gT_in 889 (by decide +kernel) rfl
theorem w_890 : Cond.instanceMethod yX11_workIs ∈ gT := gT_in 890 (by decide +kernel) rfl
theorem w_891 : Cond.selects RX11 yX11_workIs yX11_workIs ∈ gT := gT_in 891 (by decide +kernel) rfl
theorem w_892 : Cond.code yX11_workIs cX11_workIs 3 (some .int) ∈ gT := gT_in 892 (by decide +kernel) rfl
theorem w_893 : Cond.methodLink RX11 257 yX10_isTold ∈ gT := gT_in 893 (by decide +kernel) rfl
theorem w_894 : Cond.methodLink RX11 270 yX10_isDone ∈ gT := gT_in 894 (by decide +kernel) rfl
theorem w_895 : Cond.methodLink RX11 276 yX10_isInTime ∈ gT := gT_in 895 (by decide +kernel) rfl
theorem w_896 : Cond.instanceMethod yX10_isInTime ∈ gT := gT_in 896 (by decide +kernel) rfl
theorem w_897 : Cond.selects RX10 yX10_isInTime yX10_isInTime ∈ gT := gT_in 897 (by decide +kernel) rfl
theorem w_898 : Cond.code yX10_isInTime cX10_isInTime 3 (some .boolean) ∈ gT := gT_in 898 (by decide +kernel) rfl
theorem w_899 : Cond.methodLink RL 76 yX11_plan ∈ gT := gT_in 899 (by decide +kernel) rfl
theorem w_900 : Cond.instanceMethod yX11_plan ∈ gT := gT_in 900 (by decide +kernel) rfl
theorem w_901 : Cond.selects RX11 yX11_plan yX11_plan ∈ gT := gT_in 901 (by decide +kernel) rfl
theorem w_902 : Cond.code yX11_plan cX11_plan 8 (some .int) ∈ gT := gT_in 902 (by decide +kernel) rfl
theorem w_903 : Cond.methodLink RX11 281 yJ6_bitCount_0f7a4 ∈ gT := gT_in 903 (by decide +kernel) rfl
theorem w_904 : Cond.static yJ6_bitCount_0f7a4 ∈ gT := gT_in 904 (by decide +kernel) rfl
theorem w_905 : Cond.code yJ6_bitCount_0f7a4 cJ6_bitCount_0f7a4 1 (some .int) ∈ gT := gT_in 905 (by decide +kernel) rfl
theorem w_906 : Cond.constant RJ6 265 1431655765 ∈ gT := gT_in 906 (by decide +kernel) rfl
theorem w_907 : Cond.constant RJ6 266 858993459 ∈ gT := gT_in 907 (by decide +kernel) rfl
theorem w_908 : Cond.constant RJ6 267 252645135 ∈ gT := gT_in 908 (by decide +kernel) rfl
theorem w_909 : Cond.methodLink RX11 286 yX11_isIn ∈ gT := gT_in 909 (by decide +kernel) rfl
theorem w_910 : Cond.methodLink RX11 289 yX6_find ∈ gT := gT_in 910 (by decide +kernel) rfl
theorem w_911 : Cond.instanceMethod yX6_find ∈ gT := gT_in 911 (by decide +kernel) rfl
theorem w_912 : Cond.selects RX6 yX6_find yX6_find ∈ gT := gT_in 912 (by decide +kernel) rfl
theorem w_913 : Cond.code yX6_find cX6_find 6 none ∈ gT := gT_in 913 (by decide +kernel) rfl
theorem w_914 : Cond.methodLink RX6 57 yX1_wholeOf ∈ gT := gT_in 914 (by decide +kernel) rfl
theorem n_915 : Cond.methodLinkNest RX6 63 yX11_isIn "EggTown" ∈ tables_1 := List.mem_of_getElem? (i := 915) (by decide +kernel)
theorem w_916 : Cond.methodLink RX6 73 yX6_findFits ∈ gT := gT_in 916 (by decide +kernel) rfl
theorem w_918 : Cond.instanceMethod yX6_findFits ∈ gT := gT_in 918 (by decide +kernel) rfl
theorem w_919 : Cond.code yX6_findFits cX6_findFits 6 none ∈ gT := gT_in 919 (by decide +kernel) rfl
theorem w_920 : Cond.methodLink RX6 90 yX3_ofEgg ∈ gT := gT_in 920 (by decide +kernel) rfl
theorem w_921 : Cond.methodLink RX6 96 yX6_isFit ∈ gT := gT_in 921 (by decide +kernel) rfl
theorem w_923 : Cond.instanceMethod yX6_isFit ∈ gT := gT_in 923 (by decide +kernel) rfl
theorem w_924 : Cond.code yX6_isFit cX6_isFit 6 (some .boolean) ∈ gT := gT_in 924 (by decide +kernel) rfl
theorem w_925 : Cond.methodLink RX6 105 yJ9_min_7cf53 ∈ gT := gT_in 925 (by decide +kernel) rfl
theorem w_926 : Cond.methodLink RX6 99 yJ6_bitCount_0f7a4 ∈ gT := gT_in 926 (by decide +kernel) rfl
theorem w_927 : Cond.methodLink RX6 77 yX6_findHopes ∈ gT := gT_in 927 (by decide +kernel) rfl
theorem w_929 : Cond.instanceMethod yX6_findHopes ∈ gT := gT_in 929 (by decide +kernel) rfl
theorem w_930 : Cond.code yX6_findHopes cX6_findHopes 6 none ∈ gT := gT_in 930 (by decide +kernel) rfl
theorem w_931 : Cond.methodLink RX6 111 yX6_gain ∈ gT := gT_in 931 (by decide +kernel) rfl
theorem w_933 : Cond.instanceMethod yX6_gain ∈ gT := gT_in 933 (by decide +kernel) rfl
theorem w_934 : Cond.code yX6_gain cX6_gain 3 (some .int) ∈ gT := gT_in 934 (by decide +kernel) rfl
theorem w_935 : Cond.methodLink RX6 114 yJ9_max_7cf53 ∈ gT := gT_in 935 (by decide +kernel) rfl
theorem w_936 : Cond.methodLink RX6 80 yX6_choose ∈ gT := gT_in 936 (by decide +kernel) rfl
theorem w_938 : Cond.instanceMethod yX6_choose ∈ gT := gT_in 938 (by decide +kernel) rfl
theorem w_939 : Cond.code yX6_choose cX6_choose 7 none ∈ gT := gT_in 939 (by decide +kernel) rfl
theorem w_940 : Cond.methodLink RX6 117 arraycopyName ∈ gT := gT_in 940 (by decide +kernel) rfl
theorem w_941 : Cond.methodLink RX11 293 yX6_bestWorth ∈ gT := gT_in 941 (by decide +kernel) rfl
theorem w_942 : Cond.instanceMethod yX6_bestWorth ∈ gT := gT_in 942 (by decide +kernel) rfl
theorem w_943 : Cond.selects RX6 yX6_bestWorth yX6_bestWorth ∈ gT := gT_in 943 (by decide +kernel) rfl
theorem w_944 : Cond.code yX6_bestWorth cX6_bestWorth 1 (some .int) ∈ gT := gT_in 944 (by decide +kernel) rfl
theorem w_945 : Cond.methodLink RX11 296 yX6_bestEggs ∈ gT := gT_in 945 (by decide +kernel) rfl
theorem w_946 : Cond.instanceMethod yX6_bestEggs ∈ gT := gT_in 946 (by decide +kernel) rfl
theorem w_947 : Cond.selects RX6 yX6_bestEggs yX6_bestEggs ∈ gT := gT_in 947 (by decide +kernel) rfl
theorem w_948 : Cond.code yX6_bestEggs cX6_bestEggs 1 (some .int) ∈ gT := gT_in 948 (by decide +kernel) rfl
theorem w_949 : Cond.methodLink RX6 123 yX6_bestWorth ∈ gT := gT_in 949 (by decide +kernel) rfl
theorem w_950 : Cond.methodLink RX11 299 yX6_rowOf ∈ gT := gT_in 950 (by decide +kernel) rfl
theorem w_951 : Cond.instanceMethod yX6_rowOf ∈ gT := gT_in 951 (by decide +kernel) rfl
theorem w_952 : Cond.selects RX6 yX6_rowOf yX6_rowOf ∈ gT := gT_in 952 (by decide +kernel) rfl
theorem w_953 : Cond.code yX6_rowOf cX6_rowOf 3 (some .int) ∈ gT := gT_in 953 (by decide +kernel) rfl
theorem w_954 : Cond.methodLink RL 81 yX11_before ∈ gT := gT_in 954 (by decide +kernel) rfl
theorem w_955 : Cond.instanceMethod yX11_before ∈ gT := gT_in 955 (by decide +kernel) rfl
theorem w_956 : Cond.selects RX11 yX11_before yX11_before ∈ gT := gT_in 956 (by decide +kernel) rfl
theorem w_957 : Cond.code yX11_before cX11_before 8 (some .int) ∈ gT := gT_in 957 (by decide +kernel) rfl
theorem w_958 : Cond.methodLink RX11 302 yJ9_min_7cf53 ∈ gT := gT_in 958 (by decide +kernel) rfl
theorem w_959 : Cond.methodLink RX11 308 yX11_mostMinutes ∈ gT := gT_in 959 (by decide +kernel) rfl
theorem w_961 : Cond.instanceMethod yX11_mostMinutes ∈ gT := gT_in 961 (by decide +kernel) rfl
theorem w_962 : Cond.code yX11_mostMinutes cX11_mostMinutes 6 (some .int) ∈ gT := gT_in 962 (by decide +kernel) rfl
theorem w_963 : Cond.methodLink RX11 311 yX11_takesRoom ∈ gT := gT_in 963 (by decide +kernel) rfl
theorem w_965 : Cond.instanceMethod yX11_takesRoom ∈ gT := gT_in 965 (by decide +kernel) rfl
theorem w_966 : Cond.code yX11_takesRoom cX11_takesRoom 3 (some .boolean) ∈ gT := gT_in 966 (by decide +kernel) rfl
theorem w_967 : Cond.methodLink RL 85 yX11_flock ∈ gT := gT_in 967 (by decide +kernel) rfl
theorem w_968 : Cond.instanceMethod yX11_flock ∈ gT := gT_in 968 (by decide +kernel) rfl
theorem w_969 : Cond.selects RX11 yX11_flock yX11_flock ∈ gT := gT_in 969 (by decide +kernel) rfl
theorem w_970 : Cond.code yX11_flock cX11_flock 8 (some .int) ∈ gT := gT_in 970 (by decide +kernel) rfl
theorem w_971 : Cond.methodLink RX11 314 yX11_bestHatch ∈ gT := gT_in 971 (by decide +kernel) rfl
theorem w_973 : Cond.instanceMethod yX11_bestHatch ∈ gT := gT_in 973 (by decide +kernel) rfl
theorem w_974 : Cond.code yX11_bestHatch cX11_bestHatch 6 (some .int) ∈ gT := gT_in 974 (by decide +kernel) rfl
theorem w_975 : Cond.methodLink RL 89 yX11_rations ∈ gT := gT_in 975 (by decide +kernel) rfl
theorem w_976 : Cond.instanceMethod yX11_rations ∈ gT := gT_in 976 (by decide +kernel) rfl
theorem w_977 : Cond.selects RX11 yX11_rations yX11_rations ∈ gT := gT_in 977 (by decide +kernel) rfl
theorem w_978 : Cond.code yX11_rations cX11_rations 6 (some .int) ∈ gT := gT_in 978 (by decide +kernel) rfl
theorem w_979 : Cond.methodLink RX11 317 yX11_tellEggs ∈ gT := gT_in 979 (by decide +kernel) rfl
theorem w_981 : Cond.instanceMethod yX11_tellEggs ∈ gT := gT_in 981 (by decide +kernel) rfl
theorem w_982 : Cond.code yX11_tellEggs cX11_tellEggs 6 (some .boolean) ∈ gT := gT_in 982 (by decide +kernel) rfl
theorem w_983 : Cond.methodLink RX11 336 yX8_byteAt ∈ gT := gT_in 983 (by decide +kernel) rfl
theorem w_984 : Cond.instanceMethod yX8_byteAt ∈ gT := gT_in 984 (by decide +kernel) rfl
theorem w_985 : Cond.selects RX8 yX8_byteAt yX8_byteAt ∈ gT := gT_in 985 (by decide +kernel) rfl
theorem w_986 : Cond.code yX8_byteAt cX8_byteAt 2 (some .int) ∈ gT := gT_in 986 (by decide +kernel) rfl
theorem w_987 : Cond.methodLink RX11 320 yX11_share ∈ gT := gT_in 987 (by decide +kernel) rfl
theorem w_989 : Cond.instanceMethod yX11_share ∈ gT := gT_in 989 (by decide +kernel) rfl
theorem w_990 : Cond.code yX11_share cX11_share 8 (some .int) ∈ gT := gT_in 990 (by decide +kernel) rfl
theorem w_991 : Cond.methodLink RX11 324 arraycopyName ∈ gT := gT_in 991 (by decide +kernel) rfl
theorem w_992 : Cond.methodLink RX11 330 yJ9_max_7cf53 ∈ gT := gT_in 992 (by decide +kernel) rfl
theorem w_993 : Cond.methodLink RX11 333 yX1_minutesAt ∈ gT := gT_in 993 (by decide +kernel) rfl
theorem w_994 : Cond.instanceMethod yX1_minutesAt ∈ gT := gT_in 994 (by decide +kernel) rfl
theorem w_995 : Cond.selects RX1 yX1_minutesAt yX1_minutesAt ∈ gT := gT_in 995 (by decide +kernel) rfl
theorem w_996 : Cond.code yX1_minutesAt cX1_minutesAt 2 (some .int) ∈ gT := gT_in 996 (by decide +kernel) rfl
theorem w_997 : Cond.methodLink RL 93 yX11_hoards ∈ gT := gT_in 997 (by decide +kernel) rfl
theorem w_998 : Cond.instanceMethod yX11_hoards ∈ gT := gT_in 998 (by decide +kernel) rfl
theorem w_999 : Cond.selects RX11 yX11_hoards yX11_hoards ∈ gT := gT_in 999 (by decide +kernel) rfl
theorem w_1000 : Cond.code yX11_hoards cX11_hoards 7 (some .int) ∈ gT := gT_in 1000 (by decide +kernel) rfl
theorem w_1001 : Cond.methodLink RX11 339 yX8_pairAt ∈ gT := gT_in 1001 (by decide +kernel) rfl
theorem w_1002 : Cond.instanceMethod yX8_pairAt ∈ gT := gT_in 1002 (by decide +kernel) rfl
theorem w_1003 : Cond.selects RX8 yX8_pairAt yX8_pairAt ∈ gT := gT_in 1003 (by decide +kernel) rfl
theorem w_1004 : Cond.code yX8_pairAt cX8_pairAt 2 (some .int) ∈ gT := gT_in 1004 (by decide +kernel) rfl
theorem w_1005 : Cond.methodLink RX8 28 yX8_byteAt ∈ gT := gT_in 1005 (by decide +kernel) rfl
theorem w_1006 : Cond.methodLink RX11 342 yX3_ofSellers ∈ gT := gT_in 1006 (by decide +kernel) rfl
theorem w_1007 : Cond.instanceMethod yX3_ofSellers ∈ gT := gT_in 1007 (by decide +kernel) rfl
theorem w_1008 : Cond.selects RX3 yX3_ofSellers yX3_ofSellers ∈ gT := gT_in 1008 (by decide +kernel) rfl
theorem w_1009 : Cond.code yX3_ofSellers cX3_ofSellers 3 (some .int) ∈ gT := gT_in 1009 (by decide +kernel) rfl
theorem w_1010 : Cond.methodLink RX11 346 yX11_isSteady ∈ gT := gT_in 1010 (by decide +kernel) rfl
theorem w_1012 : Cond.instanceMethod yX11_isSteady ∈ gT := gT_in 1012 (by decide +kernel) rfl
theorem w_1013 : Cond.code yX11_isSteady cX11_isSteady 5 (some .boolean) ∈ gT := gT_in 1013 (by decide +kernel) rfl
theorem w_1014 : Cond.methodLink RL 97 yX11_yolks ∈ gT := gT_in 1014 (by decide +kernel) rfl
theorem w_1015 : Cond.instanceMethod yX11_yolks ∈ gT := gT_in 1015 (by decide +kernel) rfl
theorem w_1016 : Cond.selects RX11 yX11_yolks yX11_yolks ∈ gT := gT_in 1016 (by decide +kernel) rfl
theorem w_1017 : Cond.code yX11_yolks cX11_yolks 6 (some .int) ∈ gT := gT_in 1017 (by decide +kernel) rfl
theorem w_1018 : Cond.methodLink RX11 349 yX7_fill ∈ gT := gT_in 1018 (by decide +kernel) rfl
theorem w_1019 : Cond.instanceMethod yX7_fill ∈ gT := gT_in 1019 (by decide +kernel) rfl
theorem w_1020 : Cond.selects RX7 yX7_fill yX7_fill ∈ gT := gT_in 1020 (by decide +kernel) rfl
theorem w_1021 : Cond.code yX7_fill cX7_fill 6 (some .int) ∈ gT := gT_in 1021 (by decide +kernel) rfl
theorem w_1022 : Cond.methodLink RX7 28 yJ9_min_7cf53 ∈ gT := gT_in 1022 (by decide +kernel) rfl
theorem w_1023 : Cond.methodLink RX7 34 yX1_minutesAt ∈ gT := gT_in 1023 (by decide +kernel) rfl
theorem w_1024 : Cond.methodLink RX11 353 yX7_find ∈ gT := gT_in 1024 (by decide +kernel) rfl
theorem w_1025 : Cond.instanceMethod yX7_find ∈ gT := gT_in 1025 (by decide +kernel) rfl
theorem w_1026 : Cond.selects RX7 yX7_find yX7_find ∈ gT := gT_in 1026 (by decide +kernel) rfl
theorem w_1027 : Cond.code yX7_find cX7_find 6 none ∈ gT := gT_in 1027 (by decide +kernel) rfl
theorem w_1028 : Cond.methodLink RX7 40 yJ6_bitCount_0f7a4 ∈ gT := gT_in 1028 (by decide +kernel) rfl
theorem w_1029 : Cond.methodLink RX7 45 yX7_note ∈ gT := gT_in 1029 (by decide +kernel) rfl
theorem w_1031 : Cond.instanceMethod yX7_note ∈ gT := gT_in 1031 (by decide +kernel) rfl
theorem w_1032 : Cond.code yX7_note cX7_note 3 none ∈ gT := gT_in 1032 (by decide +kernel) rfl
theorem w_1033 : Cond.methodLink RL 101 yX11_thefts ∈ gT := gT_in 1033 (by decide +kernel) rfl
theorem w_1034 : Cond.instanceMethod yX11_thefts ∈ gT := gT_in 1034 (by decide +kernel) rfl
theorem w_1035 : Cond.selects RX11 yX11_thefts yX11_thefts ∈ gT := gT_in 1035 (by decide +kernel) rfl
theorem w_1036 : Cond.code yX11_thefts cX11_thefts 7 (some .int) ∈ gT := gT_in 1036 (by decide +kernel) rfl
theorem w_1037 : Cond.methodLink RX11 361 yX5_excess ∈ gT := gT_in 1037 (by decide +kernel) rfl
theorem w_1038 : Cond.instanceMethod yX5_excess ∈ gT := gT_in 1038 (by decide +kernel) rfl
theorem w_1039 : Cond.selects RX5 yX5_excess yX5_excess ∈ gT := gT_in 1039 (by decide +kernel) rfl
theorem w_1040 : Cond.code yX5_excess cX5_excess 2 (some .int) ∈ gT := gT_in 1040 (by decide +kernel) rfl
theorem w_1041 : Cond.constant RX11 364 (-1000000000) ∈ gT := gT_in 1041 (by decide +kernel) rfl
theorem w_1042 : Cond.methodLink RL 105 yX11_baskets ∈ gT := gT_in 1042 (by decide +kernel) rfl
theorem w_1043 : Cond.instanceMethod yX11_baskets ∈ gT := gT_in 1043 (by decide +kernel) rfl
theorem w_1044 : Cond.selects RX11 yX11_baskets yX11_baskets ∈ gT := gT_in 1044 (by decide +kernel) rfl
theorem w_1045 : Cond.code yX11_baskets cX11_baskets 5 (some .int) ∈ gT := gT_in 1045 (by decide +kernel) rfl
theorem w_1046 : Cond.methodLink RL 109 yX11_latest ∈ gT := gT_in 1046 (by decide +kernel) rfl
theorem w_1047 : Cond.instanceMethod yX11_latest ∈ gT := gT_in 1047 (by decide +kernel) rfl
theorem w_1048 : Cond.selects RX11 yX11_latest yX11_latest ∈ gT := gT_in 1048 (by decide +kernel) rfl
theorem w_1049 : Cond.code yX11_latest cX11_latest 5 (some .int) ∈ gT := gT_in 1049 (by decide +kernel) rfl
theorem w_1050 : Cond.methodLink RL 113 yX11_soonest ∈ gT := gT_in 1050 (by decide +kernel) rfl
theorem w_1051 : Cond.instanceMethod yX11_soonest ∈ gT := gT_in 1051 (by decide +kernel) rfl
theorem w_1052 : Cond.selects RX11 yX11_soonest yX11_soonest ∈ gT := gT_in 1052 (by decide +kernel) rfl
theorem w_1053 : Cond.code yX11_soonest cX11_soonest 7 (some .int) ∈ gT := gT_in 1053 (by decide +kernel) rfl
theorem w_1054 : Cond.methodLink RX11 368 yX11_daysTillDone ∈ gT := gT_in 1054 (by decide +kernel) rfl
theorem w_1056 : Cond.instanceMethod yX11_daysTillDone ∈ gT := gT_in 1056 (by decide +kernel) rfl
theorem w_1057 : Cond.code yX11_daysTillDone cX11_daysTillDone 5 (some .int) ∈ gT := gT_in 1057 (by decide +kernel) rfl
theorem w_1058 : Cond.methodLink RX11 372 yX9_breakAllFor ∈ gT := gT_in 1058 (by decide +kernel) rfl
theorem w_1059 : Cond.instanceMethod yX9_breakAllFor ∈ gT := gT_in 1059 (by decide +kernel) rfl
theorem w_1060 : Cond.selects RX9 yX9_breakAllFor yX9_breakAllFor ∈ gT := gT_in 1060 (by decide +kernel) rfl
theorem w_1061 : Cond.code yX9_breakAllFor cX9_breakAllFor 5 none ∈ gT := gT_in 1061 (by decide +kernel) rfl
theorem w_1062 : Cond.methodLink RX9 143 yX1_isWholeOf ∈ gT := gT_in 1062 (by decide +kernel) rfl
theorem w_1063 : Cond.methodLink RX9 147 yX9_breakFor ∈ gT := gT_in 1063 (by decide +kernel) rfl
theorem w_1064 : Cond.methodLink RX11 376 yX9_canLayFor ∈ gT := gT_in 1064 (by decide +kernel) rfl
theorem w_1065 : Cond.instanceMethod yX9_canLayFor ∈ gT := gT_in 1065 (by decide +kernel) rfl
theorem w_1066 : Cond.selects RX9 yX9_canLayFor yX9_canLayFor ∈ gT := gT_in 1066 (by decide +kernel) rfl
theorem w_1067 : Cond.code yX9_canLayFor cX9_canLayFor 2 (some .boolean) ∈ gT := gT_in 1067 (by decide +kernel) rfl
theorem w_1068 : Cond.methodLink RX9 92 yX2_howManyOf ∈ gT := gT_in 1068 (by decide +kernel) rfl
theorem w_1069 : Cond.methodLink RX11 379 yX9_passDay ∈ gT := gT_in 1069 (by decide +kernel) rfl
theorem w_1070 : Cond.methodLink RL 117 yX11_barter ∈ gT := gT_in 1070 (by decide +kernel) rfl
theorem w_1071 : Cond.instanceMethod yX11_barter ∈ gT := gT_in 1071 (by decide +kernel) rfl
theorem w_1072 : Cond.selects RX11 yX11_barter yX11_barter ∈ gT := gT_in 1072 (by decide +kernel) rfl
theorem w_1073 : Cond.code yX11_barter cX11_barter 13 (some .int) ∈ gT := gT_in 1073 (by decide +kernel) rfl
theorem w_1074 : Cond.methodLink RX11 384 yX1_isWholeOf ∈ gT := gT_in 1074 (by decide +kernel) rfl
theorem w_1075 : Cond.methodLink RX11 387 yX11_isNearer ∈ gT := gT_in 1075 (by decide +kernel) rfl
theorem w_1076 : Cond.static yX11_isNearer ∈ gT := gT_in 1076 (by decide +kernel) rfl
theorem w_1077 : Cond.code yX11_isNearer cX11_isNearer 2 (some .boolean) ∈ gT := gT_in 1077 (by decide +kernel) rfl
theorem w_1078 : Cond.methodLink RX11 390 yJ9_abs_0f7a4 ∈ gT := gT_in 1078 (by decide +kernel) rfl
theorem w_1079 : Cond.static yJ9_abs_0f7a4 ∈ gT := gT_in 1079 (by decide +kernel) rfl
theorem w_1080 : Cond.code yJ9_abs_0f7a4 cJ9_abs_0f7a4 1 (some .int) ∈ gT := gT_in 1080 (by decide +kernel) rfl
theorem w_1081 : Cond.methodLink RL 121 yX11_seed ∈ gT := gT_in 1081 (by decide +kernel) rfl
theorem w_1082 : Cond.instanceMethod yX11_seed ∈ gT := gT_in 1082 (by decide +kernel) rfl
theorem w_1083 : Cond.selects RX11 yX11_seed yX11_seed ∈ gT := gT_in 1083 (by decide +kernel) rfl
theorem w_1084 : Cond.code yX11_seed cX11_seed 2 (some .boolean) ∈ gT := gT_in 1084 (by decide +kernel) rfl
theorem w_1085 : Cond.constant RX11 393 65535 ∈ gT := gT_in 1085 (by decide +kernel) rfl
theorem w_1086 : Cond.methodLink RL 125 yX11_keep ∈ gT := gT_in 1086 (by decide +kernel) rfl
theorem w_1087 : Cond.instanceMethod yX11_keep ∈ gT := gT_in 1087 (by decide +kernel) rfl
theorem w_1088 : Cond.selects RX11 yX11_keep yX11_keep ∈ gT := gT_in 1088 (by decide +kernel) rfl
theorem w_1089 : Cond.code yX11_keep cX11_keep 1 (some .int) ∈ gT := gT_in 1089 (by decide +kernel) rfl
theorem w_1090 : Cond.methodLink RX11 397 yX8_copyFrom ∈ gT := gT_in 1090 (by decide +kernel) rfl
theorem w_1091 : Cond.instanceMethod yX8_copyFrom ∈ gT := gT_in 1091 (by decide +kernel) rfl
theorem w_1092 : Cond.selects RX8 yX8_copyFrom yX8_copyFrom ∈ gT := gT_in 1092 (by decide +kernel) rfl
theorem w_1093 : Cond.code yX8_copyFrom cX8_copyFrom 2 none ∈ gT := gT_in 1093 (by decide +kernel) rfl
theorem w_1094 : Cond.methodLink RX8 43 arraycopyName ∈ gT := gT_in 1094 (by decide +kernel) rfl
theorem w_1095 : Cond.methodLink RL 129 yX11_undo ∈ gT := gT_in 1095 (by decide +kernel) rfl
theorem w_1096 : Cond.instanceMethod yX11_undo ∈ gT := gT_in 1096 (by decide +kernel) rfl
theorem w_1097 : Cond.selects RX11 yX11_undo yX11_undo ∈ gT := gT_in 1097 (by decide +kernel) rfl
theorem w_1098 : Cond.code yX11_undo cX11_undo 1 (some .boolean) ∈ gT := gT_in 1098 (by decide +kernel) rfl
theorem w_1099 : Cond.methodLink RL 134 yX11_check ∈ gT := gT_in 1099 (by decide +kernel) rfl
theorem w_1100 : Cond.instanceMethod yX11_check ∈ gT := gT_in 1100 (by decide +kernel) rfl
theorem w_1101 : Cond.selects RX11 yX11_check yX11_check ∈ gT := gT_in 1101 (by decide +kernel) rfl
theorem w_1102 : Cond.code yX11_check cX11_check 4 (some .int) ∈ gT := gT_in 1102 (by decide +kernel) rfl
theorem w_1103 : Cond.methodLink RX11 400 yX8_wordAt ∈ gT := gT_in 1103 (by decide +kernel) rfl
theorem w_1104 : Cond.instanceMethod yX8_wordAt ∈ gT := gT_in 1104 (by decide +kernel) rfl
theorem w_1105 : Cond.selects RX8 yX8_wordAt yX8_wordAt ∈ gT := gT_in 1105 (by decide +kernel) rfl
theorem w_1106 : Cond.code yX8_wordAt cX8_wordAt 2 (some .int) ∈ gT := gT_in 1106 (by decide +kernel) rfl
theorem w_1107 : Cond.methodLink RX8 32 yX8_pairAt ∈ gT := gT_in 1107 (by decide +kernel) rfl
theorem w_1108 : Cond.methodLink RL 138 yX11_count ∈ gT := gT_in 1108 (by decide +kernel) rfl
theorem w_1109 : Cond.instanceMethod yX11_count ∈ gT := gT_in 1109 (by decide +kernel) rfl
theorem w_1110 : Cond.selects RX11 yX11_count yX11_count ∈ gT := gT_in 1110 (by decide +kernel) rfl
theorem w_1111 : Cond.code yX11_count cX11_count 2 (some .int) ∈ gT := gT_in 1111 (by decide +kernel) rfl
theorem w_1112 : Cond.classLink RL 10 RX12 ∈ gT := gT_in 1112 (by decide +kernel) rfl
theorem w_1113 : Cond.instantiable RX12 48 ∈ gT := gT_in 1113 (by decide +kernel) rfl
theorem w_1114 : Cond.methodLink RL 12 yX12_init ∈ gT := gT_in 1114 (by decide +kernel) rfl
theorem w_1115 : Cond.instanceMethod yX12_init ∈ gT := gT_in 1115 (by decide +kernel) rfl
theorem w_1116 : Cond.code yX12_init cX12_init 1 none ∈ gT := gT_in 1116 (by decide +kernel) rfl
theorem w_1117 : Cond.methodLink RX12 1 Lib.objectInit ∈ gT := gT_in 1117 (by decide +kernel) rfl
theorem w_1118 : Cond.fieldLink RX12 7 "EggTownModel" "now" "[I" ∈ gT := gT_in 1118 (by decide +kernel) rfl
theorem w_1119 : Cond.fieldLink RX12 13 "EggTownModel" "aside" "[I" ∈ gT := gT_in 1119 (by decide +kernel) rfl
theorem w_1120 : Cond.fieldLink RX12 16 "EggTownModel" "kept" "[I" ∈ gT := gT_in 1120 (by decide +kernel) rfl
theorem w_1121 : Cond.fieldLink RX12 19 "EggTownModel" "tape" "[B" ∈ gT := gT_in 1121 (by decide +kernel) rfl
theorem w_1122 : Cond.fieldLink RX12 123 "EggTownModel" "taped" "I" ∈ gT := gT_in 1122 (by decide +kernel) rfl
theorem w_1123 : Cond.fieldLink RX12 131 "EggTownModel" "place0" "I" ∈ gT := gT_in 1123 (by decide +kernel) rfl
theorem w_1124 : Cond.fieldLink RX12 134 "EggTownModel" "length0" "I" ∈ gT := gT_in 1124 (by decide +kernel) rfl
theorem w_1125 : Cond.fieldLink RX12 141 "EggTownModel" "fault" "I" ∈ gT := gT_in 1125 (by decide +kernel) rfl
theorem w_1126 : Cond.fieldLink RX12 147 "EggTownModel" "number0" "I" ∈ gT := gT_in 1126 (by decide +kernel) rfl
theorem w_1127 : Cond.fieldLink RX12 158 "EggTownModel" "open" "I" ∈ gT := gT_in 1127 (by decide +kernel) rfl
theorem w_1128 : Cond.fieldLink RX12 154 "EggTownModel" "codeMany" "I" ∈ gT := gT_in 1128 (by decide +kernel) rfl
theorem w_1129 : Cond.fieldLink RX12 161 "EggTownModel" "waiting" "I" ∈ gT := gT_in 1129 (by decide +kernel) rfl
theorem w_1130 : Cond.fieldLink RX12 211 "EggTownModel" "saidMany" "I" ∈ gT := gT_in 1130 (by decide +kernel) rfl
theorem w_1131 : Cond.fieldLink RX12 223 "EggTownModel" "clauses" "I" ∈ gT := gT_in 1131 (by decide +kernel) rfl
theorem w_1132 : Cond.fieldLink RX12 23 "EggTownModel" "said" "[I" ∈ gT := gT_in 1132 (by decide +kernel) rfl
theorem w_1133 : Cond.fieldLink RX12 26 "EggTownModel" "waitsAt" "[I" ∈ gT := gT_in 1133 (by decide +kernel) rfl
theorem w_1134 : Cond.fieldLink RX12 29 "EggTownModel" "saidLetter" "[I" ∈ gT := gT_in 1134 (by decide +kernel) rfl
theorem w_1135 : Cond.fieldLink RX12 32 "EggTownModel" "saidFrom" "[I" ∈ gT := gT_in 1135 (by decide +kernel) rfl
theorem w_1136 : Cond.fieldLink RX12 35 "EggTownModel" "saidHalf" "[I" ∈ gT := gT_in 1136 (by decide +kernel) rfl
theorem w_1137 : Cond.fieldLink RX12 38 "EggTownModel" "saidTo" "[I" ∈ gT := gT_in 1137 (by decide +kernel) rfl
theorem w_1138 : Cond.fieldLink RX12 41 "EggTownModel" "codes" "[I" ∈ gT := gT_in 1138 (by decide +kernel) rfl
theorem w_1139 : Cond.fieldLink RX12 44 "EggTownModel" "clauseOf" "[I" ∈ gT := gT_in 1139 (by decide +kernel) rfl
theorem w_1140 : Cond.fieldLink RX12 47 "EggTownModel" "codeFrom" "[I" ∈ gT := gT_in 1140 (by decide +kernel) rfl
theorem w_1141 : Cond.fieldLink RX12 50 "EggTownModel" "codeHalf" "[I" ∈ gT := gT_in 1141 (by decide +kernel) rfl
theorem w_1142 : Cond.fieldLink RX12 53 "EggTownModel" "codeTo" "[I" ∈ gT := gT_in 1142 (by decide +kernel) rfl
theorem w_1143 : Cond.fieldLink RX12 56 "EggTownModel" "stack" "[I" ∈ gT := gT_in 1143 (by decide +kernel) rfl
theorem w_1144 : Cond.fieldLink RX12 59 "EggTownModel" "facts" "[I" ∈ gT := gT_in 1144 (by decide +kernel) rfl
theorem w_1145 : Cond.fieldLink RX12 247 "EggTownModel" "lineMany" "I" ∈ gT := gT_in 1145 (by decide +kernel) rfl
theorem w_1146 : Cond.fieldLink RX12 62 "EggTownModel" "lineFrom" "[I" ∈ gT := gT_in 1146 (by decide +kernel) rfl
theorem w_1147 : Cond.fieldLink RX12 65 "EggTownModel" "lineSign" "[I" ∈ gT := gT_in 1147 (by decide +kernel) rfl
theorem w_1148 : Cond.fieldLink RX12 68 "EggTownModel" "lineWhom" "[I" ∈ gT := gT_in 1148 (by decide +kernel) rfl
theorem w_1149 : Cond.fieldLink RX12 71 "EggTownModel" "lineEgg" "[I" ∈ gT := gT_in 1149 (by decide +kernel) rfl
theorem w_1150 : Cond.fieldLink RX12 310 "EggTownModel" "laidNow" "I" ∈ gT := gT_in 1150 (by decide +kernel) rfl
theorem w_1151 : Cond.fieldLink RX12 313 "EggTownModel" "minutesNow" "I" ∈ gT := gT_in 1151 (by decide +kernel) rfl
theorem w_1152 : Cond.fieldLink RX12 322 "EggTownModel" "badNow" "I" ∈ gT := gT_in 1152 (by decide +kernel) rfl
theorem w_1153 : Cond.fieldLink RX12 316 "EggTownModel" "strikes" "I" ∈ gT := gT_in 1153 (by decide +kernel) rfl
theorem w_1154 : Cond.fieldLink RX12 344 "EggTownModel" "ownMany" "I" ∈ gT := gT_in 1154 (by decide +kernel) rfl
theorem w_1155 : Cond.fieldLink RX12 350 "EggTownModel" "planMany" "I" ∈ gT := gT_in 1155 (by decide +kernel) rfl
theorem w_1156 : Cond.fieldLink RX12 74 "EggTownModel" "ownEgg" "[I" ∈ gT := gT_in 1156 (by decide +kernel) rfl
theorem w_1157 : Cond.fieldLink RX12 77 "EggTownModel" "planWork" "[I" ∈ gT := gT_in 1157 (by decide +kernel) rfl
theorem w_1158 : Cond.fieldLink RX12 80 "EggTownModel" "planBest" "[I" ∈ gT := gT_in 1158 (by decide +kernel) rfl
theorem w_1159 : Cond.fieldLink RX12 83 "EggTownModel" "planSum" "[I" ∈ gT := gT_in 1159 (by decide +kernel) rfl
theorem w_1160 : Cond.fieldLink RX12 86 "EggTownModel" "lastDay" "[I" ∈ gT := gT_in 1160 (by decide +kernel) rfl
theorem w_1161 : Cond.fieldLink RX12 89 "EggTownModel" "heavy" "[I" ∈ gT := gT_in 1161 (by decide +kernel) rfl
theorem w_1162 : Cond.fieldLink RX12 92 "EggTownModel" "onDay" "[I" ∈ gT := gT_in 1162 (by decide +kernel) rfl
theorem w_1163 : Cond.fieldLink RX12 95 "EggTownModel" "hoursOf" "[I" ∈ gT := gT_in 1163 (by decide +kernel) rfl
theorem w_1164 : Cond.fieldLink RX12 98 "EggTownModel" "keeps" "[I" ∈ gT := gT_in 1164 (by decide +kernel) rfl
theorem w_1165 : Cond.fieldLink RX12 403 "EggTownModel" "isKept" "Z" ∈ gT := gT_in 1165 (by decide +kernel) rfl
theorem w_1263 : Cond.methodLink RL 17 yX12_person ∈ gT := gT_in 1263 (by decide +kernel) rfl
theorem w_1264 : Cond.instanceMethod yX12_person ∈ gT := gT_in 1264 (by decide +kernel) rfl
theorem w_1265 : Cond.selects RX12 yX12_person yX12_person ∈ gT := gT_in 1265 (by decide +kernel) rfl
theorem w_1266 : Cond.code yX12_person cX12_person 2 (some .boolean) ∈ gT := gT_in 1266 (by decide +kernel) rfl
theorem w_1267 : Cond.methodLink RX12 109 yX12_in ∈ gT := gT_in 1267 (by decide +kernel) rfl
theorem w_1268 : Cond.static yX12_in ∈ gT := gT_in 1268 (by decide +kernel) rfl
theorem w_1269 : Cond.code yX12_in cX12_in 3 (some .boolean) ∈ gT := gT_in 1269 (by decide +kernel) rfl
theorem w_1270 : Cond.methodLink RX12 113 yX12_isPerson ∈ gT := gT_in 1270 (by decide +kernel) rfl
theorem w_1272 : Cond.instanceMethod yX12_isPerson ∈ gT := gT_in 1272 (by decide +kernel) rfl
theorem w_1273 : Cond.code yX12_isPerson cX12_isPerson 2 (some .boolean) ∈ gT := gT_in 1273 (by decide +kernel) rfl
theorem w_1274 : Cond.methodLink RX12 101 yX12_has ∈ gT := gT_in 1274 (by decide +kernel) rfl
theorem w_1275 : Cond.static yX12_has ∈ gT := gT_in 1275 (by decide +kernel) rfl
theorem w_1276 : Cond.code yX12_has cX12_has 2 (some .boolean) ∈ gT := gT_in 1276 (by decide +kernel) rfl
theorem w_1277 : Cond.methodLink RL 22 yX12_hen ∈ gT := gT_in 1277 (by decide +kernel) rfl
theorem w_1278 : Cond.instanceMethod yX12_hen ∈ gT := gT_in 1278 (by decide +kernel) rfl
theorem w_1279 : Cond.selects RX12 yX12_hen yX12_hen ∈ gT := gT_in 1279 (by decide +kernel) rfl
theorem w_1280 : Cond.code yX12_hen cX12_hen 4 (some .boolean) ∈ gT := gT_in 1280 (by decide +kernel) rfl
theorem w_1281 : Cond.methodLink RL 26 yX12_fox ∈ gT := gT_in 1281 (by decide +kernel) rfl
theorem w_1282 : Cond.instanceMethod yX12_fox ∈ gT := gT_in 1282 (by decide +kernel) rfl
theorem w_1283 : Cond.selects RX12 yX12_fox yX12_fox ∈ gT := gT_in 1283 (by decide +kernel) rfl
theorem w_1284 : Cond.code yX12_fox cX12_fox 2 (some .boolean) ∈ gT := gT_in 1284 (by decide +kernel) rfl
theorem w_1285 : Cond.methodLink RX12 116 yX12_isHen ∈ gT := gT_in 1285 (by decide +kernel) rfl
theorem w_1287 : Cond.instanceMethod yX12_isHen ∈ gT := gT_in 1287 (by decide +kernel) rfl
theorem w_1288 : Cond.code yX12_isHen cX12_isHen 2 (some .boolean) ∈ gT := gT_in 1288 (by decide +kernel) rfl
theorem w_1289 : Cond.methodLink RL 31 yX12_work ∈ gT := gT_in 1289 (by decide +kernel) rfl
theorem w_1290 : Cond.instanceMethod yX12_work ∈ gT := gT_in 1290 (by decide +kernel) rfl
theorem w_1291 : Cond.selects RX12 yX12_work yX12_work ∈ gT := gT_in 1291 (by decide +kernel) rfl
theorem w_1292 : Cond.code yX12_work cX12_work 5 (some .boolean) ∈ gT := gT_in 1292 (by decide +kernel) rfl
theorem w_1293 : Cond.methodLink RL 36 yX12_clean ∈ gT := gT_in 1293 (by decide +kernel) rfl
theorem w_1294 : Cond.instanceMethod yX12_clean ∈ gT := gT_in 1294 (by decide +kernel) rfl
theorem w_1295 : Cond.selects RX12 yX12_clean yX12_clean ∈ gT := gT_in 1295 (by decide +kernel) rfl
theorem w_1296 : Cond.code yX12_clean cX12_clean 3 (some .int) ∈ gT := gT_in 1296 (by decide +kernel) rfl
theorem w_1297 : Cond.methodLink RX12 119 yX12_puts ∈ gT := gT_in 1297 (by decide +kernel) rfl
theorem w_1299 : Cond.instanceMethod yX12_puts ∈ gT := gT_in 1299 (by decide +kernel) rfl
theorem w_1300 : Cond.code yX12_puts cX12_puts 3 none ∈ gT := gT_in 1300 (by decide +kernel) rfl
theorem w_1301 : Cond.methodLink RL 41 yX12_feed ∈ gT := gT_in 1301 (by decide +kernel) rfl
theorem w_1302 : Cond.instanceMethod yX12_feed ∈ gT := gT_in 1302 (by decide +kernel) rfl
theorem w_1303 : Cond.selects RX12 yX12_feed yX12_feed ∈ gT := gT_in 1303 (by decide +kernel) rfl
theorem w_1304 : Cond.code yX12_feed cX12_feed 6 (some .int) ∈ gT := gT_in 1304 (by decide +kernel) rfl
theorem w_1305 : Cond.methodLink RX12 127 yX12_types ∈ gT := gT_in 1305 (by decide +kernel) rfl
theorem w_1307 : Cond.instanceMethod yX12_types ∈ gT := gT_in 1307 (by decide +kernel) rfl
theorem w_1308 : Cond.code yX12_types cX12_types 3 none ∈ gT := gT_in 1308 (by decide +kernel) rfl
theorem w_1309 : Cond.methodLink RL 46 yX12_law ∈ gT := gT_in 1309 (by decide +kernel) rfl
theorem w_1310 : Cond.instanceMethod yX12_law ∈ gT := gT_in 1310 (by decide +kernel) rfl
theorem w_1311 : Cond.selects RX12 yX12_law yX12_law ∈ gT := gT_in 1311 (by decide +kernel) rfl
theorem w_1312 : Cond.code yX12_law cX12_law 4 (some .int) ∈ gT := gT_in 1312 (by decide +kernel) rfl
theorem w_1313 : Cond.methodLink RX12 217 yX12_readsClause ∈ gT := gT_in 1313 (by decide +kernel) rfl
theorem w_1315 : Cond.instanceMethod yX12_readsClause ∈ gT := gT_in 1315 (by decide +kernel) rfl
theorem w_1316 : Cond.code yX12_readsClause cX12_readsClause 2 (some .boolean) ∈ gT := gT_in 1316 (by decide +kernel) rfl
theorem w_1317 : Cond.methodLink RX12 137 yX12_here ∈ gT := gT_in 1317 (by decide +kernel) rfl
theorem w_1319 : Cond.instanceMethod yX12_here ∈ gT := gT_in 1319 (by decide +kernel) rfl
theorem w_1320 : Cond.code yX12_here cX12_here 1 (some .int) ∈ gT := gT_in 1320 (by decide +kernel) rfl
theorem w_1321 : Cond.methodLink RX12 208 yX12_isClause ∈ gT := gT_in 1321 (by decide +kernel) rfl
theorem w_1322 : Cond.static yX12_isClause ∈ gT := gT_in 1322 (by decide +kernel) rfl
theorem w_1323 : Cond.code yX12_isClause cX12_isClause 1 (some .boolean) ∈ gT := gT_in 1323 (by decide +kernel) rfl
theorem w_1324 : Cond.methodLink RX12 144 yX12_wrongAt ∈ gT := gT_in 1324 (by decide +kernel) rfl
theorem w_1326 : Cond.instanceMethod yX12_wrongAt ∈ gT := gT_in 1326 (by decide +kernel) rfl
theorem w_1327 : Cond.code yX12_wrongAt cX12_wrongAt 3 (some .boolean) ∈ gT := gT_in 1327 (by decide +kernel) rfl
theorem w_1328 : Cond.methodLink RX12 193 yX12_readsSum ∈ gT := gT_in 1328 (by decide +kernel) rfl
theorem w_1330 : Cond.instanceMethod yX12_readsSum ∈ gT := gT_in 1330 (by decide +kernel) rfl
theorem w_1331 : Cond.code yX12_readsSum cX12_readsSum 3 (some .boolean) ∈ gT := gT_in 1331 (by decide +kernel) rfl
theorem w_1332 : Cond.methodLink RX12 180 yX12_readsFactor ∈ gT := gT_in 1332 (by decide +kernel) rfl
theorem w_1334 : Cond.instanceMethod yX12_readsFactor ∈ gT := gT_in 1334 (by decide +kernel) rfl
theorem w_1335 : Cond.code yX12_readsFactor cX12_readsFactor 2 (some .boolean) ∈ gT := gT_in 1335 (by decide +kernel) rfl
theorem w_1336 : Cond.methodLink RX12 170 yX12_opens ∈ gT := gT_in 1336 (by decide +kernel) rfl
theorem w_1338 : Cond.instanceMethod yX12_opens ∈ gT := gT_in 1338 (by decide +kernel) rfl
theorem w_1339 : Cond.code yX12_opens cX12_opens 2 (some .boolean) ∈ gT := gT_in 1339 (by decide +kernel) rfl
theorem w_1340 : Cond.constant RX12 157 1048576 ∈ gT := gT_in 1340 (by decide +kernel) rfl
theorem w_1341 : Cond.methodLink RX12 150 yX12_isDigit ∈ gT := gT_in 1341 (by decide +kernel) rfl
theorem w_1343 : Cond.instanceMethod yX12_isDigit ∈ gT := gT_in 1343 (by decide +kernel) rfl
theorem w_1344 : Cond.code yX12_isDigit cX12_isDigit 1 (some .boolean) ∈ gT := gT_in 1344 (by decide +kernel) rfl
theorem w_1345 : Cond.methodLink RX12 173 yX12_readsNumber ∈ gT := gT_in 1345 (by decide +kernel) rfl
theorem w_1347 : Cond.instanceMethod yX12_readsNumber ∈ gT := gT_in 1347 (by decide +kernel) rfl
theorem w_1348 : Cond.code yX12_readsNumber cX12_readsNumber 2 (some .boolean) ∈ gT := gT_in 1348 (by decide +kernel) rfl
theorem w_1349 : Cond.methodLink RX12 167 yX12_notes ∈ gT := gT_in 1349 (by decide +kernel) rfl
theorem w_1351 : Cond.instanceMethod yX12_notes ∈ gT := gT_in 1351 (by decide +kernel) rfl
theorem w_1352 : Cond.code yX12_notes cX12_notes 3 none ∈ gT := gT_in 1352 (by decide +kernel) rfl
theorem w_1353 : Cond.methodLink RX12 176 yX12_factOf ∈ gT := gT_in 1353 (by decide +kernel) rfl
theorem w_1354 : Cond.static yX12_factOf ∈ gT := gT_in 1354 (by decide +kernel) rfl
theorem w_1355 : Cond.code yX12_factOf cX12_factOf 1 (some .int) ∈ gT := gT_in 1355 (by decide +kernel) rfl
theorem w_1356 : Cond.methodLink RX12 183 yX12_sumSign ∈ gT := gT_in 1356 (by decide +kernel) rfl
theorem w_1357 : Cond.static yX12_sumSign ∈ gT := gT_in 1357 (by decide +kernel) rfl
theorem w_1358 : Cond.code yX12_sumSign cX12_sumSign 1 (some .int) ∈ gT := gT_in 1358 (by decide +kernel) rfl
theorem w_1359 : Cond.methodLink RX12 186 yX12_closesSums ∈ gT := gT_in 1359 (by decide +kernel) rfl
theorem w_1361 : Cond.instanceMethod yX12_closesSums ∈ gT := gT_in 1361 (by decide +kernel) rfl
theorem w_1362 : Cond.code yX12_closesSums cX12_closesSums 2 none ∈ gT := gT_in 1362 (by decide +kernel) rfl
theorem w_1363 : Cond.methodLink RX12 164 yX12_waitTop ∈ gT := gT_in 1363 (by decide +kernel) rfl
theorem w_1365 : Cond.instanceMethod yX12_waitTop ∈ gT := gT_in 1365 (by decide +kernel) rfl
theorem w_1366 : Cond.code yX12_waitTop cX12_waitTop 1 (some .int) ∈ gT := gT_in 1366 (by decide +kernel) rfl
theorem w_1367 : Cond.methodLink RX12 190 yX12_hasOpenSum ∈ gT := gT_in 1367 (by decide +kernel) rfl
theorem w_1369 : Cond.instanceMethod yX12_hasOpenSum ∈ gT := gT_in 1369 (by decide +kernel) rfl
theorem w_1370 : Cond.code yX12_hasOpenSum cX12_hasOpenSum 3 (some .boolean) ∈ gT := gT_in 1370 (by decide +kernel) rfl
theorem w_1371 : Cond.methodLink RX12 214 yX12_readsCondition ∈ gT := gT_in 1371 (by decide +kernel) rfl
theorem w_1373 : Cond.instanceMethod yX12_readsCondition ∈ gT := gT_in 1373 (by decide +kernel) rfl
theorem w_1374 : Cond.code yX12_readsCondition cX12_readsCondition 1 (some .boolean) ∈ gT := gT_in 1374 (by decide +kernel) rfl
theorem w_1375 : Cond.methodLink RX12 199 yX12_readsCompared ∈ gT := gT_in 1375 (by decide +kernel) rfl
theorem w_1377 : Cond.instanceMethod yX12_readsCompared ∈ gT := gT_in 1377 (by decide +kernel) rfl
theorem w_1378 : Cond.code yX12_readsCompared cX12_readsCompared 2 (some .boolean) ∈ gT := gT_in 1378 (by decide +kernel) rfl
theorem w_1379 : Cond.methodLink RX12 196 yX12_endsPiece ∈ gT := gT_in 1379 (by decide +kernel) rfl
theorem w_1381 : Cond.instanceMethod yX12_endsPiece ∈ gT := gT_in 1381 (by decide +kernel) rfl
theorem w_1382 : Cond.code yX12_endsPiece cX12_endsPiece 1 none ∈ gT := gT_in 1382 (by decide +kernel) rfl
theorem w_1383 : Cond.methodLink RX12 202 yX12_lands ∈ gT := gT_in 1383 (by decide +kernel) rfl
theorem w_1385 : Cond.instanceMethod yX12_lands ∈ gT := gT_in 1385 (by decide +kernel) rfl
theorem w_1386 : Cond.code yX12_lands cX12_lands 3 none ∈ gT := gT_in 1386 (by decide +kernel) rfl
theorem w_1387 : Cond.methodLink RX12 205 yX12_jumps ∈ gT := gT_in 1387 (by decide +kernel) rfl
theorem w_1389 : Cond.instanceMethod yX12_jumps ∈ gT := gT_in 1389 (by decide +kernel) rfl
theorem w_1390 : Cond.code yX12_jumps cX12_jumps 2 none ∈ gT := gT_in 1390 (by decide +kernel) rfl
theorem w_1391 : Cond.methodLink RX12 220 yX12_takes ∈ gT := gT_in 1391 (by decide +kernel) rfl
theorem w_1393 : Cond.instanceMethod yX12_takes ∈ gT := gT_in 1393 (by decide +kernel) rfl
theorem w_1394 : Cond.code yX12_takes cX12_takes 2 (some .boolean) ∈ gT := gT_in 1394 (by decide +kernel) rfl
theorem w_1395 : Cond.methodLink RL 50 yX12_acts ∈ gT := gT_in 1395 (by decide +kernel) rfl
theorem w_1396 : Cond.instanceMethod yX12_acts ∈ gT := gT_in 1396 (by decide +kernel) rfl
theorem w_1397 : Cond.selects RX12 yX12_acts yX12_acts ∈ gT := gT_in 1397 (by decide +kernel) rfl
theorem w_1398 : Cond.code yX12_acts cX12_acts 4 (some .int) ∈ gT := gT_in 1398 (by decide +kernel) rfl
theorem w_1399 : Cond.methodLink RX12 293 yX12_readsLines ∈ gT := gT_in 1399 (by decide +kernel) rfl
theorem w_1401 : Cond.instanceMethod yX12_readsLines ∈ gT := gT_in 1401 (by decide +kernel) rfl
theorem w_1402 : Cond.code yX12_readsLines cX12_readsLines 3 (some .boolean) ∈ gT := gT_in 1402 (by decide +kernel) rfl
theorem w_1403 : Cond.methodLink RX12 259 yX12_readsLine ∈ gT := gT_in 1403 (by decide +kernel) rfl
theorem w_1405 : Cond.instanceMethod yX12_readsLine ∈ gT := gT_in 1405 (by decide +kernel) rfl
theorem w_1406 : Cond.code yX12_readsLine cX12_readsLine 3 (some .boolean) ∈ gT := gT_in 1406 (by decide +kernel) rfl
theorem w_1407 : Cond.methodLink RX12 256 yX12_readsEggs ∈ gT := gT_in 1407 (by decide +kernel) rfl
theorem w_1409 : Cond.instanceMethod yX12_readsEggs ∈ gT := gT_in 1409 (by decide +kernel) rfl
theorem w_1410 : Cond.code yX12_readsEggs cX12_readsEggs 2 (some .int) ∈ gT := gT_in 1410 (by decide +kernel) rfl
theorem w_1411 : Cond.methodLink RX12 253 yX12_readsEgg ∈ gT := gT_in 1411 (by decide +kernel) rfl
theorem w_1413 : Cond.instanceMethod yX12_readsEgg ∈ gT := gT_in 1413 (by decide +kernel) rfl
theorem w_1414 : Cond.code yX12_readsEgg cX12_readsEgg 3 (some .boolean) ∈ gT := gT_in 1414 (by decide +kernel) rfl
theorem w_1415 : Cond.methodLink RX12 250 yX12_isInHandful ∈ gT := gT_in 1415 (by decide +kernel) rfl
theorem w_1417 : Cond.instanceMethod yX12_isInHandful ∈ gT := gT_in 1417 (by decide +kernel) rfl
theorem w_1418 : Cond.code yX12_isInHandful cX12_isInHandful 4 (some .boolean) ∈ gT := gT_in 1418 (by decide +kernel) rfl
theorem w_1419 : Cond.methodLink RX12 296 yX12_does ∈ gT := gT_in 1419 (by decide +kernel) rfl
theorem w_1421 : Cond.instanceMethod yX12_does ∈ gT := gT_in 1421 (by decide +kernel) rfl
theorem w_1422 : Cond.code yX12_does cX12_does 3 (some .boolean) ∈ gT := gT_in 1422 (by decide +kernel) rfl
theorem w_1423 : Cond.methodLink RX12 281 yX12_canBe ∈ gT := gT_in 1423 (by decide +kernel) rfl
theorem w_1425 : Cond.instanceMethod yX12_canBe ∈ gT := gT_in 1425 (by decide +kernel) rfl
theorem w_1426 : Cond.code yX12_canBe cX12_canBe 5 (some .boolean) ∈ gT := gT_in 1426 (by decide +kernel) rfl
theorem w_1427 : Cond.methodLink RX12 262 yX12_isWork ∈ gT := gT_in 1427 (by decide +kernel) rfl
theorem w_1429 : Cond.instanceMethod yX12_isWork ∈ gT := gT_in 1429 (by decide +kernel) rfl
theorem w_1430 : Cond.code yX12_isWork cX12_isWork 2 (some .boolean) ∈ gT := gT_in 1430 (by decide +kernel) rfl
theorem w_1431 : Cond.methodLink RX12 265 yX12_isDone ∈ gT := gT_in 1431 (by decide +kernel) rfl
theorem w_1433 : Cond.instanceMethod yX12_isDone ∈ gT := gT_in 1433 (by decide +kernel) rfl
theorem w_1434 : Cond.code yX12_isDone cX12_isDone 2 (some .boolean) ∈ gT := gT_in 1434 (by decide +kernel) rfl
theorem w_1435 : Cond.methodLink RX12 268 yX12_isWhole ∈ gT := gT_in 1435 (by decide +kernel) rfl
theorem w_1437 : Cond.instanceMethod yX12_isWhole ∈ gT := gT_in 1437 (by decide +kernel) rfl
theorem w_1438 : Cond.code yX12_isWhole cX12_isWhole 2 (some .boolean) ∈ gT := gT_in 1438 (by decide +kernel) rfl
theorem w_1439 : Cond.methodLink RX12 105 yX12_isEgg ∈ gT := gT_in 1439 (by decide +kernel) rfl
theorem w_1441 : Cond.instanceMethod yX12_isEgg ∈ gT := gT_in 1441 (by decide +kernel) rfl
theorem w_1442 : Cond.code yX12_isEgg cX12_isEgg 2 (some .boolean) ∈ gT := gT_in 1442 (by decide +kernel) rfl
theorem w_1443 : Cond.methodLink RX12 284 yX12_gives ∈ gT := gT_in 1443 (by decide +kernel) rfl
theorem w_1445 : Cond.instanceMethod yX12_gives ∈ gT := gT_in 1445 (by decide +kernel) rfl
theorem w_1446 : Cond.code yX12_gives cX12_gives 4 none ∈ gT := gT_in 1446 (by decide +kernel) rfl
theorem w_1447 : Cond.methodLink RX12 287 yX12_worksBy ∈ gT := gT_in 1447 (by decide +kernel) rfl
theorem w_1449 : Cond.instanceMethod yX12_worksBy ∈ gT := gT_in 1449 (by decide +kernel) rfl
theorem w_1450 : Cond.code yX12_worksBy cX12_worksBy 4 none ∈ gT := gT_in 1450 (by decide +kernel) rfl
theorem w_1451 : Cond.methodLink RX12 275 yX12_worthFor ∈ gT := gT_in 1451 (by decide +kernel) rfl
theorem w_1453 : Cond.instanceMethod yX12_worthFor ∈ gT := gT_in 1453 (by decide +kernel) rfl
theorem w_1454 : Cond.code yX12_worthFor cX12_worthFor 3 (some .int) ∈ gT := gT_in 1454 (by decide +kernel) rfl
theorem w_1455 : Cond.methodLink RX12 237 yX12_feelsEgg ∈ gT := gT_in 1455 (by decide +kernel) rfl
theorem w_1457 : Cond.instanceMethod yX12_feelsEgg ∈ gT := gT_in 1457 (by decide +kernel) rfl
theorem w_1458 : Cond.code yX12_feelsEgg cX12_feelsEgg 2 none ∈ gT := gT_in 1458 (by decide +kernel) rfl
theorem w_1459 : Cond.methodLink RX12 234 yX12_feels ∈ gT := gT_in 1459 (by decide +kernel) rfl
theorem w_1461 : Cond.instanceMethod yX12_feels ∈ gT := gT_in 1461 (by decide +kernel) rfl
theorem w_1462 : Cond.code yX12_feels cX12_feels 2 none ∈ gT := gT_in 1462 (by decide +kernel) rfl
theorem w_1463 : Cond.methodLink RX12 240 yX12_byLaw ∈ gT := gT_in 1463 (by decide +kernel) rfl
theorem w_1465 : Cond.instanceMethod yX12_byLaw ∈ gT := gT_in 1465 (by decide +kernel) rfl
theorem w_1466 : Cond.code yX12_byLaw cX12_byLaw 5 (some .int) ∈ gT := gT_in 1466 (by decide +kernel) rfl
theorem w_1467 : Cond.methodLink RX12 230 yX12_comesTo ∈ gT := gT_in 1467 (by decide +kernel) rfl
theorem w_1469 : Cond.instanceMethod yX12_comesTo ∈ gT := gT_in 1469 (by decide +kernel) rfl
theorem w_1470 : Cond.code yX12_comesTo cX12_comesTo 8 (some .int) ∈ gT := gT_in 1470 (by decide +kernel) rfl
theorem w_1471 : Cond.methodLink RX12 226 yX12_reckon ∈ gT := gT_in 1471 (by decide +kernel) rfl
theorem w_1472 : Cond.static yX12_reckon ∈ gT := gT_in 1472 (by decide +kernel) rfl
theorem w_1473 : Cond.code yX12_reckon cX12_reckon 3 (some .int) ∈ gT := gT_in 1473 (by decide +kernel) rfl
theorem w_1474 : Cond.methodLink RX12 278 yX12_breaks ∈ gT := gT_in 1474 (by decide +kernel) rfl
theorem w_1476 : Cond.instanceMethod yX12_breaks ∈ gT := gT_in 1476 (by decide +kernel) rfl
theorem w_1477 : Cond.code yX12_breaks cX12_breaks 3 none ∈ gT := gT_in 1477 (by decide +kernel) rfl
theorem w_1478 : Cond.constant RX12 271 999999 ∈ gT := gT_in 1478 (by decide +kernel) rfl
theorem w_1479 : Cond.methodLink RX12 272 yX12_min ∈ gT := gT_in 1479 (by decide +kernel) rfl
theorem w_1480 : Cond.static yX12_min ∈ gT := gT_in 1480 (by decide +kernel) rfl
theorem w_1481 : Cond.code yX12_min cX12_min 2 (some .int) ∈ gT := gT_in 1481 (by decide +kernel) rfl
theorem w_1482 : Cond.methodLink RX12 290 yX12_broods ∈ gT := gT_in 1482 (by decide +kernel) rfl
theorem w_1484 : Cond.instanceMethod yX12_broods ∈ gT := gT_in 1484 (by decide +kernel) rfl
theorem w_1485 : Cond.code yX12_broods cX12_broods 2 none ∈ gT := gT_in 1485 (by decide +kernel) rfl
theorem w_1486 : Cond.methodLink RL 54 yX12_judged ∈ gT := gT_in 1486 (by decide +kernel) rfl
theorem w_1487 : Cond.instanceMethod yX12_judged ∈ gT := gT_in 1487 (by decide +kernel) rfl
theorem w_1488 : Cond.selects RX12 yX12_judged yX12_judged ∈ gT := gT_in 1488 (by decide +kernel) rfl
theorem w_1489 : Cond.code yX12_judged cX12_judged 3 (some .int) ∈ gT := gT_in 1489 (by decide +kernel) rfl
theorem w_1490 : Cond.methodLink RX12 299 yX12_copies ∈ gT := gT_in 1490 (by decide +kernel) rfl
theorem w_1491 : Cond.static yX12_copies ∈ gT := gT_in 1491 (by decide +kernel) rfl
theorem w_1492 : Cond.code yX12_copies cX12_copies 3 none ∈ gT := gT_in 1492 (by decide +kernel) rfl
theorem w_1493 : Cond.methodLink RL 58 yX12_days ∈ gT := gT_in 1493 (by decide +kernel) rfl
theorem w_1494 : Cond.instanceMethod yX12_days ∈ gT := gT_in 1494 (by decide +kernel) rfl
theorem w_1495 : Cond.selects RX12 yX12_days yX12_days ∈ gT := gT_in 1495 (by decide +kernel) rfl
theorem w_1496 : Cond.code yX12_days cX12_days 2 (some .int) ∈ gT := gT_in 1496 (by decide +kernel) rfl
theorem w_1497 : Cond.methodLink RX12 328 yX12_daysGo ∈ gT := gT_in 1497 (by decide +kernel) rfl
theorem w_1499 : Cond.instanceMethod yX12_daysGo ∈ gT := gT_in 1499 (by decide +kernel) rfl
theorem w_1500 : Cond.code yX12_daysGo cX12_daysGo 3 none ∈ gT := gT_in 1500 (by decide +kernel) rfl
theorem w_1501 : Cond.methodLink RX12 325 yX12_dayGoes ∈ gT := gT_in 1501 (by decide +kernel) rfl
theorem w_1503 : Cond.instanceMethod yX12_dayGoes ∈ gT := gT_in 1503 (by decide +kernel) rfl
theorem w_1504 : Cond.code yX12_dayGoes cX12_dayGoes 3 none ∈ gT := gT_in 1504 (by decide +kernel) rfl
theorem w_1505 : Cond.methodLink RX12 304 yX12_draws ∈ gT := gT_in 1505 (by decide +kernel) rfl
theorem w_1507 : Cond.instanceMethod yX12_draws ∈ gT := gT_in 1507 (by decide +kernel) rfl
theorem w_1508 : Cond.code yX12_draws cX12_draws 1 (some .int) ∈ gT := gT_in 1508 (by decide +kernel) rfl
theorem w_1509 : Cond.constant RX12 303 65536 ∈ gT := gT_in 1509 (by decide +kernel) rfl
theorem w_1510 : Cond.methodLink RX12 307 yX12_feelsHen ∈ gT := gT_in 1510 (by decide +kernel) rfl
theorem w_1512 : Cond.instanceMethod yX12_feelsHen ∈ gT := gT_in 1512 (by decide +kernel) rfl
theorem w_1513 : Cond.code yX12_feelsHen cX12_feelsHen 3 none ∈ gT := gT_in 1513 (by decide +kernel) rfl
theorem w_1514 : Cond.methodLink RX12 319 yX12_lays ∈ gT := gT_in 1514 (by decide +kernel) rfl
theorem w_1516 : Cond.instanceMethod yX12_lays ∈ gT := gT_in 1516 (by decide +kernel) rfl
theorem w_1517 : Cond.code yX12_lays cX12_lays 5 none ∈ gT := gT_in 1517 (by decide +kernel) rfl
theorem w_1518 : Cond.methodLink RX12 243 yX12_badBehind ∈ gT := gT_in 1518 (by decide +kernel) rfl
theorem w_1520 : Cond.instanceMethod yX12_badBehind ∈ gT := gT_in 1520 (by decide +kernel) rfl
theorem w_1521 : Cond.code yX12_badBehind cX12_badBehind 2 (some .int) ∈ gT := gT_in 1521 (by decide +kernel) rfl
theorem w_1522 : Cond.methodLink RL 63 yX12_tried ∈ gT := gT_in 1522 (by decide +kernel) rfl
theorem w_1523 : Cond.instanceMethod yX12_tried ∈ gT := gT_in 1523 (by decide +kernel) rfl
theorem w_1524 : Cond.selects RX12 yX12_tried yX12_tried ∈ gT := gT_in 1524 (by decide +kernel) rfl
theorem w_1525 : Cond.code yX12_tried cX12_tried 4 (some .int) ∈ gT := gT_in 1525 (by decide +kernel) rfl
theorem w_1526 : Cond.methodLink RX12 331 yX12_howMany ∈ gT := gT_in 1526 (by decide +kernel) rfl
theorem w_1528 : Cond.instanceMethod yX12_howMany ∈ gT := gT_in 1528 (by decide +kernel) rfl
theorem w_1529 : Cond.code yX12_howMany cX12_howMany 4 (some .int) ∈ gT := gT_in 1529 (by decide +kernel) rfl
theorem w_1530 : Cond.methodLink RL 67 yX12_egg ∈ gT := gT_in 1530 (by decide +kernel) rfl
theorem w_1531 : Cond.instanceMethod yX12_egg ∈ gT := gT_in 1531 (by decide +kernel) rfl
theorem w_1532 : Cond.selects RX12 yX12_egg yX12_egg ∈ gT := gT_in 1532 (by decide +kernel) rfl
theorem w_1533 : Cond.code yX12_egg cX12_egg 3 (some .int) ∈ gT := gT_in 1533 (by decide +kernel) rfl
theorem w_1534 : Cond.methodLink RX12 334 yX12_badOn ∈ gT := gT_in 1534 (by decide +kernel) rfl
theorem w_1536 : Cond.instanceMethod yX12_badOn ∈ gT := gT_in 1536 (by decide +kernel) rfl
theorem w_1537 : Cond.code yX12_badOn cX12_badOn 3 (some .int) ∈ gT := gT_in 1537 (by decide +kernel) rfl
theorem w_1538 : Cond.constant RX12 246 1000000000 ∈ gT := gT_in 1538 (by decide +kernel) rfl
theorem w_1539 : Cond.methodLink RL 71 yX12_personIs ∈ gT := gT_in 1539 (by decide +kernel) rfl
theorem w_1540 : Cond.instanceMethod yX12_personIs ∈ gT := gT_in 1540 (by decide +kernel) rfl
theorem w_1541 : Cond.selects RX12 yX12_personIs yX12_personIs ∈ gT := gT_in 1541 (by decide +kernel) rfl
theorem w_1542 : Cond.code yX12_personIs cX12_personIs 3 (some .int) ∈ gT := gT_in 1542 (by decide +kernel) rfl
theorem w_1543 : Cond.methodLink RX12 337 yX12_eggsOf ∈ gT := gT_in 1543 (by decide +kernel) rfl
theorem w_1545 : Cond.instanceMethod yX12_eggsOf ∈ gT := gT_in 1545 (by decide +kernel) rfl
theorem w_1546 : Cond.code yX12_eggsOf cX12_eggsOf 5 (some .int) ∈ gT := gT_in 1546 (by decide +kernel) rfl
theorem w_1547 : Cond.methodLink RX12 341 yX12_hensOf ∈ gT := gT_in 1547 (by decide +kernel) rfl
theorem w_1549 : Cond.instanceMethod yX12_hensOf ∈ gT := gT_in 1549 (by decide +kernel) rfl
theorem w_1550 : Cond.code yX12_hensOf cX12_hensOf 4 (some .int) ∈ gT := gT_in 1550 (by decide +kernel) rfl
theorem w_1551 : Cond.methodLink RL 75 yX12_workIs ∈ gT := gT_in 1551 (by decide +kernel) rfl
theorem w_1552 : Cond.instanceMethod yX12_workIs ∈ gT := gT_in 1552 (by decide +kernel) rfl
theorem w_1553 : Cond.selects RX12 yX12_workIs yX12_workIs ∈ gT := gT_in 1553 (by decide +kernel) rfl
theorem w_1554 : Cond.code yX12_workIs cX12_workIs 3 (some .int) ∈ gT := gT_in 1554 (by decide +kernel) rfl
theorem w_1555 : Cond.methodLink RL 80 yX12_plan ∈ gT := gT_in 1555 (by decide +kernel) rfl
theorem w_1556 : Cond.instanceMethod yX12_plan ∈ gT := gT_in 1556 (by decide +kernel) rfl
theorem w_1557 : Cond.selects RX12 yX12_plan yX12_plan ∈ gT := gT_in 1557 (by decide +kernel) rfl
theorem w_1558 : Cond.code yX12_plan cX12_plan 6 (some .int) ∈ gT := gT_in 1558 (by decide +kernel) rfl
theorem w_1559 : Cond.methodLink RX12 347 yX12_bits ∈ gT := gT_in 1559 (by decide +kernel) rfl
theorem w_1560 : Cond.static yX12_bits ∈ gT := gT_in 1560 (by decide +kernel) rfl
theorem w_1561 : Cond.code yX12_bits cX12_bits 3 (some .int) ∈ gT := gT_in 1561 (by decide +kernel) rfl
theorem w_1562 : Cond.methodLink RX12 362 yX12_laysOwn ∈ gT := gT_in 1562 (by decide +kernel) rfl
theorem w_1564 : Cond.instanceMethod yX12_laysOwn ∈ gT := gT_in 1564 (by decide +kernel) rfl
theorem w_1565 : Cond.code yX12_laysOwn cX12_laysOwn 4 none ∈ gT := gT_in 1565 (by decide +kernel) rfl
theorem w_1566 : Cond.methodLink RX12 365 yX12_laysPlan ∈ gT := gT_in 1566 (by decide +kernel) rfl
theorem w_1568 : Cond.instanceMethod yX12_laysPlan ∈ gT := gT_in 1568 (by decide +kernel) rfl
theorem w_1569 : Cond.code yX12_laysPlan cX12_laysPlan 6 none ∈ gT := gT_in 1569 (by decide +kernel) rfl
theorem w_1570 : Cond.methodLink RX12 353 yX12_laysSums ∈ gT := gT_in 1570 (by decide +kernel) rfl
theorem w_1572 : Cond.instanceMethod yX12_laysSums ∈ gT := gT_in 1572 (by decide +kernel) rfl
theorem w_1573 : Cond.code yX12_laysSums cX12_laysSums 5 none ∈ gT := gT_in 1573 (by decide +kernel) rfl
theorem w_1574 : Cond.methodLink RX12 356 yX12_planBy ∈ gT := gT_in 1574 (by decide +kernel) rfl
theorem w_1576 : Cond.instanceMethod yX12_planBy ∈ gT := gT_in 1576 (by decide +kernel) rfl
theorem w_1577 : Cond.code yX12_planBy cX12_planBy 6 (some .int) ∈ gT := gT_in 1577 (by decide +kernel) rfl
theorem w_1578 : Cond.methodLink RX12 359 yX12_max ∈ gT := gT_in 1578 (by decide +kernel) rfl
theorem w_1579 : Cond.static yX12_max ∈ gT := gT_in 1579 (by decide +kernel) rfl
theorem w_1580 : Cond.code yX12_max cX12_max 2 (some .int) ∈ gT := gT_in 1580 (by decide +kernel) rfl
theorem w_1581 : Cond.methodLink RX12 368 yX12_planSet ∈ gT := gT_in 1581 (by decide +kernel) rfl
theorem w_1583 : Cond.instanceMethod yX12_planSet ∈ gT := gT_in 1583 (by decide +kernel) rfl
theorem w_1584 : Cond.code yX12_planSet cX12_planSet 5 (some .int) ∈ gT := gT_in 1584 (by decide +kernel) rfl
theorem w_1585 : Cond.methodLink RL 84 yX12_before ∈ gT := gT_in 1585 (by decide +kernel) rfl
theorem w_1586 : Cond.instanceMethod yX12_before ∈ gT := gT_in 1586 (by decide +kernel) rfl
theorem w_1587 : Cond.selects RX12 yX12_before yX12_before ∈ gT := gT_in 1587 (by decide +kernel) rfl
theorem w_1588 : Cond.code yX12_before cX12_before 9 (some .int) ∈ gT := gT_in 1588 (by decide +kernel) rfl
theorem w_1589 : Cond.methodLink RX12 371 yX12_heaviest ∈ gT := gT_in 1589 (by decide +kernel) rfl
theorem w_1591 : Cond.instanceMethod yX12_heaviest ∈ gT := gT_in 1591 (by decide +kernel) rfl
theorem w_1592 : Cond.code yX12_heaviest cX12_heaviest 5 (some .int) ∈ gT := gT_in 1592 (by decide +kernel) rfl
theorem w_1593 : Cond.methodLink RL 88 yX12_flock ∈ gT := gT_in 1593 (by decide +kernel) rfl
theorem w_1594 : Cond.instanceMethod yX12_flock ∈ gT := gT_in 1594 (by decide +kernel) rfl
theorem w_1595 : Cond.selects RX12 yX12_flock yX12_flock ∈ gT := gT_in 1595 (by decide +kernel) rfl
theorem w_1596 : Cond.code yX12_flock cX12_flock 9 (some .int) ∈ gT := gT_in 1596 (by decide +kernel) rfl
theorem w_1597 : Cond.methodLink RX12 374 yX12_hoursBy ∈ gT := gT_in 1597 (by decide +kernel) rfl
theorem w_1599 : Cond.instanceMethod yX12_hoursBy ∈ gT := gT_in 1599 (by decide +kernel) rfl
theorem w_1600 : Cond.code yX12_hoursBy cX12_hoursBy 4 (some .int) ∈ gT := gT_in 1600 (by decide +kernel) rfl
theorem w_1601 : Cond.methodLink RL 92 yX12_rations ∈ gT := gT_in 1601 (by decide +kernel) rfl
theorem w_1602 : Cond.instanceMethod yX12_rations ∈ gT := gT_in 1602 (by decide +kernel) rfl
theorem w_1603 : Cond.selects RX12 yX12_rations yX12_rations ∈ gT := gT_in 1603 (by decide +kernel) rfl
theorem w_1604 : Cond.code yX12_rations cX12_rations 9 (some .int) ∈ gT := gT_in 1604 (by decide +kernel) rfl
theorem w_1605 : Cond.methodLink RX12 377 yX12_areEggs ∈ gT := gT_in 1605 (by decide +kernel) rfl
theorem w_1607 : Cond.instanceMethod yX12_areEggs ∈ gT := gT_in 1607 (by decide +kernel) rfl
theorem w_1608 : Cond.code yX12_areEggs cX12_areEggs 5 (some .boolean) ∈ gT := gT_in 1608 (by decide +kernel) rfl
theorem w_1609 : Cond.methodLink RX12 380 yX12_leastOf ∈ gT := gT_in 1609 (by decide +kernel) rfl
theorem w_1611 : Cond.instanceMethod yX12_leastOf ∈ gT := gT_in 1611 (by decide +kernel) rfl
theorem w_1612 : Cond.code yX12_leastOf cX12_leastOf 9 (some .int) ∈ gT := gT_in 1612 (by decide +kernel) rfl
theorem w_1613 : Cond.methodLink RL 96 yX12_hoards ∈ gT := gT_in 1613 (by decide +kernel) rfl
theorem w_1614 : Cond.instanceMethod yX12_hoards ∈ gT := gT_in 1614 (by decide +kernel) rfl
theorem w_1615 : Cond.selects RX12 yX12_hoards yX12_hoards ∈ gT := gT_in 1615 (by decide +kernel) rfl
theorem w_1616 : Cond.code yX12_hoards cX12_hoards 6 (some .int) ∈ gT := gT_in 1616 (by decide +kernel) rfl
theorem w_1617 : Cond.methodLink RX12 386 yX12_rests ∈ gT := gT_in 1617 (by decide +kernel) rfl
theorem w_1619 : Cond.instanceMethod yX12_rests ∈ gT := gT_in 1619 (by decide +kernel) rfl
theorem w_1620 : Cond.code yX12_rests cX12_rests 6 (some .boolean) ∈ gT := gT_in 1620 (by decide +kernel) rfl
theorem w_1621 : Cond.methodLink RX12 383 yX12_soldBy ∈ gT := gT_in 1621 (by decide +kernel) rfl
theorem w_1623 : Cond.instanceMethod yX12_soldBy ∈ gT := gT_in 1623 (by decide +kernel) rfl
theorem w_1624 : Cond.code yX12_soldBy cX12_soldBy 2 (some .int) ∈ gT := gT_in 1624 (by decide +kernel) rfl
theorem w_1625 : Cond.methodLink RL 100 yX12_yolks ∈ gT := gT_in 1625 (by decide +kernel) rfl
theorem w_1626 : Cond.instanceMethod yX12_yolks ∈ gT := gT_in 1626 (by decide +kernel) rfl
theorem w_1627 : Cond.selects RX12 yX12_yolks yX12_yolks ∈ gT := gT_in 1627 (by decide +kernel) rfl
theorem w_1628 : Cond.code yX12_yolks cX12_yolks 9 (some .int) ∈ gT := gT_in 1628 (by decide +kernel) rfl
theorem w_1629 : Cond.methodLink RL 104 yX12_thefts ∈ gT := gT_in 1629 (by decide +kernel) rfl
theorem w_1630 : Cond.instanceMethod yX12_thefts ∈ gT := gT_in 1630 (by decide +kernel) rfl
theorem w_1631 : Cond.selects RX12 yX12_thefts yX12_thefts ∈ gT := gT_in 1631 (by decide +kernel) rfl
theorem w_1632 : Cond.code yX12_thefts cX12_thefts 5 (some .int) ∈ gT := gT_in 1632 (by decide +kernel) rfl
theorem w_1633 : Cond.methodLink RX12 389 yX12_moreOf ∈ gT := gT_in 1633 (by decide +kernel) rfl
theorem w_1635 : Cond.instanceMethod yX12_moreOf ∈ gT := gT_in 1635 (by decide +kernel) rfl
theorem w_1636 : Cond.code yX12_moreOf cX12_moreOf 2 (some .int) ∈ gT := gT_in 1636 (by decide +kernel) rfl
theorem w_1637 : Cond.constant RX12 392 (-1000000000) ∈ gT := gT_in 1637 (by decide +kernel) rfl
theorem w_1638 : Cond.methodLink RL 108 yX12_baskets ∈ gT := gT_in 1638 (by decide +kernel) rfl
theorem w_1639 : Cond.instanceMethod yX12_baskets ∈ gT := gT_in 1639 (by decide +kernel) rfl
theorem w_1640 : Cond.selects RX12 yX12_baskets yX12_baskets ∈ gT := gT_in 1640 (by decide +kernel) rfl
theorem w_1641 : Cond.code yX12_baskets cX12_baskets 9 (some .int) ∈ gT := gT_in 1641 (by decide +kernel) rfl
theorem w_1642 : Cond.methodLink RL 112 yX12_latest ∈ gT := gT_in 1642 (by decide +kernel) rfl
theorem w_1643 : Cond.instanceMethod yX12_latest ∈ gT := gT_in 1643 (by decide +kernel) rfl
theorem w_1644 : Cond.selects RX12 yX12_latest yX12_latest ∈ gT := gT_in 1644 (by decide +kernel) rfl
theorem w_1645 : Cond.code yX12_latest cX12_latest 5 (some .int) ∈ gT := gT_in 1645 (by decide +kernel) rfl
theorem w_1646 : Cond.methodLink RL 116 yX12_soonest ∈ gT := gT_in 1646 (by decide +kernel) rfl
theorem w_1647 : Cond.instanceMethod yX12_soonest ∈ gT := gT_in 1647 (by decide +kernel) rfl
theorem w_1648 : Cond.selects RX12 yX12_soonest yX12_soonest ∈ gT := gT_in 1648 (by decide +kernel) rfl
theorem w_1649 : Cond.code yX12_soonest cX12_soonest 6 (some .int) ∈ gT := gT_in 1649 (by decide +kernel) rfl
theorem w_1650 : Cond.methodLink RX12 396 yX12_daysFor ∈ gT := gT_in 1650 (by decide +kernel) rfl
theorem w_1652 : Cond.instanceMethod yX12_daysFor ∈ gT := gT_in 1652 (by decide +kernel) rfl
theorem w_1653 : Cond.code yX12_daysFor cX12_daysFor 5 (some .int) ∈ gT := gT_in 1653 (by decide +kernel) rfl
theorem w_1654 : Cond.methodLink RX12 393 yX12_worksAll ∈ gT := gT_in 1654 (by decide +kernel) rfl
theorem w_1656 : Cond.instanceMethod yX12_worksAll ∈ gT := gT_in 1656 (by decide +kernel) rfl
theorem w_1657 : Cond.code yX12_worksAll cX12_worksAll 4 none ∈ gT := gT_in 1657 (by decide +kernel) rfl
theorem w_1658 : Cond.methodLink RL 120 yX12_barter ∈ gT := gT_in 1658 (by decide +kernel) rfl
theorem w_1659 : Cond.instanceMethod yX12_barter ∈ gT := gT_in 1659 (by decide +kernel) rfl
theorem w_1660 : Cond.selects RX12 yX12_barter yX12_barter ∈ gT := gT_in 1660 (by decide +kernel) rfl
theorem w_1661 : Cond.code yX12_barter cX12_barter 13 (some .int) ∈ gT := gT_in 1661 (by decide +kernel) rfl
theorem w_1662 : Cond.methodLink RX12 399 yX12_apart ∈ gT := gT_in 1662 (by decide +kernel) rfl
theorem w_1663 : Cond.static yX12_apart ∈ gT := gT_in 1663 (by decide +kernel) rfl
theorem w_1664 : Cond.code yX12_apart cX12_apart 2 (some .int) ∈ gT := gT_in 1664 (by decide +kernel) rfl
theorem w_1665 : Cond.methodLink RL 124 yX12_seed ∈ gT := gT_in 1665 (by decide +kernel) rfl
theorem w_1666 : Cond.instanceMethod yX12_seed ∈ gT := gT_in 1666 (by decide +kernel) rfl
theorem w_1667 : Cond.selects RX12 yX12_seed yX12_seed ∈ gT := gT_in 1667 (by decide +kernel) rfl
theorem w_1668 : Cond.code yX12_seed cX12_seed 2 (some .boolean) ∈ gT := gT_in 1668 (by decide +kernel) rfl
theorem w_1669 : Cond.constant RX12 402 65535 ∈ gT := gT_in 1669 (by decide +kernel) rfl
theorem w_1670 : Cond.methodLink RL 128 yX12_keep ∈ gT := gT_in 1670 (by decide +kernel) rfl
theorem w_1671 : Cond.instanceMethod yX12_keep ∈ gT := gT_in 1671 (by decide +kernel) rfl
theorem w_1672 : Cond.selects RX12 yX12_keep yX12_keep ∈ gT := gT_in 1672 (by decide +kernel) rfl
theorem w_1673 : Cond.code yX12_keep cX12_keep 1 (some .int) ∈ gT := gT_in 1673 (by decide +kernel) rfl
theorem w_1674 : Cond.methodLink RL 133 yX12_undo ∈ gT := gT_in 1674 (by decide +kernel) rfl
theorem w_1675 : Cond.instanceMethod yX12_undo ∈ gT := gT_in 1675 (by decide +kernel) rfl
theorem w_1676 : Cond.selects RX12 yX12_undo yX12_undo ∈ gT := gT_in 1676 (by decide +kernel) rfl
theorem w_1677 : Cond.code yX12_undo cX12_undo 1 (some .boolean) ∈ gT := gT_in 1677 (by decide +kernel) rfl
theorem w_1678 : Cond.methodLink RL 137 yX12_check ∈ gT := gT_in 1678 (by decide +kernel) rfl
theorem w_1679 : Cond.instanceMethod yX12_check ∈ gT := gT_in 1679 (by decide +kernel) rfl
theorem w_1680 : Cond.selects RX12 yX12_check yX12_check ∈ gT := gT_in 1680 (by decide +kernel) rfl
theorem w_1681 : Cond.code yX12_check cX12_check 3 (some .int) ∈ gT := gT_in 1681 (by decide +kernel) rfl
theorem w_1682 : Cond.methodLink RX12 407 yX12_tapeNumber ∈ gT := gT_in 1682 (by decide +kernel) rfl
theorem w_1684 : Cond.instanceMethod yX12_tapeNumber ∈ gT := gT_in 1684 (by decide +kernel) rfl
theorem w_1685 : Cond.code yX12_tapeNumber cX12_tapeNumber 4 (some .int) ∈ gT := gT_in 1685 (by decide +kernel) rfl
theorem w_1686 : Cond.methodLink RL 141 yX12_count ∈ gT := gT_in 1686 (by decide +kernel) rfl
theorem w_1687 : Cond.instanceMethod yX12_count ∈ gT := gT_in 1687 (by decide +kernel) rfl
theorem w_1688 : Cond.selects RX12 yX12_count yX12_count ∈ gT := gT_in 1688 (by decide +kernel) rfl
theorem w_1689 : Cond.code yX12_count cX12_count 2 (some .int) ∈ gT := gT_in 1689 (by decide +kernel) rfl
end
section
theorem in_X0 : ∀ w ∈ u_ws RX0 TX0 6, w ∈ gT := fun w hw => List.mem_filter.mpr ⟨List.mem_append_right _ ((of_decide_eq_true (by decide +kernel : decide (∀ w ∈ u_ws RX0 TX0 6, w ∈ tables_1) = true)) w hw), (of_decide_eq_true (by decide +kernel : decide (∀ w ∈ u_ws RX0 TX0 6, goodWord w = true) = true)) w hw⟩
theorem dv_X0 : ∀ j, j < 6 → defaultValue (tyX0 j) = vp_V [.int 0, .null, .null, .null, .null, .int 0] j := by decide +kernel
theorem in_X1 : ∀ w ∈ u_ws RX1 TX1 7, w ∈ gT := fun w hw => List.mem_filter.mpr ⟨List.mem_append_right _ ((of_decide_eq_true (by decide +kernel : decide (∀ w ∈ u_ws RX1 TX1 7, w ∈ tables_1) = true)) w hw), (of_decide_eq_true (by decide +kernel : decide (∀ w ∈ u_ws RX1 TX1 7, goodWord w = true) = true)) w hw⟩
theorem dv_X1 : ∀ j, j < 7 → defaultValue (tyX1 j) = vp_V [.int 0, .null, .null, .null, .null, .null, .null] j := by decide +kernel
theorem in_X2 : ∀ w ∈ u_ws RX2 TX2 3, w ∈ gT := fun w hw => List.mem_filter.mpr ⟨List.mem_append_right _ ((of_decide_eq_true (by decide +kernel : decide (∀ w ∈ u_ws RX2 TX2 3, w ∈ tables_1) = true)) w hw), (of_decide_eq_true (by decide +kernel : decide (∀ w ∈ u_ws RX2 TX2 3, goodWord w = true) = true)) w hw⟩
theorem dv_X2 : ∀ j, j < 3 → defaultValue (tyX2 j) = vp_V [.int 0, .null, .null] j := by decide +kernel
theorem in_X3 : ∀ w ∈ u_ws RX3 TX3 10, w ∈ gT := fun w hw => List.mem_filter.mpr ⟨List.mem_append_right _ ((of_decide_eq_true (by decide +kernel : decide (∀ w ∈ u_ws RX3 TX3 10, w ∈ tables_1) = true)) w hw), (of_decide_eq_true (by decide +kernel : decide (∀ w ∈ u_ws RX3 TX3 10, goodWord w = true) = true)) w hw⟩
theorem dv_X3 : ∀ j, j < 10 → defaultValue (tyX3 j) = vp_V [.int 0, .null, .null, .null, .null, .int 0, .null, .null, .null, .int 0] j := by decide +kernel
theorem in_X5 : ∀ w ∈ u_ws RX5 TX5 5, w ∈ gT := fun w hw => List.mem_filter.mpr ⟨List.mem_append_right _ ((of_decide_eq_true (by decide +kernel : decide (∀ w ∈ u_ws RX5 TX5 5, w ∈ tables_1) = true)) w hw), (of_decide_eq_true (by decide +kernel : decide (∀ w ∈ u_ws RX5 TX5 5, goodWord w = true) = true)) w hw⟩
theorem dv_X5 : ∀ j, j < 5 → defaultValue (tyX5 j) = vp_V [.int 0, .null, .null, .null, .null] j := by decide +kernel
theorem in_X6 : ∀ w ∈ u_ws RX6 TX6 13, w ∈ gT := fun w hw => List.mem_filter.mpr ⟨List.mem_append_right _ ((of_decide_eq_true (by decide +kernel : decide (∀ w ∈ u_ws RX6 TX6 13, w ∈ tables_1) = true)) w hw), (of_decide_eq_true (by decide +kernel : decide (∀ w ∈ u_ws RX6 TX6 13, goodWord w = true) = true)) w hw⟩
theorem dv_X6 : ∀ j, j < 13 → defaultValue (tyX6 j) = vp_V [.null, .null, .int 0, .int 0, .null, .null, .null, .null, .null, .null, .null, .null, .int 0] j := by decide +kernel
theorem in_X7 : ∀ w ∈ u_ws RX7 TX7 5, w ∈ gT := fun w hw => List.mem_filter.mpr ⟨List.mem_append_right _ ((of_decide_eq_true (by decide +kernel : decide (∀ w ∈ u_ws RX7 TX7 5, w ∈ tables_1) = true)) w hw), (of_decide_eq_true (by decide +kernel : decide (∀ w ∈ u_ws RX7 TX7 5, goodWord w = true) = true)) w hw⟩
theorem dv_X7 : ∀ j, j < 5 → defaultValue (tyX7 j) = vp_V [.int 0, .int 0, .int 0, .null, .int 0] j := by decide +kernel
theorem in_X8 : ∀ w ∈ u_ws RX8 TX8 5, w ∈ gT := fun w hw => List.mem_filter.mpr ⟨List.mem_append_right _ ((of_decide_eq_true (by decide +kernel : decide (∀ w ∈ u_ws RX8 TX8 5, w ∈ tables_1) = true)) w hw), (of_decide_eq_true (by decide +kernel : decide (∀ w ∈ u_ws RX8 TX8 5, goodWord w = true) = true)) w hw⟩
theorem dv_X8 : ∀ j, j < 5 → defaultValue (tyX8 j) = vp_V [.null, .int 0, .int 0, .int 0, .int 0] j := by decide +kernel
theorem in_X9 : ∀ w ∈ u_ws RX9 TX9 10, w ∈ gT := fun w hw => List.mem_filter.mpr ⟨List.mem_append_right _ ((of_decide_eq_true (by decide +kernel : decide (∀ w ∈ u_ws RX9 TX9 10, w ∈ tables_1) = true)) w hw), (of_decide_eq_true (by decide +kernel : decide (∀ w ∈ u_ws RX9 TX9 10, goodWord w = true) = true)) w hw⟩
theorem dv_X9 : ∀ j, j < 10 → defaultValue (tyX9 j) = vp_V [.int 0, .int 0, .null, .null, .null, .null, .int 0, .int 0, .int 0, .int 0] j := by decide +kernel
theorem in_X10 : ∀ w ∈ u_ws RX10 TX10 6, w ∈ gT := fun w hw => List.mem_filter.mpr ⟨List.mem_append_right _ ((of_decide_eq_true (by decide +kernel : decide (∀ w ∈ u_ws RX10 TX10 6, w ∈ tables_1) = true)) w hw), (of_decide_eq_true (by decide +kernel : decide (∀ w ∈ u_ws RX10 TX10 6, goodWord w = true) = true)) w hw⟩
theorem dv_X10 : ∀ j, j < 6 → defaultValue (tyX10 j) = vp_V [.int 0, .null, .null, .null, .null, .null] j := by decide +kernel
theorem in_X11 : ∀ w ∈ u_ws RX11 TX11 19, w ∈ gT := fun w hw => List.mem_filter.mpr ⟨List.mem_append_right _ ((of_decide_eq_true (by decide +kernel : decide (∀ w ∈ u_ws RX11 TX11 19, w ∈ tables_1) = true)) w hw), (of_decide_eq_true (by decide +kernel : decide (∀ w ∈ u_ws RX11 TX11 19, goodWord w = true) = true)) w hw⟩
theorem dv_X11 : ∀ j, j < 19 → defaultValue (tyX11 j) = vp_V [.null, .null, .null, .null, .null, .int 0, .null, .null, .null, .null, .null, .null, .null, .null, .null, .null, .null, .null, .null] j := by decide +kernel
theorem in_X12 : ∀ w ∈ u_ws RX12 TX12 48, w ∈ gT := fun w hw => List.mem_filter.mpr ⟨List.mem_append_right _ ((of_decide_eq_true (by decide +kernel : decide (∀ w ∈ u_ws RX12 TX12 48, w ∈ tables_1) = true)) w hw), (of_decide_eq_true (by decide +kernel : decide (∀ w ∈ u_ws RX12 TX12 48, goodWord w = true) = true)) w hw⟩
theorem dv_X12 : ∀ j, j < 48 → defaultValue (tyX12 j) = vp_V [.null, .null, .null, .null, .int 0, .int 0, .int 0, .int 0, .int 0, .int 0, .int 0, .int 0, .int 0, .int 0, .null, .null, .null, .null, .null, .null, .null, .null, .null, .null, .null, .null, .null, .int 0, .null, .null, .null, .null, .int 0, .int 0, .int 0, .int 0, .int 0, .int 0, .null, .null, .null, .null, .null, .null, .null, .null, .null, .int 0] j := by decide +kernel
theorem mf_X0_init : xMN yX0_init cX0_init 1 0 := ⟨w_292, w_9, w_291, rfl, by decide +kernel⟩
theorem mf_X0_read : xMV yX0_read cX0_read 3 (some .boolean) 1 RX0 := ⟨w_671, w_9, w_669, w_670, by decide +kernel⟩
theorem mf_X0_line : xMV yX0_line cX0_line 4 (some .boolean) 2 RX0 := ⟨w_675, w_9, w_674, gT_sel (q := (yX0_line, 6)) 1 (by decide +kernel), by decide +kernel⟩
theorem mf_X0_someEggs : xMV yX0_someEggs cX0_someEggs 4 (some .boolean) 1 RX0 := ⟨w_682, w_9, w_681, gT_sel (q := (yX0_someEggs, 6)) 2 (by decide +kernel), by decide +kernel⟩
theorem mf_X0_oneEgg : xMV yX0_oneEgg cX0_oneEgg 6 (some .boolean) 2 RX0 := ⟨w_686, w_9, w_685, gT_sel (q := (yX0_oneEgg, 6)) 3 (by decide +kernel), by decide +kernel⟩
theorem mf_X0_whatIsDone : xMV yX0_whatIsDone cX0_whatIsDone 5 (some .boolean) 2 RX0 := ⟨w_695, w_9, w_694, gT_sel (q := (yX0_whatIsDone, 6)) 4 (by decide +kernel), by decide +kernel⟩
theorem mf_X0_canBe : xMV yX0_canBe cX0_canBe 7 (some .boolean) 2 RX0 := ⟨w_699, w_9, w_697, w_698, by decide +kernel⟩
theorem mf_X0_carryOut : xMV yX0_carryOut cX0_carryOut 6 none 3 RX0 := ⟨w_722, w_9, w_720, w_721, by decide +kernel⟩
theorem mf_X1_init : xMN yX1_init cX1_init 1 0 := ⟨w_118, w_6, w_117, rfl, by decide +kernel⟩
theorem mf_X1_isLaid : xMV yX1_isLaid cX1_isLaid 2 (some .boolean) 1 RX1 := ⟨w_718, w_6, w_716, w_717, by decide +kernel⟩
theorem mf_X1_isWhole : xMV yX1_isWhole cX1_isWhole 2 (some .boolean) 1 RX1 := ⟨w_714, w_6, w_712, w_713, by decide +kernel⟩
theorem mf_X1_isWholeOf : xMV yX1_isWholeOf cX1_isWholeOf 3 (some .boolean) 2 RX1 := ⟨w_878, w_6, w_876, w_877, by decide +kernel⟩
theorem mf_X1_minutesAt : xMV yX1_minutesAt cX1_minutesAt 2 (some .int) 1 RX1 := ⟨w_996, w_6, w_994, w_995, by decide +kernel⟩
theorem mf_X1_howMany : xMV yX1_howMany cX1_howMany 4 (some .int) 1 RX1 := ⟨w_856, w_6, w_854, w_855, by decide +kernel⟩
theorem mf_X1_minutesOf : xMV yX1_minutesOf cX1_minutesOf 4 (some .int) 1 RX1 := ⟨w_883, w_6, w_881, w_882, by decide +kernel⟩
theorem mf_X1_wholeOf : xMV yX1_wholeOf cX1_wholeOf 6 (some .int) 3 RX1 := ⟨w_874, w_6, w_872, w_873, by decide +kernel⟩
theorem mf_X1_lay : xMV yX1_lay cX1_lay 5 none 4 RX1 := ⟨w_843, w_6, w_841, w_842, by decide +kernel⟩
theorem mf_X1_sweepOut : xMV yX1_sweepOut cX1_sweepOut 3 (some .int) 0 RX1 := ⟨w_494, w_6, w_492, w_493, by decide +kernel⟩
theorem mf_X1_copyFrom : xMV yX1_copyFrom cX1_copyFrom 2 none 1 RX1 := ⟨w_807, w_6, w_805, w_806, by decide +kernel⟩
theorem mf_X2_init : xMN yX2_init cX2_init 1 0 := ⟨w_66, w_4, w_65, rfl, by decide +kernel⟩
theorem mf_X2_isTold : xMV yX2_isTold cX2_isTold 2 (some .boolean) 1 RX2 := ⟨w_477, w_4, w_475, w_476, by decide +kernel⟩
theorem mf_X2_tell : xMV yX2_tell cX2_tell 4 none 3 RX2 := ⟨w_469, w_4, w_467, w_468, by decide +kernel⟩
theorem mf_X2_howManyOf : xMV yX2_howManyOf cX2_howManyOf 4 (some .int) 1 RX2 := ⟨w_887, w_4, w_885, w_886, by decide +kernel⟩
theorem mf_X2_copyFrom : xMV yX2_copyFrom cX2_copyFrom 2 none 1 RX2 := ⟨w_795, w_4, w_793, w_794, by decide +kernel⟩
theorem mf_X3_init : xMN yX3_init cX3_init 1 0 := ⟨w_248, w_8, w_247, rfl, by decide +kernel⟩
theorem mf_X3_emit : xMV yX3_emit cX3_emit 3 none 2 RX3 := ⟨w_634, w_8, w_632, w_633, by decide +kernel⟩
theorem mf_X3_aim : xMV yX3_aim cX3_aim 2 none 1 RX3 := ⟨w_654, w_8, w_652, w_653, by decide +kernel⟩
theorem mf_X3_ofHen : xMV yX3_ofHen cX3_ofHen 5 (some .int) 4 RX3 := ⟨w_839, w_8, w_837, w_838, by decide +kernel⟩
theorem mf_X3_ofEgg : xMV yX3_ofEgg cX3_ofEgg 5 (some .int) 4 RX3 := ⟨w_734, w_8, w_732, w_733, by decide +kernel⟩
theorem mf_X3_ofSellers : xMV yX3_ofSellers cX3_ofSellers 3 (some .int) 2 RX3 := ⟨w_1009, w_8, w_1007, w_1008, by decide +kernel⟩
theorem mf_X3_start : xMV yX3_start cX3_start 4 none 2 RX3 := ⟨w_738, w_8, w_737, gT_sel (q := (yX3_start, 10)) 5 (by decide +kernel), by decide +kernel⟩
theorem mf_X3_ask : xMV yX3_ask cX3_ask 3 (some .int) 1 RX3 := ⟨w_742, w_8, w_741, gT_sel (q := (yX3_ask, 10)) 6 (by decide +kernel), by decide +kernel⟩
theorem mf_X3_run : xMV yX3_run cX3_run 8 (some .int) 2 RX3 := ⟨w_746, w_8, w_745, gT_sel (q := (yX3_run, 10)) 7 (by decide +kernel), by decide +kernel⟩
theorem mf_X3_push : xMV yX3_push cX3_push 2 none 1 RX3 := ⟨w_750, w_8, w_749, gT_sel (q := (yX3_push, 10)) 8 (by decide +kernel), by decide +kernel⟩
theorem mf_X3_pop : xMV yX3_pop cX3_pop 1 (some .int) 0 RX3 := ⟨w_754, w_8, w_753, gT_sel (q := (yX3_pop, 10)) 9 (by decide +kernel), by decide +kernel⟩
theorem mf_X3_reckon : xMS yX3_reckon cX3_reckon 3 (some .int) 3 := ⟨w_757, w_8, w_756, by decide +kernel⟩
theorem mf_X5_init : xMN yX5_init cX5_init 1 0 := ⟨w_88, w_5, w_87, rfl, by decide +kernel⟩
theorem mf_X5_isTold : xMV yX5_isTold cX5_isTold 2 (some .boolean) 1 RX5 := ⟨w_454, w_5, w_452, w_453, by decide +kernel⟩
theorem mf_X5_tell : xMV yX5_tell cX5_tell 2 (some .boolean) 1 RX5 := ⟨w_450, w_5, w_448, w_449, by decide +kernel⟩
theorem mf_X5_live : xMV yX5_live cX5_live 3 none 2 RX5 := ⟨w_775, w_5, w_773, w_774, by decide +kernel⟩
theorem mf_X5_excess : xMV yX5_excess cX5_excess 2 (some .int) 1 RX5 := ⟨w_1040, w_5, w_1038, w_1039, by decide +kernel⟩
theorem mf_X5_copyFrom : xMV yX5_copyFrom cX5_copyFrom 2 none 1 RX5 := ⟨w_802, w_5, w_800, w_801, by decide +kernel⟩
theorem mf_X6_init : xMN yX6_init cX6_init 1 0 := ⟨w_318, w_10, w_317, rfl, by decide +kernel⟩
theorem mf_X6_find : xMV yX6_find cX6_find 6 none 4 RX6 := ⟨w_913, w_10, w_911, w_912, by decide +kernel⟩
theorem mf_X6_findFits : xMV yX6_findFits cX6_findFits 6 none 3 RX6 := ⟨w_919, w_10, w_918, gT_sel (q := (yX6_findFits, 13)) 14 (by decide +kernel), by decide +kernel⟩
theorem mf_X6_isFit : xMV yX6_isFit cX6_isFit 6 (some .boolean) 2 RX6 := ⟨w_924, w_10, w_923, gT_sel (q := (yX6_isFit, 13)) 15 (by decide +kernel), by decide +kernel⟩
theorem mf_X6_findHopes : xMV yX6_findHopes cX6_findHopes 6 none 0 RX6 := ⟨w_930, w_10, w_929, gT_sel (q := (yX6_findHopes, 13)) 16 (by decide +kernel), by decide +kernel⟩
theorem mf_X6_gain : xMV yX6_gain cX6_gain 3 (some .int) 2 RX6 := ⟨w_934, w_10, w_933, gT_sel (q := (yX6_gain, 13)) 17 (by decide +kernel), by decide +kernel⟩
theorem mf_X6_choose : xMV yX6_choose cX6_choose 7 none 3 RX6 := ⟨w_939, w_10, w_938, gT_sel (q := (yX6_choose, 13)) 18 (by decide +kernel), by decide +kernel⟩
theorem mf_X6_bestWorth : xMV yX6_bestWorth cX6_bestWorth 1 (some .int) 0 RX6 := ⟨w_944, w_10, w_942, w_943, by decide +kernel⟩
theorem mf_X6_bestEggs : xMV yX6_bestEggs cX6_bestEggs 1 (some .int) 0 RX6 := ⟨w_948, w_10, w_946, w_947, by decide +kernel⟩
theorem mf_X6_rowOf : xMV yX6_rowOf cX6_rowOf 3 (some .int) 1 RX6 := ⟨w_953, w_10, w_951, w_952, by decide +kernel⟩
theorem mf_X7_init : xMN yX7_init cX7_init 1 0 := ⟨w_364, w_11, w_363, rfl, by decide +kernel⟩
theorem mf_X7_fill : xMV yX7_fill cX7_fill 6 (some .int) 3 RX7 := ⟨w_1021, w_11, w_1019, w_1020, by decide +kernel⟩
theorem mf_X7_find : xMV yX7_find cX7_find 6 none 1 RX7 := ⟨w_1027, w_11, w_1025, w_1026, by decide +kernel⟩
theorem mf_X7_note : xMV yX7_note cX7_note 3 none 1 RX7 := ⟨w_1032, w_11, w_1031, gT_sel (q := (yX7_note, 5)) 25 (by decide +kernel), by decide +kernel⟩
theorem mf_X8_init : xMN yX8_init cX8_init 1 0 := ⟨w_34, w_2, w_33, rfl, by decide +kernel⟩
theorem mf_X8_addWord : xMV yX8_addWord cX8_addWord 3 none 1 RX8 := ⟨w_502, w_2, w_500, w_501, by decide +kernel⟩
theorem mf_X8_holds : xMV yX8_holds cX8_holds 5 (some .boolean) 4 RX8 := ⟨w_510, w_2, w_508, w_509, by decide +kernel⟩
theorem mf_X8_byteAt : xMV yX8_byteAt cX8_byteAt 2 (some .int) 1 RX8 := ⟨w_986, w_2, w_984, w_985, by decide +kernel⟩
theorem mf_X8_pairAt : xMV yX8_pairAt cX8_pairAt 2 (some .int) 1 RX8 := ⟨w_1004, w_2, w_1002, w_1003, by decide +kernel⟩
theorem mf_X8_wordAt : xMV yX8_wordAt cX8_wordAt 2 (some .int) 1 RX8 := ⟨w_1106, w_2, w_1104, w_1105, by decide +kernel⟩
theorem mf_X8_startText : xMV yX8_startText cX8_startText 2 none 1 RX8 := ⟨w_514, w_2, w_512, w_513, by decide +kernel⟩
theorem mf_X8_sign : xMV yX8_sign cX8_sign 1 (some .int) 0 RX8 := ⟨w_525, w_2, w_523, w_524, by decide +kernel⟩
theorem mf_X8_takes : xMV yX8_takes cX8_takes 2 (some .boolean) 1 RX8 := ⟨w_638, w_2, w_636, w_637, by decide +kernel⟩
theorem mf_X8_fails : xMV yX8_fails cX8_fails 2 (some .boolean) 1 RX8 := ⟨w_618, w_2, w_616, w_617, by decide +kernel⟩
theorem mf_X8_failsAt : xMV yX8_failsAt cX8_failsAt 3 (some .boolean) 2 RX8 := ⟨w_690, w_2, w_688, w_689, by decide +kernel⟩
theorem mf_X8_faultAnswer : xMV yX8_faultAnswer cX8_faultAnswer 1 (some .int) 0 RX8 := ⟨w_658, w_2, w_656, w_657, by decide +kernel⟩
theorem mf_X8_copyFrom : xMV yX8_copyFrom cX8_copyFrom 2 none 1 RX8 := ⟨w_1093, w_2, w_1091, w_1092, by decide +kernel⟩
theorem mf_X9_init : xMN yX9_init cX9_init 1 0 := ⟨w_60, w_3, w_59, rfl, by decide +kernel⟩
theorem mf_X9_copyFrom : xMV yX9_copyFrom cX9_copyFrom 2 none 1 RX9 := ⟨w_791, w_3, w_789, w_790, by decide +kernel⟩
theorem mf_X9_passDays : xMV yX9_passDays cX9_passDays 4 none 2 RX9 := ⟨w_821, w_3, w_819, w_820, by decide +kernel⟩
theorem mf_X9_passDay : xMV yX9_passDay cX9_passDay 3 (some .boolean) 1 RX9 := ⟨w_825, w_3, w_823, w_824, by decide +kernel⟩
theorem mf_X9_canLayFor : xMV yX9_canLayFor cX9_canLayFor 2 (some .boolean) 1 RX9 := ⟨w_1067, w_3, w_1065, w_1066, by decide +kernel⟩
theorem mf_X9_draw : xMV yX9_draw cX9_draw 1 (some .int) 0 RX9 := ⟨w_834, w_3, w_833, gT_sel (q := (yX9_draw, 10)) 11 (by decide +kernel), by decide +kernel⟩
theorem mf_X9_strikeOrLay : xMV yX9_strikeOrLay cX9_strikeOrLay 5 none 2 RX9 := ⟨w_830, w_3, w_829, gT_sel (q := (yX9_strikeOrLay, 10)) 10 (by decide +kernel), by decide +kernel⟩
theorem mf_X9_mayGoBad : xMV yX9_mayGoBad cX9_mayGoBad 4 none 2 RX9 := ⟨w_848, w_3, w_847, gT_sel (q := (yX9_mayGoBad, 10)) 12 (by decide +kernel), by decide +kernel⟩
theorem mf_X9_breakEgg : xMV yX9_breakEgg cX9_breakEgg 2 none 1 RX9 := ⟨w_771, w_3, w_769, w_770, by decide +kernel⟩
theorem mf_X9_breakFor : xMV yX9_breakFor cX9_breakFor 4 none 3 RX9 := ⟨w_730, w_3, w_728, w_729, by decide +kernel⟩
theorem mf_X9_breakAllFor : xMV yX9_breakAllFor cX9_breakAllFor 5 none 3 RX9 := ⟨w_1061, w_3, w_1059, w_1060, by decide +kernel⟩
theorem mf_X9_give : xMV yX9_give cX9_give 3 none 2 RX9 := ⟨w_726, w_3, w_724, w_725, by decide +kernel⟩
theorem mf_X9_brood : xMV yX9_brood cX9_brood 4 none 2 RX9 := ⟨w_782, w_3, w_780, w_781, by decide +kernel⟩
theorem mf_X10_init : xMN yX10_init cX10_init 1 0 := ⟨w_166, w_7, w_165, rfl, by decide +kernel⟩
theorem mf_X10_isTold : xMV yX10_isTold cX10_isTold 2 (some .boolean) 1 RX10 := ⟨w_704, w_7, w_702, w_703, by decide +kernel⟩
theorem mf_X10_tell : xMV yX10_tell cX10_tell 5 none 4 RX10 := ⟨w_486, w_7, w_484, w_485, by decide +kernel⟩
theorem mf_X10_isDone : xMV yX10_isDone cX10_isDone 2 (some .boolean) 1 RX10 := ⟨w_709, w_7, w_707, w_708, by decide +kernel⟩
theorem mf_X10_isInTime : xMV yX10_isInTime cX10_isInTime 3 (some .boolean) 2 RX10 := ⟨w_898, w_7, w_896, w_897, by decide +kernel⟩
theorem mf_X10_add : xMV yX10_add cX10_add 4 none 3 RX10 := ⟨w_765, w_7, w_763, w_764, by decide +kernel⟩
theorem mf_X10_copyFrom : xMV yX10_copyFrom cX10_copyFrom 2 none 1 RX10 := ⟨w_812, w_7, w_810, w_811, by decide +kernel⟩
theorem mf_X11_init : xMN yX11_init cX11_init 1 0 := ⟨w_26, w_1, w_25, rfl, by decide +kernel⟩
theorem mf_X11_person : xMV yX11_person cX11_person 2 (some .boolean) 1 RX11 := ⟨w_446, w_1, w_444, w_445, by decide +kernel⟩
theorem mf_X11_hen : xMV yX11_hen cX11_hen 4 (some .boolean) 3 RX11 := ⟨w_461, w_1, w_459, w_460, by decide +kernel⟩
theorem mf_X11_fox : xMV yX11_fox cX11_fox 2 (some .boolean) 1 RX11 := ⟨w_473, w_1, w_471, w_472, by decide +kernel⟩
theorem mf_X11_work : xMV yX11_work cX11_work 5 (some .boolean) 4 RX11 := ⟨w_482, w_1, w_480, w_481, by decide +kernel⟩
theorem mf_X11_clean : xMV yX11_clean cX11_clean 1 (some .int) 0 RX11 := ⟨w_490, w_1, w_488, w_489, by decide +kernel⟩
theorem mf_X11_feed : xMV yX11_feed cX11_feed 6 (some .int) 5 RX11 := ⟨w_498, w_1, w_496, w_497, by decide +kernel⟩
theorem mf_X11_law : xMV yX11_law cX11_law 4 (some .int) 1 RX11 := ⟨w_506, w_1, w_504, w_505, by decide +kernel⟩
theorem mf_X11_acts : xMV yX11_acts cX11_acts 4 (some .int) 1 RX11 := ⟨w_663, w_1, w_661, w_662, by decide +kernel⟩
theorem mf_X11_judged : xMV yX11_judged cX11_judged 3 (some .int) 1 RX11 := ⟨w_787, w_1, w_785, w_786, by decide +kernel⟩
theorem mf_X11_readActs : xMV yX11_readActs cX11_readActs 3 (some .boolean) 1 RX11 := ⟨w_667, w_1, w_666, gT_sel (q := (yX11_readActs, 19)) 0 (by decide +kernel), by decide +kernel⟩
theorem mf_X11_days : xMV yX11_days cX11_days 2 (some .int) 1 RX11 := ⟨w_817, w_1, w_815, w_816, by decide +kernel⟩
theorem mf_X11_tried : xMV yX11_tried cX11_tried 3 (some .int) 2 RX11 := ⟨w_852, w_1, w_850, w_851, by decide +kernel⟩
theorem mf_X11_egg : xMV yX11_egg cX11_egg 3 (some .int) 2 RX11 := ⟨w_860, w_1, w_858, w_859, by decide +kernel⟩
theorem mf_X11_firstBadDay : xMV yX11_firstBadDay cX11_firstBadDay 3 (some .int) 1 RX11 := ⟨w_865, w_1, w_864, gT_sel (q := (yX11_firstBadDay, 19)) 13 (by decide +kernel), by decide +kernel⟩
theorem mf_X11_personIs : xMV yX11_personIs cX11_personIs 3 (some .int) 2 RX11 := ⟨w_870, w_1, w_868, w_869, by decide +kernel⟩
theorem mf_X11_workIs : xMV yX11_workIs cX11_workIs 3 (some .int) 2 RX11 := ⟨w_892, w_1, w_890, w_891, by decide +kernel⟩
theorem mf_X11_plan : xMV yX11_plan cX11_plan 8 (some .int) 3 RX11 := ⟨w_902, w_1, w_900, w_901, by decide +kernel⟩
theorem mf_X11_before : xMV yX11_before cX11_before 8 (some .int) 3 RX11 := ⟨w_957, w_1, w_955, w_956, by decide +kernel⟩
theorem mf_X11_mostMinutes : xMV yX11_mostMinutes cX11_mostMinutes 6 (some .int) 1 RX11 := ⟨w_962, w_1, w_961, gT_sel (q := (yX11_mostMinutes, 19)) 19 (by decide +kernel), by decide +kernel⟩
theorem mf_X11_takesRoom : xMV yX11_takesRoom cX11_takesRoom 3 (some .boolean) 1 RX11 := ⟨w_966, w_1, w_965, gT_sel (q := (yX11_takesRoom, 19)) 20 (by decide +kernel), by decide +kernel⟩
theorem mf_X11_flock : xMV yX11_flock cX11_flock 8 (some .int) 3 RX11 := ⟨w_970, w_1, w_968, w_969, by decide +kernel⟩
theorem mf_X11_bestHatch : xMV yX11_bestHatch cX11_bestHatch 6 (some .int) 1 RX11 := ⟨w_974, w_1, w_973, gT_sel (q := (yX11_bestHatch, 19)) 21 (by decide +kernel), by decide +kernel⟩
theorem mf_X11_rations : xMV yX11_rations cX11_rations 6 (some .int) 3 RX11 := ⟨w_978, w_1, w_976, w_977, by decide +kernel⟩
theorem mf_X11_share : xMV yX11_share cX11_share 8 (some .int) 4 RX11 := ⟨w_990, w_1, w_989, gT_sel (q := (yX11_share, 19)) 23 (by decide +kernel), by decide +kernel⟩
theorem mf_X11_tellEggs : xMV yX11_tellEggs cX11_tellEggs 6 (some .boolean) 2 RX11 := ⟨w_982, w_1, w_981, gT_sel (q := (yX11_tellEggs, 19)) 22 (by decide +kernel), by decide +kernel⟩
theorem mf_X11_hoards : xMV yX11_hoards cX11_hoards 7 (some .int) 2 RX11 := ⟨w_1000, w_1, w_998, w_999, by decide +kernel⟩
theorem mf_X11_isSteady : xMV yX11_isSteady cX11_isSteady 5 (some .boolean) 2 RX11 := ⟨w_1013, w_1, w_1012, gT_sel (q := (yX11_isSteady, 19)) 24 (by decide +kernel), by decide +kernel⟩
theorem mf_X11_yolks : xMV yX11_yolks cX11_yolks 6 (some .int) 3 RX11 := ⟨w_1017, w_1, w_1015, w_1016, by decide +kernel⟩
theorem mf_X11_thefts : xMV yX11_thefts cX11_thefts 7 (some .int) 1 RX11 := ⟨w_1036, w_1, w_1034, w_1035, by decide +kernel⟩
theorem mf_X11_baskets : xMV yX11_baskets cX11_baskets 5 (some .int) 3 RX11 := ⟨w_1045, w_1, w_1043, w_1044, by decide +kernel⟩
theorem mf_X11_latest : xMV yX11_latest cX11_latest 5 (some .int) 2 RX11 := ⟨w_1049, w_1, w_1047, w_1048, by decide +kernel⟩
theorem mf_X11_soonest : xMV yX11_soonest cX11_soonest 7 (some .int) 2 RX11 := ⟨w_1053, w_1, w_1051, w_1052, by decide +kernel⟩
theorem mf_X11_daysTillDone : xMV yX11_daysTillDone cX11_daysTillDone 5 (some .int) 3 RX11 := ⟨w_1057, w_1, w_1056, gT_sel (q := (yX11_daysTillDone, 19)) 26 (by decide +kernel), by decide +kernel⟩
theorem mf_X11_barter : xMV yX11_barter cX11_barter 13 (some .int) 5 RX11 := ⟨w_1073, w_1, w_1071, w_1072, by decide +kernel⟩
theorem mf_X11_isNearer : xMS yX11_isNearer cX11_isNearer 2 (some .boolean) 2 := ⟨w_1077, w_1, w_1076, by decide +kernel⟩
theorem mf_X11_seed : xMV yX11_seed cX11_seed 2 (some .boolean) 1 RX11 := ⟨w_1084, w_1, w_1082, w_1083, by decide +kernel⟩
theorem mf_X11_keep : xMV yX11_keep cX11_keep 1 (some .int) 0 RX11 := ⟨w_1089, w_1, w_1087, w_1088, by decide +kernel⟩
theorem mf_X11_undo : xMV yX11_undo cX11_undo 1 (some .boolean) 0 RX11 := ⟨w_1098, w_1, w_1096, w_1097, by decide +kernel⟩
theorem mf_X11_check : xMV yX11_check cX11_check 4 (some .int) 1 RX11 := ⟨w_1102, w_1, w_1100, w_1101, by decide +kernel⟩
theorem mf_X11_count : xMV yX11_count cX11_count 2 (some .int) 1 RX11 := ⟨w_1111, w_1, w_1109, w_1110, by decide +kernel⟩
theorem mf_X11_isWithin : xMS yX11_isWithin cX11_isWithin 3 (some .boolean) 3 := ⟨w_464, w_1, w_463, by decide +kernel⟩
theorem mf_X11_isIn : xMS yX11_isIn cX11_isIn 2 (some .boolean) 2 := ⟨w_457, w_1, w_456, by decide +kernel⟩
theorem mf_X11_isDigit : xMS yX11_isDigit cX11_isDigit 1 (some .boolean) 1 := ⟨w_627, w_1, w_626, by decide +kernel⟩
theorem mf_X12_init : xMN yX12_init cX12_init 1 0 := ⟨w_1116, w_12, w_1115, rfl, by decide +kernel⟩
theorem mf_X12_in : xMS yX12_in cX12_in 3 (some .boolean) 3 := ⟨w_1269, w_12, w_1268, by decide +kernel⟩
theorem mf_X12_min : xMS yX12_min cX12_min 2 (some .int) 2 := ⟨w_1481, w_12, w_1480, by decide +kernel⟩
theorem mf_X12_max : xMS yX12_max cX12_max 2 (some .int) 2 := ⟨w_1580, w_12, w_1579, by decide +kernel⟩
theorem mf_X12_has : xMS yX12_has cX12_has 2 (some .boolean) 2 := ⟨w_1276, w_12, w_1275, by decide +kernel⟩
theorem mf_X12_bits : xMS yX12_bits cX12_bits 3 (some .int) 1 := ⟨w_1561, w_12, w_1560, by decide +kernel⟩
theorem mf_X12_copies : xMS yX12_copies cX12_copies 3 none 2 := ⟨w_1492, w_12, w_1491, by decide +kernel⟩
theorem mf_X12_isPerson : xMV yX12_isPerson cX12_isPerson 2 (some .boolean) 1 RX12 := ⟨w_1273, w_12, w_1272, gT_sel (q := (yX12_isPerson, 48)) 27 (by decide +kernel), by decide +kernel⟩
theorem mf_X12_isHen : xMV yX12_isHen cX12_isHen 2 (some .boolean) 1 RX12 := ⟨w_1288, w_12, w_1287, gT_sel (q := (yX12_isHen, 48)) 28 (by decide +kernel), by decide +kernel⟩
theorem mf_X12_isWork : xMV yX12_isWork cX12_isWork 2 (some .boolean) 1 RX12 := ⟨w_1430, w_12, w_1429, gT_sel (q := (yX12_isWork, 48)) 56 (by decide +kernel), by decide +kernel⟩
theorem mf_X12_isEgg : xMV yX12_isEgg cX12_isEgg 2 (some .boolean) 1 RX12 := ⟨w_1442, w_12, w_1441, gT_sel (q := (yX12_isEgg, 48)) 59 (by decide +kernel), by decide +kernel⟩
theorem mf_X12_isWhole : xMV yX12_isWhole cX12_isWhole 2 (some .boolean) 1 RX12 := ⟨w_1438, w_12, w_1437, gT_sel (q := (yX12_isWhole, 48)) 58 (by decide +kernel), by decide +kernel⟩
theorem mf_X12_isDone : xMV yX12_isDone cX12_isDone 2 (some .boolean) 1 RX12 := ⟨w_1434, w_12, w_1433, gT_sel (q := (yX12_isDone, 48)) 57 (by decide +kernel), by decide +kernel⟩
theorem mf_X12_person : xMV yX12_person cX12_person 2 (some .boolean) 1 RX12 := ⟨w_1266, w_12, w_1264, w_1265, by decide +kernel⟩
theorem mf_X12_hen : xMV yX12_hen cX12_hen 4 (some .boolean) 3 RX12 := ⟨w_1280, w_12, w_1278, w_1279, by decide +kernel⟩
theorem mf_X12_fox : xMV yX12_fox cX12_fox 2 (some .boolean) 1 RX12 := ⟨w_1284, w_12, w_1282, w_1283, by decide +kernel⟩
theorem mf_X12_work : xMV yX12_work cX12_work 5 (some .boolean) 4 RX12 := ⟨w_1292, w_12, w_1290, w_1291, by decide +kernel⟩
theorem mf_X12_puts : xMV yX12_puts cX12_puts 3 none 2 RX12 := ⟨w_1300, w_12, w_1299, gT_sel (q := (yX12_puts, 48)) 29 (by decide +kernel), by decide +kernel⟩
theorem mf_X12_clean : xMV yX12_clean cX12_clean 3 (some .int) 0 RX12 := ⟨w_1296, w_12, w_1294, w_1295, by decide +kernel⟩
theorem mf_X12_types : xMV yX12_types cX12_types 3 none 1 RX12 := ⟨w_1308, w_12, w_1307, gT_sel (q := (yX12_types, 48)) 30 (by decide +kernel), by decide +kernel⟩
theorem mf_X12_feed : xMV yX12_feed cX12_feed 6 (some .int) 5 RX12 := ⟨w_1304, w_12, w_1302, w_1303, by decide +kernel⟩
theorem mf_X12_here : xMV yX12_here cX12_here 1 (some .int) 0 RX12 := ⟨w_1320, w_12, w_1319, gT_sel (q := (yX12_here, 48)) 32 (by decide +kernel), by decide +kernel⟩
theorem mf_X12_isDigit : xMV yX12_isDigit cX12_isDigit 1 (some .boolean) 0 RX12 := ⟨w_1344, w_12, w_1343, gT_sel (q := (yX12_isDigit, 48)) 37 (by decide +kernel), by decide +kernel⟩
theorem mf_X12_wrongAt : xMV yX12_wrongAt cX12_wrongAt 3 (some .boolean) 2 RX12 := ⟨w_1327, w_12, w_1326, gT_sel (q := (yX12_wrongAt, 48)) 33 (by decide +kernel), by decide +kernel⟩
theorem mf_X12_takes : xMV yX12_takes cX12_takes 2 (some .boolean) 1 RX12 := ⟨w_1394, w_12, w_1393, gT_sel (q := (yX12_takes, 48)) 48 (by decide +kernel), by decide +kernel⟩
theorem mf_X12_readsNumber : xMV yX12_readsNumber cX12_readsNumber 2 (some .boolean) 0 RX12 := ⟨w_1348, w_12, w_1347, gT_sel (q := (yX12_readsNumber, 48)) 38 (by decide +kernel), by decide +kernel⟩
theorem mf_X12_notes : xMV yX12_notes cX12_notes 3 none 2 RX12 := ⟨w_1352, w_12, w_1351, gT_sel (q := (yX12_notes, 48)) 39 (by decide +kernel), by decide +kernel⟩
theorem mf_X12_opens : xMV yX12_opens cX12_opens 2 (some .boolean) 1 RX12 := ⟨w_1339, w_12, w_1338, gT_sel (q := (yX12_opens, 48)) 36 (by decide +kernel), by decide +kernel⟩
theorem mf_X12_waitTop : xMV yX12_waitTop cX12_waitTop 1 (some .int) 0 RX12 := ⟨w_1366, w_12, w_1365, gT_sel (q := (yX12_waitTop, 48)) 41 (by decide +kernel), by decide +kernel⟩
theorem mf_X12_factOf : xMS yX12_factOf cX12_factOf 1 (some .int) 1 := ⟨w_1355, w_12, w_1354, by decide +kernel⟩
theorem mf_X12_sumSign : xMS yX12_sumSign cX12_sumSign 1 (some .int) 1 := ⟨w_1358, w_12, w_1357, by decide +kernel⟩
theorem mf_X12_closesSums : xMV yX12_closesSums cX12_closesSums 2 none 1 RX12 := ⟨w_1362, w_12, w_1361, gT_sel (q := (yX12_closesSums, 48)) 40 (by decide +kernel), by decide +kernel⟩
theorem mf_X12_readsFactor : xMV yX12_readsFactor cX12_readsFactor 2 (some .boolean) 0 RX12 := ⟨w_1335, w_12, w_1334, gT_sel (q := (yX12_readsFactor, 48)) 35 (by decide +kernel), by decide +kernel⟩
theorem mf_X12_hasOpenSum : xMV yX12_hasOpenSum cX12_hasOpenSum 3 (some .boolean) 1 RX12 := ⟨w_1370, w_12, w_1369, gT_sel (q := (yX12_hasOpenSum, 48)) 42 (by decide +kernel), by decide +kernel⟩
theorem mf_X12_readsSum : xMV yX12_readsSum cX12_readsSum 3 (some .boolean) 0 RX12 := ⟨w_1331, w_12, w_1330, gT_sel (q := (yX12_readsSum, 48)) 34 (by decide +kernel), by decide +kernel⟩
theorem mf_X12_endsPiece : xMV yX12_endsPiece cX12_endsPiece 1 none 0 RX12 := ⟨w_1382, w_12, w_1381, gT_sel (q := (yX12_endsPiece, 48)) 45 (by decide +kernel), by decide +kernel⟩
theorem mf_X12_lands : xMV yX12_lands cX12_lands 3 none 1 RX12 := ⟨w_1386, w_12, w_1385, gT_sel (q := (yX12_lands, 48)) 46 (by decide +kernel), by decide +kernel⟩
theorem mf_X12_jumps : xMV yX12_jumps cX12_jumps 2 none 1 RX12 := ⟨w_1390, w_12, w_1389, gT_sel (q := (yX12_jumps, 48)) 47 (by decide +kernel), by decide +kernel⟩
theorem mf_X12_readsCompared : xMV yX12_readsCompared cX12_readsCompared 2 (some .boolean) 0 RX12 := ⟨w_1378, w_12, w_1377, gT_sel (q := (yX12_readsCompared, 48)) 44 (by decide +kernel), by decide +kernel⟩
theorem mf_X12_readsCondition : xMV yX12_readsCondition cX12_readsCondition 1 (some .boolean) 0 RX12 := ⟨w_1374, w_12, w_1373, gT_sel (q := (yX12_readsCondition, 48)) 43 (by decide +kernel), by decide +kernel⟩
theorem mf_X12_isClause : xMS yX12_isClause cX12_isClause 1 (some .boolean) 1 := ⟨w_1323, w_12, w_1322, by decide +kernel⟩
theorem mf_X12_readsClause : xMV yX12_readsClause cX12_readsClause 2 (some .boolean) 0 RX12 := ⟨w_1316, w_12, w_1315, gT_sel (q := (yX12_readsClause, 48)) 31 (by decide +kernel), by decide +kernel⟩
theorem mf_X12_law : xMV yX12_law cX12_law 4 (some .int) 1 RX12 := ⟨w_1312, w_12, w_1310, w_1311, by decide +kernel⟩
theorem mf_X12_reckon : xMS yX12_reckon cX12_reckon 3 (some .int) 3 := ⟨w_1473, w_12, w_1472, by decide +kernel⟩
theorem mf_X12_comesTo : xMV yX12_comesTo cX12_comesTo 8 (some .int) 2 RX12 := ⟨w_1470, w_12, w_1469, gT_sel (q := (yX12_comesTo, 48)) 66 (by decide +kernel), by decide +kernel⟩
theorem mf_X12_byLaw : xMV yX12_byLaw cX12_byLaw 5 (some .int) 2 RX12 := ⟨w_1466, w_12, w_1465, gT_sel (q := (yX12_byLaw, 48)) 65 (by decide +kernel), by decide +kernel⟩
theorem mf_X12_feels : xMV yX12_feels cX12_feels 2 none 0 RX12 := ⟨w_1462, w_12, w_1461, gT_sel (q := (yX12_feels, 48)) 64 (by decide +kernel), by decide +kernel⟩
theorem mf_X12_feelsHen : xMV yX12_feelsHen cX12_feelsHen 3 none 2 RX12 := ⟨w_1513, w_12, w_1512, gT_sel (q := (yX12_feelsHen, 48)) 72 (by decide +kernel), by decide +kernel⟩
theorem mf_X12_feelsEgg : xMV yX12_feelsEgg cX12_feelsEgg 2 none 1 RX12 := ⟨w_1458, w_12, w_1457, gT_sel (q := (yX12_feelsEgg, 48)) 63 (by decide +kernel), by decide +kernel⟩
theorem mf_X12_badBehind : xMV yX12_badBehind cX12_badBehind 2 (some .int) 1 RX12 := ⟨w_1521, w_12, w_1520, gT_sel (q := (yX12_badBehind, 48)) 74 (by decide +kernel), by decide +kernel⟩
theorem mf_X12_badOn : xMV yX12_badOn cX12_badOn 3 (some .int) 1 RX12 := ⟨w_1537, w_12, w_1536, gT_sel (q := (yX12_badOn, 48)) 76 (by decide +kernel), by decide +kernel⟩
theorem mf_X12_worthFor : xMV yX12_worthFor cX12_worthFor 3 (some .int) 2 RX12 := ⟨w_1454, w_12, w_1453, gT_sel (q := (yX12_worthFor, 48)) 62 (by decide +kernel), by decide +kernel⟩
theorem mf_X12_isInHandful : xMV yX12_isInHandful cX12_isInHandful 4 (some .boolean) 2 RX12 := ⟨w_1418, w_12, w_1417, gT_sel (q := (yX12_isInHandful, 48)) 53 (by decide +kernel), by decide +kernel⟩
theorem mf_X12_readsEgg : xMV yX12_readsEgg cX12_readsEgg 3 (some .boolean) 1 RX12 := ⟨w_1414, w_12, w_1413, gT_sel (q := (yX12_readsEgg, 48)) 52 (by decide +kernel), by decide +kernel⟩
theorem mf_X12_readsEggs : xMV yX12_readsEggs cX12_readsEggs 2 (some .int) 0 RX12 := ⟨w_1410, w_12, w_1409, gT_sel (q := (yX12_readsEggs, 48)) 51 (by decide +kernel), by decide +kernel⟩
theorem mf_X12_readsLine : xMV yX12_readsLine cX12_readsLine 3 (some .boolean) 0 RX12 := ⟨w_1406, w_12, w_1405, gT_sel (q := (yX12_readsLine, 48)) 50 (by decide +kernel), by decide +kernel⟩
theorem mf_X12_readsLines : xMV yX12_readsLines cX12_readsLines 3 (some .boolean) 1 RX12 := ⟨w_1402, w_12, w_1401, gT_sel (q := (yX12_readsLines, 48)) 49 (by decide +kernel), by decide +kernel⟩
theorem mf_X12_canBe : xMV yX12_canBe cX12_canBe 5 (some .boolean) 1 RX12 := ⟨w_1426, w_12, w_1425, gT_sel (q := (yX12_canBe, 48)) 55 (by decide +kernel), by decide +kernel⟩
theorem mf_X12_gives : xMV yX12_gives cX12_gives 4 none 2 RX12 := ⟨w_1446, w_12, w_1445, gT_sel (q := (yX12_gives, 48)) 60 (by decide +kernel), by decide +kernel⟩
theorem mf_X12_breaks : xMV yX12_breaks cX12_breaks 3 none 1 RX12 := ⟨w_1477, w_12, w_1476, gT_sel (q := (yX12_breaks, 48)) 67 (by decide +kernel), by decide +kernel⟩
theorem mf_X12_worksBy : xMV yX12_worksBy cX12_worksBy 4 none 2 RX12 := ⟨w_1450, w_12, w_1449, gT_sel (q := (yX12_worksBy, 48)) 61 (by decide +kernel), by decide +kernel⟩
theorem mf_X12_broods : xMV yX12_broods cX12_broods 2 none 1 RX12 := ⟨w_1485, w_12, w_1484, gT_sel (q := (yX12_broods, 48)) 68 (by decide +kernel), by decide +kernel⟩
theorem mf_X12_does : xMV yX12_does cX12_does 3 (some .boolean) 1 RX12 := ⟨w_1422, w_12, w_1421, gT_sel (q := (yX12_does, 48)) 54 (by decide +kernel), by decide +kernel⟩
theorem mf_X12_acts : xMV yX12_acts cX12_acts 4 (some .int) 1 RX12 := ⟨w_1398, w_12, w_1396, w_1397, by decide +kernel⟩
theorem mf_X12_judged : xMV yX12_judged cX12_judged 3 (some .int) 1 RX12 := ⟨w_1489, w_12, w_1487, w_1488, by decide +kernel⟩
theorem mf_X12_draws : xMV yX12_draws cX12_draws 1 (some .int) 0 RX12 := ⟨w_1508, w_12, w_1507, gT_sel (q := (yX12_draws, 48)) 71 (by decide +kernel), by decide +kernel⟩
theorem mf_X12_lays : xMV yX12_lays cX12_lays 5 none 1 RX12 := ⟨w_1517, w_12, w_1516, gT_sel (q := (yX12_lays, 48)) 73 (by decide +kernel), by decide +kernel⟩
theorem mf_X12_dayGoes : xMV yX12_dayGoes cX12_dayGoes 3 none 0 RX12 := ⟨w_1504, w_12, w_1503, gT_sel (q := (yX12_dayGoes, 48)) 70 (by decide +kernel), by decide +kernel⟩
theorem mf_X12_daysGo : xMV yX12_daysGo cX12_daysGo 3 none 1 RX12 := ⟨w_1500, w_12, w_1499, gT_sel (q := (yX12_daysGo, 48)) 69 (by decide +kernel), by decide +kernel⟩
theorem mf_X12_days : xMV yX12_days cX12_days 2 (some .int) 1 RX12 := ⟨w_1496, w_12, w_1494, w_1495, by decide +kernel⟩
theorem mf_X12_howMany : xMV yX12_howMany cX12_howMany 4 (some .int) 1 RX12 := ⟨w_1529, w_12, w_1528, gT_sel (q := (yX12_howMany, 48)) 75 (by decide +kernel), by decide +kernel⟩
theorem mf_X12_tried : xMV yX12_tried cX12_tried 4 (some .int) 2 RX12 := ⟨w_1525, w_12, w_1523, w_1524, by decide +kernel⟩
theorem mf_X12_egg : xMV yX12_egg cX12_egg 3 (some .int) 2 RX12 := ⟨w_1533, w_12, w_1531, w_1532, by decide +kernel⟩
theorem mf_X12_eggsOf : xMV yX12_eggsOf cX12_eggsOf 5 (some .int) 2 RX12 := ⟨w_1546, w_12, w_1545, gT_sel (q := (yX12_eggsOf, 48)) 77 (by decide +kernel), by decide +kernel⟩
theorem mf_X12_hensOf : xMV yX12_hensOf cX12_hensOf 4 (some .int) 1 RX12 := ⟨w_1550, w_12, w_1549, gT_sel (q := (yX12_hensOf, 48)) 78 (by decide +kernel), by decide +kernel⟩
theorem mf_X12_personIs : xMV yX12_personIs cX12_personIs 3 (some .int) 2 RX12 := ⟨w_1542, w_12, w_1540, w_1541, by decide +kernel⟩
theorem mf_X12_workIs : xMV yX12_workIs cX12_workIs 3 (some .int) 2 RX12 := ⟨w_1554, w_12, w_1552, w_1553, by decide +kernel⟩
theorem mf_X12_laysOwn : xMV yX12_laysOwn cX12_laysOwn 4 none 2 RX12 := ⟨w_1565, w_12, w_1564, gT_sel (q := (yX12_laysOwn, 48)) 79 (by decide +kernel), by decide +kernel⟩
theorem mf_X12_laysSums : xMV yX12_laysSums cX12_laysSums 5 none 1 RX12 := ⟨w_1573, w_12, w_1572, gT_sel (q := (yX12_laysSums, 48)) 81 (by decide +kernel), by decide +kernel⟩
theorem mf_X12_planBy : xMV yX12_planBy cX12_planBy 6 (some .int) 3 RX12 := ⟨w_1577, w_12, w_1576, gT_sel (q := (yX12_planBy, 48)) 82 (by decide +kernel), by decide +kernel⟩
theorem mf_X12_laysPlan : xMV yX12_laysPlan cX12_laysPlan 6 none 1 RX12 := ⟨w_1569, w_12, w_1568, gT_sel (q := (yX12_laysPlan, 48)) 80 (by decide +kernel), by decide +kernel⟩
theorem mf_X12_planSet : xMV yX12_planSet cX12_planSet 5 (some .int) 1 RX12 := ⟨w_1584, w_12, w_1583, gT_sel (q := (yX12_planSet, 48)) 83 (by decide +kernel), by decide +kernel⟩
theorem mf_X12_plan : xMV yX12_plan cX12_plan 6 (some .int) 3 RX12 := ⟨w_1558, w_12, w_1556, w_1557, by decide +kernel⟩
theorem mf_X12_heaviest : xMV yX12_heaviest cX12_heaviest 5 (some .int) 2 RX12 := ⟨w_1592, w_12, w_1591, gT_sel (q := (yX12_heaviest, 48)) 84 (by decide +kernel), by decide +kernel⟩
theorem mf_X12_before : xMV yX12_before cX12_before 9 (some .int) 3 RX12 := ⟨w_1588, w_12, w_1586, w_1587, by decide +kernel⟩
theorem mf_X12_hoursBy : xMV yX12_hoursBy cX12_hoursBy 4 (some .int) 3 RX12 := ⟨w_1600, w_12, w_1599, gT_sel (q := (yX12_hoursBy, 48)) 85 (by decide +kernel), by decide +kernel⟩
theorem mf_X12_flock : xMV yX12_flock cX12_flock 9 (some .int) 3 RX12 := ⟨w_1596, w_12, w_1594, w_1595, by decide +kernel⟩
theorem mf_X12_leastOf : xMV yX12_leastOf cX12_leastOf 9 (some .int) 3 RX12 := ⟨w_1612, w_12, w_1611, gT_sel (q := (yX12_leastOf, 48)) 87 (by decide +kernel), by decide +kernel⟩
theorem mf_X12_areEggs : xMV yX12_areEggs cX12_areEggs 5 (some .boolean) 2 RX12 := ⟨w_1608, w_12, w_1607, gT_sel (q := (yX12_areEggs, 48)) 86 (by decide +kernel), by decide +kernel⟩
theorem mf_X12_rations : xMV yX12_rations cX12_rations 9 (some .int) 3 RX12 := ⟨w_1604, w_12, w_1602, w_1603, by decide +kernel⟩
theorem mf_X12_soldBy : xMV yX12_soldBy cX12_soldBy 2 (some .int) 1 RX12 := ⟨w_1624, w_12, w_1623, gT_sel (q := (yX12_soldBy, 48)) 89 (by decide +kernel), by decide +kernel⟩
theorem mf_X12_rests : xMV yX12_rests cX12_rests 6 (some .boolean) 2 RX12 := ⟨w_1620, w_12, w_1619, gT_sel (q := (yX12_rests, 48)) 88 (by decide +kernel), by decide +kernel⟩
theorem mf_X12_hoards : xMV yX12_hoards cX12_hoards 6 (some .int) 2 RX12 := ⟨w_1616, w_12, w_1614, w_1615, by decide +kernel⟩
theorem mf_X12_yolks : xMV yX12_yolks cX12_yolks 9 (some .int) 3 RX12 := ⟨w_1628, w_12, w_1626, w_1627, by decide +kernel⟩
theorem mf_X12_moreOf : xMV yX12_moreOf cX12_moreOf 2 (some .int) 1 RX12 := ⟨w_1636, w_12, w_1635, gT_sel (q := (yX12_moreOf, 48)) 90 (by decide +kernel), by decide +kernel⟩
theorem mf_X12_thefts : xMV yX12_thefts cX12_thefts 5 (some .int) 1 RX12 := ⟨w_1632, w_12, w_1630, w_1631, by decide +kernel⟩
theorem mf_X12_baskets : xMV yX12_baskets cX12_baskets 9 (some .int) 3 RX12 := ⟨w_1641, w_12, w_1639, w_1640, by decide +kernel⟩
theorem mf_X12_latest : xMV yX12_latest cX12_latest 5 (some .int) 2 RX12 := ⟨w_1645, w_12, w_1643, w_1644, by decide +kernel⟩
theorem mf_X12_worksAll : xMV yX12_worksAll cX12_worksAll 4 none 2 RX12 := ⟨w_1657, w_12, w_1656, gT_sel (q := (yX12_worksAll, 48)) 92 (by decide +kernel), by decide +kernel⟩
theorem mf_X12_daysFor : xMV yX12_daysFor cX12_daysFor 5 (some .int) 2 RX12 := ⟨w_1653, w_12, w_1652, gT_sel (q := (yX12_daysFor, 48)) 91 (by decide +kernel), by decide +kernel⟩
theorem mf_X12_soonest : xMV yX12_soonest cX12_soonest 6 (some .int) 2 RX12 := ⟨w_1649, w_12, w_1647, w_1648, by decide +kernel⟩
theorem mf_X12_apart : xMS yX12_apart cX12_apart 2 (some .int) 2 := ⟨w_1664, w_12, w_1663, by decide +kernel⟩
theorem mf_X12_barter : xMV yX12_barter cX12_barter 13 (some .int) 5 RX12 := ⟨w_1661, w_12, w_1659, w_1660, by decide +kernel⟩
theorem mf_X12_seed : xMV yX12_seed cX12_seed 2 (some .boolean) 1 RX12 := ⟨w_1668, w_12, w_1666, w_1667, by decide +kernel⟩
theorem mf_X12_keep : xMV yX12_keep cX12_keep 1 (some .int) 0 RX12 := ⟨w_1673, w_12, w_1671, w_1672, by decide +kernel⟩
theorem mf_X12_undo : xMV yX12_undo cX12_undo 1 (some .boolean) 0 RX12 := ⟨w_1677, w_12, w_1675, w_1676, by decide +kernel⟩
theorem mf_X12_tapeNumber : xMV yX12_tapeNumber cX12_tapeNumber 4 (some .int) 1 RX12 := ⟨w_1685, w_12, w_1684, gT_sel (q := (yX12_tapeNumber, 48)) 93 (by decide +kernel), by decide +kernel⟩
theorem mf_X12_check : xMV yX12_check cX12_check 3 (some .int) 1 RX12 := ⟨w_1681, w_12, w_1679, w_1680, by decide +kernel⟩
theorem mf_X12_count : xMV yX12_count cX12_count 2 (some .int) 1 RX12 := ⟨w_1689, w_12, w_1687, w_1688, by decide +kernel⟩
theorem mf_J6_bitCount_0f7a4 : xMS yJ6_bitCount_0f7a4 cJ6_bitCount_0f7a4 1 (some .int) 1 := ⟨w_905, w_21, w_904, by decide +kernel⟩
end
section
/-! small numbers, switches, Math.max -/
theorem sw_lo {x k : Int32} {n : Int} (hk : k.toInt = n) (h : x.toInt < n) : x < k := Int32.lt_iff_toInt_lt.mpr (by rw [hk]; exact h)
theorem sw_hi {x k : Int32} {n : Int} (hk : k.toInt = n) (h : n < x.toInt) : k < x := Int32.lt_iff_toInt_lt.mpr (by rw [hk]; exact h)
theorem sw_eq {x k : Int32} {n : Int} (hk : k.toInt = n) (h : x = k) : x.toInt = n := by rw [h, hk]
theorem sw_ne {x k : Int32} {n : Int} (hk : k.toInt = n) (h : ¬ x = k) : ¬ x.toInt = n := fun q => h (Int32.toInt_inj.mp (by rw [hk]; exact q))
theorem sw_last {x k : Int32} {n : Int} (hk : k.toInt = n) {a b : Int} (_ : ¬ x.toInt < a) (_ : ¬ b < x.toInt) (h : x.toInt = n) : x = k := Int32.toInt_inj.mp (by rw [hk]; exact h)
/-- a number in range is a small one -/
theorem w_nat {x lo hi : Int32} {a b : Nat} (ha : lo.toInt = a) (hb : hi.toInt = b) (h : wth x lo hi) : ∃ j : Nat, a ≤ j ∧ j ≤ b ∧ x = nI j := by
  have h1 := h.1
  have h2 := h.2
  rw [Int32.lt_iff_toInt_lt, ha] at h1
  rw [Int32.lt_iff_toInt_lt, hb] at h2
  refine ⟨x.toInt.toNat, by omega, by omega, ?_⟩
  apply Int32.toInt_inj.mp
  have hx : x.toInt < 2 ^ 31 := x.toInt_lt
  rw [nI_toInt (by omega)]
  omega
section XMM
variable {E : xE} {p : Program} {l : Launch} {e : Env} {R : Room} {s : State} {m : MethodId} {args : Array Value} {below : List Frame} {meth : Method} {c : Code} {A : Nat → Prop} {cc : ByteArray} {nL : Nat} {own : String} {cells slots : Nat} {Q : State → Prop} {ws : va_W} {pc pc' : Nat} {lv lv' : List (Nat × Value)} {st : List Value}
theorem x_mmax (C : xC E p s m args c A cc nL own) {idx : Nat} {x y v : Int32} (hl : Cond.methodLink own idx Lib.Math.max.name ∈ gT) (hst : Cond.static Lib.Math.max.name ∈ gT) (hini : Cond.initialized "java/lang/Math" ∈ gT) (hco : Cond.code Lib.Math.max.name Lib.Math.max.code 2 (some .int) ∈ gT) (hfr : 1 ≤ R.frames) (hlo : (st.map fun v => v.category).sum + 13 ≤ R.locals) (hc : cells ≤ R.cells) (hs : slots ≤ R.slots) (hv : (if x < y then y else x) = v) (hd : decode cc pc = .ok (.invokestatic idx, 3)) (hp : pc + 3 = pc') (kk : X E p l e R s m args below meth c A nL cells slots Q ws pc' lv (.int v :: st)) : X E p l e R s m args below meth c A nL cells slots Q ws pc lv (.int y :: .int x :: st) := by
  subst hp; subst hv
  exact fun H locs ls hP hD hS hl' => va_mmax C.1 C.2.1 (by rw [C.2.2.1]; exact hl'.1.symm) C.2.2.2.1 (C.2.2.2.2.1 _ hl) (C.2.2.2.2.1 _ hst) (C.2.2.2.2.1 _ hini) (C.2.2.2.2.1 _ hco) hfr hlo hc hs hd (kk H locs ls hP hD hS hl')
end XMM
def cnt (v : Int32) : Int32 := if wth v 0 10 then (if v = 7 then 1 else 0) else -1
def thf (v : Int32) : Int32 := if wth v 10 11 then (if v = 10 then -2 else 0) else -1000000000
theorem cnt_out {v : Int32} (h : v < 0 ∨ 10 < v) : cnt v = -1 := by
  rw [cnt, if_neg]
  intro q
  rcases h with h | h
  · exact q.1 h
  · exact q.2 h
theorem lt_tr {a b c : Int32} (h : a < b) (h2 : ¬ c < b) : a < c := by
  rw [Int32.lt_iff_toInt_lt] at *
  omega
theorem hold0 {n lo hi k : Int32} {a b : Nat} (ha : lo.toInt = a) (hb : hi.toInt = b) (hd : ∀ j : Nat, j ≤ b → a ≤ j → 0 < nI j * k) (h1 : ¬ n < lo) (h2 : ¬ hi < n) : 0 < n * k := by
  obtain ⟨j, g1, g2, rfl⟩ := w_nat ha hb ⟨h1, h2⟩
  exact hd j g2 g1
theorem hold1 : ∀ j : Nat, j ≤ 240 → 1 ≤ j → 0 < nI j * 1 := by decide +kernel
theorem hold2 : ∀ j : Nat, j ≤ 5 → 2 ≤ j → 0 < nI j * 2 := by decide +kernel
theorem hold4 : ∀ j : Nat, j ≤ 48 → 1 ≤ j → 0 < nI j * 4 := by decide +kernel
theorem hold4' {n : Int32} (h1 : ¬ n < 0) (h2 : ¬ 48 < n) : 0 < n * 4 ↔ ¬ n = 0 := by
  obtain ⟨j, g1, g2, rfl⟩ := w_nat (a := 0) (b := 48) (by decide) (by decide) ⟨h1, h2⟩
  exact (by decide +kernel : ∀ j : Nat, j ≤ 48 → (0 < nI j * 4 ↔ ¬ nI j = 0)) j g2
end
section
/-! worlds: what stays of one in another -/
def keeps (ws w : va_W) (P : Nat → Prop) : Prop := ∀ (q : Nat) (c : Nat × va_E), ¬ P q → ws[q]? = some c → w[q]? = some c
theorem keeps_rf {ws : va_W} {P : Nat → Prop} : keeps ws ws P := fun _ _ _ h => h
theorem keeps_set {ws w w1 : va_W} {P : Nat → Prop} {k : Nat} {c : Nat × va_E} (h : keeps ws w P) (hw : w1 = w.set k c) (hk : P k) : keeps ws w1 P := by
  intro q d hq hd
  have hne : k ≠ q := fun e => hq (by rw [← e]; exact hk)
  rw [hw, List.getElem?_set_ne hne]
  exact h q d hq hd
theorem keeps_tr {ws w w1 : va_W} {P P1 : Nat → Prop} (h : keeps ws w P) (h1 : keeps w w1 P1) (hs : ∀ q, P1 q → P q) : keeps ws w1 P := fun q c hq hc => h1 q c (fun g => hq (hs q g)) (h q c hq hc)
theorem keeps_at {ws w : va_W} {P : Nat → Prop} {q : Nat} {c : Nat × va_E} (h : keeps ws w P) (hc : ws[q]? = some c) (hq : ¬ P q) : w[q]? = some c := h q c hq hc
end
section
theorem dX11_isWithin_0 : decode cX11_isWithin 0 = .ok (.iload_n 0, 1) := by decide +kernel
theorem dX11_isWithin_1 : decode cX11_isWithin 1 = .ok (.iload_n 1, 1) := by decide +kernel
theorem dX11_isWithin_2 : decode cX11_isWithin 2 = .ok (.if_icmp .lt 12, 3) := by decide +kernel
theorem dX11_isWithin_5 : decode cX11_isWithin 5 = .ok (.iload_n 0, 1) := by decide +kernel
theorem dX11_isWithin_6 : decode cX11_isWithin 6 = .ok (.iload_n 2, 1) := by decide +kernel
theorem dX11_isWithin_7 : decode cX11_isWithin 7 = .ok (.if_icmp .gt 7, 3) := by decide +kernel
theorem dX11_isWithin_10 : decode cX11_isWithin 10 = .ok (.iconst 1, 1) := by decide +kernel
theorem dX11_isWithin_11 : decode cX11_isWithin 11 = .ok (.goto 4, 3) := by decide +kernel
theorem dX11_isWithin_14 : decode cX11_isWithin 14 = .ok (.iconst 0, 1) := by decide +kernel
theorem dX11_isWithin_15 : decode cX11_isWithin 15 = .ok (.ireturn, 1) := by decide +kernel
set_option maxRecDepth 20000 in
set_option maxHeartbeats 4000000 in
theorem t_isWithin (E : xE) (l : Launch) (ws : va_W) (v lo hi : Int32) : xI E l yX11_isWithin cX11_isWithin 3 (some .boolean) 0 [.int v, .int lo, .int hi] ws (fun r w => r = bI (wth v lo hi) ∧ w = ws) := by
  refine xI_start (lv := [(0, .int v), (1, .int lo), (2, .int hi)]) RX11 (by decide) rfl (Nat.le_of_ble_eq_true rfl) rfl (fun p e s m below meth c A C hr hlk => ?_)
  refine x_iload_n C dX11_isWithin_0 rfl 0 rfl rfl ?_
  refine x_iload_n C dX11_isWithin_1 rfl 1 rfl rfl ?_
  refine x_icmp_lt C (tgt := 14) dX11_isWithin_2 (by decide) rfl (fun c1 => ?_) (fun c1 => ?_)
  · skip
    refine x_iconst C (v := 0) dX11_isWithin_14 (by decide) rfl ?_
    exact x_zret C hr hlk rfl dX11_isWithin_15 ⟨by first | rfl | (simp [bI, c1]; done) | (simp_all [bI]; done), rfl⟩
  · skip
    refine x_iload_n C dX11_isWithin_5 rfl 0 rfl rfl ?_
    refine x_iload_n C dX11_isWithin_6 rfl 2 rfl rfl ?_
    refine x_icmp_gt C (tgt := 14) dX11_isWithin_7 (by decide) rfl (fun c2 => ?_) (fun c2 => ?_)
    · skip
      refine x_iconst C (v := 0) dX11_isWithin_14 (by decide) rfl ?_
      exact x_zret C hr hlk rfl dX11_isWithin_15 ⟨by first | rfl | (simp [bI, c1, c2]; done) | (simp_all [bI]; done), rfl⟩
    · skip
      refine x_iconst C (v := 1) dX11_isWithin_10 (by decide) rfl ?_
      refine x_goto C (tgt := 15) dX11_isWithin_11 (by decide) ?_
      exact x_zret C hr hlk rfl dX11_isWithin_15 ⟨by first | rfl | (simp [bI, c1, c2]; done) | (simp_all [bI]; done), rfl⟩
theorem dX11_isIn_0 : decode cX11_isIn 0 = .ok (.iload_n 1, 1) := by decide +kernel
theorem dX11_isIn_1 : decode cX11_isIn 1 = .ok (.ifCond .lt 22, 3) := by decide +kernel
theorem dX11_isIn_4 : decode cX11_isIn 4 = .ok (.iload_n 1, 1) := by decide +kernel
theorem dX11_isIn_5 : decode cX11_isIn 5 = .ok (.bipush 8, 2) := by decide +kernel
theorem dX11_isIn_7 : decode cX11_isIn 7 = .ok (.if_icmp .ge 16, 3) := by decide +kernel
theorem dX11_isIn_10 : decode cX11_isIn 10 = .ok (.iload_n 0, 1) := by decide +kernel
theorem dX11_isIn_11 : decode cX11_isIn 11 = .ok (.iload_n 1, 1) := by decide +kernel
theorem dX11_isIn_12 : decode cX11_isIn 12 = .ok (.ishr, 1) := by decide +kernel
theorem dX11_isIn_13 : decode cX11_isIn 13 = .ok (.iconst 1, 1) := by decide +kernel
theorem dX11_isIn_14 : decode cX11_isIn 14 = .ok (.iand, 1) := by decide +kernel
theorem dX11_isIn_15 : decode cX11_isIn 15 = .ok (.iconst 1, 1) := by decide +kernel
theorem dX11_isIn_16 : decode cX11_isIn 16 = .ok (.if_icmp .ne 7, 3) := by decide +kernel
theorem dX11_isIn_23 : decode cX11_isIn 23 = .ok (.iconst 0, 1) := by decide +kernel
theorem dX11_isIn_24 : decode cX11_isIn 24 = .ok (.ireturn, 1) := by decide +kernel
set_option maxRecDepth 20000 in
set_option maxHeartbeats 4000000 in
theorem t_isIn0 (E : xE) (l : Launch) (ws : va_W) (pl : Int32) : xI E l yX11_isIn cX11_isIn 2 (some .boolean) 0 [.int 0, .int pl] ws (fun r w => r = 0 ∧ w = ws) := by
  refine xI_start (lv := [(0, .int 0), (1, .int pl)]) RX11 (by decide) rfl (Nat.le_of_ble_eq_true rfl) rfl (fun p e s m below meth c A C hr hlk => ?_)
  refine x_iload_n C dX11_isIn_0 rfl 1 rfl rfl ?_
  refine x_if_lt C (tgt := 23) dX11_isIn_1 (by decide) rfl (fun c1 => ?_) (fun c1 => ?_)
  · skip
    refine x_iconst C (v := 0) dX11_isIn_23 (by decide) rfl ?_
    exact x_zret C hr hlk rfl dX11_isIn_24 ⟨by first | rfl | (simp [bI, c1]; done) | (simp_all [bI]; done), rfl⟩
  · skip
    refine x_iload_n C dX11_isIn_4 rfl 1 rfl rfl ?_
    refine x_bipush C (v := 8) dX11_isIn_5 (by decide) rfl ?_
    refine x_icmp_ge C (tgt := 23) dX11_isIn_7 (by decide) rfl (fun c2 => ?_) (fun c2 => ?_)
    · skip
      refine x_iconst C (v := 0) dX11_isIn_23 (by decide) rfl ?_
      exact x_zret C hr hlk rfl dX11_isIn_24 ⟨by first | rfl | (simp [bI, c1, c2]; done) | (simp_all [bI]; done), rfl⟩
    · skip
      refine x_iload_n C dX11_isIn_10 rfl 0 rfl rfl ?_
      refine x_iload_n C dX11_isIn_11 rfl 1 rfl rfl ?_
      refine x_ishr C (v := 0) dX11_isIn_12 (z_shr _) rfl ?_
      refine x_iconst C (v := 1) dX11_isIn_13 (by decide) rfl ?_
      refine x_iand C (v := 0) dX11_isIn_14 (by decide) rfl ?_
      refine x_iconst C (v := 1) dX11_isIn_15 (by decide) rfl ?_
      refine x_icmp_ne C (tgt := 23) dX11_isIn_16 (by decide) rfl (fun _ => ?_) (fun h => absurd h (by decide))
      refine x_iconst C (v := 0) dX11_isIn_23 (by decide) rfl ?_
      exact x_zret C hr hlk rfl dX11_isIn_24 ⟨by first | rfl | (simp [bI, c1, c2]; done) | (simp_all [bI]; done), rfl⟩
theorem dX5_isTold_0 : decode cX5_isTold 0 = .ok (.aload_n 0, 1) := by decide +kernel
theorem dX5_isTold_1 : decode cX5_isTold 1 = .ok (.getfield 9, 3) := by decide +kernel
theorem dX5_isTold_4 : decode cX5_isTold 4 = .ok (.iload_n 1, 1) := by decide +kernel
theorem dX5_isTold_5 : decode cX5_isTold 5 = .ok (.invokestatic 28, 3) := by decide +kernel
theorem dX5_isTold_8 : decode cX5_isTold 8 = .ok (.ireturn, 1) := by decide +kernel
set_option maxRecDepth 20000 in
set_option maxHeartbeats 4000000 in
theorem t_People_isTold0 (E : xE) (l : Launch) (ws : va_W) {h pl pa pt pb : Nat} (q : Nat) (k_0 : ws[q]? = some (ob h 4 [.int 0, .ref pl, .ref pa, .ref pt, .ref pb])) (p0 : Int32) : xI E l yX5_isTold cX5_isTold 2 (some .boolean) 1 [.ref h, .int p0] ws (fun r w => r = 0 ∧ w = ws) := by
  refine xI_start (lv := [(0, .ref h), (1, .int p0)]) RX5 (by decide) rfl (Nat.le_of_ble_eq_true rfl) rfl (fun p e s m below meth c A C hr hlk => ?_)
  refine x_aload_n C dX5_isTold_0 rfl 0 rfl rfl ?_
  refine x_get C (ci := 4) (k := 0) q k_0 rfl in_X5 (by decide) w_90 rfl dX5_isTold_1 rfl ?_
  refine x_iload_n C dX5_isTold_4 rfl 1 rfl rfl ?_
  refine x_sn C (As := [.int 0, .int p0]) (rest := []) (t_isIn0 E l ws p0) mf_X11_isIn n_455 rfl rfl (Nat.le_of_ble_eq_true rfl) ⟨(Nat.le_of_ble_eq_true rfl), (Nat.le_of_ble_eq_true rfl)⟩ ⟨(Nat.le_of_ble_eq_true rfl), (Nat.le_of_ble_eq_true rfl)⟩ dX5_isTold_5 rfl (fun r2 w3 h1 => ?_)
  obtain ⟨e4, g5⟩ := h1
  refine x_top e4 ?_
  refine x_ws g5 ?_
  exact x_zret C hr hlk rfl dX5_isTold_8 ⟨by first | rfl | (simp [bI]; done) | (simp_all [bI]; done), rfl⟩
theorem dX2_isTold_0 : decode cX2_isTold 0 = .ok (.aload_n 0, 1) := by decide +kernel
theorem dX2_isTold_1 : decode cX2_isTold 1 = .ok (.getfield 9, 3) := by decide +kernel
theorem dX2_isTold_4 : decode cX2_isTold 4 = .ok (.iload_n 1, 1) := by decide +kernel
theorem dX2_isTold_5 : decode cX2_isTold 5 = .ok (.invokestatic 22, 3) := by decide +kernel
theorem dX2_isTold_8 : decode cX2_isTold 8 = .ok (.ireturn, 1) := by decide +kernel
set_option maxRecDepth 20000 in
set_option maxHeartbeats 4000000 in
theorem t_Hens_isTold0 (E : xE) (l : Launch) (ws : va_W) {h hk ho : Nat} (q : Nat) (k_0 : ws[q]? = some (ob h 2 [.int 0, .ref hk, .ref ho])) (p0 : Int32) : xI E l yX2_isTold cX2_isTold 2 (some .boolean) 1 [.ref h, .int p0] ws (fun r w => r = 0 ∧ w = ws) := by
  refine xI_start (lv := [(0, .ref h), (1, .int p0)]) RX2 (by decide) rfl (Nat.le_of_ble_eq_true rfl) rfl (fun p e s m below meth c A C hr hlk => ?_)
  refine x_aload_n C dX2_isTold_0 rfl 0 rfl rfl ?_
  refine x_get C (ci := 2) (k := 0) q k_0 rfl in_X2 (by decide) w_68 rfl dX2_isTold_1 rfl ?_
  refine x_iload_n C dX2_isTold_4 rfl 1 rfl rfl ?_
  refine x_sn C (As := [.int 0, .int p0]) (rest := []) (t_isIn0 E l ws p0) mf_X11_isIn n_478 rfl rfl (Nat.le_of_ble_eq_true rfl) ⟨(Nat.le_of_ble_eq_true rfl), (Nat.le_of_ble_eq_true rfl)⟩ ⟨(Nat.le_of_ble_eq_true rfl), (Nat.le_of_ble_eq_true rfl)⟩ dX2_isTold_5 rfl (fun r2 w3 h1 => ?_)
  obtain ⟨e4, g5⟩ := h1
  refine x_top e4 ?_
  refine x_ws g5 ?_
  exact x_zret C hr hlk rfl dX2_isTold_8 ⟨by first | rfl | (simp [bI]; done) | (simp_all [bI]; done), rfl⟩
theorem dX10_isTold_0 : decode cX10_isTold 0 = .ok (.aload_n 0, 1) := by decide +kernel
theorem dX10_isTold_1 : decode cX10_isTold 1 = .ok (.getfield 9, 3) := by decide +kernel
theorem dX10_isTold_4 : decode cX10_isTold 4 = .ok (.iload_n 1, 1) := by decide +kernel
theorem dX10_isTold_5 : decode cX10_isTold 5 = .ok (.invokestatic 31, 3) := by decide +kernel
theorem dX10_isTold_8 : decode cX10_isTold 8 = .ok (.ireturn, 1) := by decide +kernel
set_option maxRecDepth 20000 in
set_option maxHeartbeats 4000000 in
theorem t_Works_isTold0 (E : xE) (l : Launch) (ws : va_W) {h wn wd ww wb wo : Nat} (q : Nat) (k_0 : ws[q]? = some (ob h 9 [.int 0, .ref wn, .ref wd, .ref ww, .ref wb, .ref wo])) (p0 : Int32) : xI E l yX10_isTold cX10_isTold 2 (some .boolean) 1 [.ref h, .int p0] ws (fun r w => r = 0 ∧ w = ws) := by
  refine xI_start (lv := [(0, .ref h), (1, .int p0)]) RX10 (by decide) rfl (Nat.le_of_ble_eq_true rfl) rfl (fun p e s m below meth c A C hr hlk => ?_)
  refine x_aload_n C dX10_isTold_0 rfl 0 rfl rfl ?_
  refine x_get C (ci := 9) (k := 0) q k_0 rfl in_X10 (by decide) w_168 rfl dX10_isTold_1 rfl ?_
  refine x_iload_n C dX10_isTold_4 rfl 1 rfl rfl ?_
  refine x_sn C (As := [.int 0, .int p0]) (rest := []) (t_isIn0 E l ws p0) mf_X11_isIn n_705 rfl rfl (Nat.le_of_ble_eq_true rfl) ⟨(Nat.le_of_ble_eq_true rfl), (Nat.le_of_ble_eq_true rfl)⟩ ⟨(Nat.le_of_ble_eq_true rfl), (Nat.le_of_ble_eq_true rfl)⟩ dX10_isTold_5 rfl (fun r2 w3 h1 => ?_)
  obtain ⟨e4, g5⟩ := h1
  refine x_top e4 ?_
  refine x_ws g5 ?_
  exact x_zret C hr hlk rfl dX10_isTold_8 ⟨by first | rfl | (simp [bI]; done) | (simp_all [bI]; done), rfl⟩
theorem dX5_tell_0 : decode cX5_tell 0 = .ok (.iload_n 1, 1) := by decide +kernel
theorem dX5_tell_1 : decode cX5_tell 1 = .ok (.ifCond .lt 17, 3) := by decide +kernel
theorem dX5_tell_4 : decode cX5_tell 4 = .ok (.iload_n 1, 1) := by decide +kernel
theorem dX5_tell_5 : decode cX5_tell 5 = .ok (.bipush 8, 2) := by decide +kernel
theorem dX5_tell_7 : decode cX5_tell 7 = .ok (.if_icmp .ge 11, 3) := by decide +kernel
theorem dX5_tell_10 : decode cX5_tell 10 = .ok (.aload_n 0, 1) := by decide +kernel
theorem dX5_tell_11 : decode cX5_tell 11 = .ok (.iload_n 1, 1) := by decide +kernel
theorem dX5_tell_12 : decode cX5_tell 12 = .ok (.invokevirtual 32, 3) := by decide +kernel
theorem dX5_tell_15 : decode cX5_tell 15 = .ok (.ifCond .eq 5, 3) := by decide +kernel
theorem dX5_tell_18 : decode cX5_tell 18 = .ok (.iconst 0, 1) := by decide +kernel
theorem dX5_tell_19 : decode cX5_tell 19 = .ok (.ireturn, 1) := by decide +kernel
theorem dX5_tell_20 : decode cX5_tell 20 = .ok (.aload_n 0, 1) := by decide +kernel
theorem dX5_tell_21 : decode cX5_tell 21 = .ok (.dup, 1) := by decide +kernel
theorem dX5_tell_22 : decode cX5_tell 22 = .ok (.getfield 9, 3) := by decide +kernel
theorem dX5_tell_25 : decode cX5_tell 25 = .ok (.iconst 1, 1) := by decide +kernel
theorem dX5_tell_26 : decode cX5_tell 26 = .ok (.iload_n 1, 1) := by decide +kernel
theorem dX5_tell_27 : decode cX5_tell 27 = .ok (.ishl, 1) := by decide +kernel
theorem dX5_tell_28 : decode cX5_tell 28 = .ok (.ior, 1) := by decide +kernel
theorem dX5_tell_29 : decode cX5_tell 29 = .ok (.putfield 9, 3) := by decide +kernel
theorem dX5_tell_32 : decode cX5_tell 32 = .ok (.iconst 1, 1) := by decide +kernel
theorem dX5_tell_33 : decode cX5_tell 33 = .ok (.ireturn, 1) := by decide +kernel
set_option maxRecDepth 20000 in
set_option maxHeartbeats 4000000 in
theorem t_People_tell0 (E : xE) (l : Launch) (ws : va_W) {h pl pa pt pb : Nat} (q : Nat) (k_0 : ws[q]? = some (ob h 4 [.int 0, .ref pl, .ref pa, .ref pt, .ref pb])) (p0 : Int32) : xI E l yX5_tell cX5_tell 2 (some .boolean) 2 [.ref h, .int p0] ws (fun r w => r = bI (¬ p0 < 0 ∧ ¬ 8 ≤ p0)) := by
  refine xI_start (lv := [(0, .ref h), (1, .int p0)]) RX5 (by decide) rfl (Nat.le_of_ble_eq_true rfl) rfl (fun p e s m below meth c A C hr hlk => ?_)
  refine x_iload_n C dX5_tell_0 rfl 1 rfl rfl ?_
  refine x_if_lt C (tgt := 18) dX5_tell_1 (by decide) rfl (fun c1 => ?_) (fun c1 => ?_)
  · skip
    refine x_iconst C (v := 0) dX5_tell_18 (by decide) rfl ?_
    exact x_zret C hr hlk rfl dX5_tell_19 (by first | rfl | trivial | (simp [bI, c1]; done) | (simp_all [bI]; done))
  · skip
    refine x_iload_n C dX5_tell_4 rfl 1 rfl rfl ?_
    refine x_bipush C (v := 8) dX5_tell_5 (by decide) rfl ?_
    refine x_icmp_ge C (tgt := 18) dX5_tell_7 (by decide) rfl (fun c2 => ?_) (fun c2 => ?_)
    · skip
      refine x_iconst C (v := 0) dX5_tell_18 (by decide) rfl ?_
      exact x_zret C hr hlk rfl dX5_tell_19 (by first | rfl | trivial | (simp [bI, c1, c2]; done) | (simp_all [bI]; done))
    · skip
      refine x_aload_n C dX5_tell_10 rfl 0 rfl rfl ?_
      refine x_iload_n C dX5_tell_11 rfl 1 rfl rfl ?_
      refine x_vi C (As := [.int p0]) (rest := []) (t_People_isTold0 E l ws q k_0 p0) mf_X5_isTold w_451 q k_0 rfl rfl rfl (Nat.le_of_ble_eq_true rfl) ⟨(Nat.le_of_ble_eq_true rfl), (Nat.le_of_ble_eq_true rfl)⟩ ⟨(Nat.le_of_ble_eq_true rfl), (Nat.le_of_ble_eq_true rfl)⟩ dX5_tell_12 rfl (fun r4 w5 h3 => ?_)
      obtain ⟨e6, g7⟩ := h3
      refine x_top e6 ?_
      refine x_ws g7 ?_
      refine x_if_eq C (tgt := 20) dX5_tell_15 (by decide) rfl (fun _ => ?_) (fun h => absurd h (by decide))
      refine x_aload_n C dX5_tell_20 rfl 0 rfl rfl ?_
      refine x_dup C dX5_tell_21 rfl rfl ?_
      refine x_get C (ci := 4) (k := 0) q k_0 rfl in_X5 (by decide) w_90 rfl dX5_tell_22 rfl ?_
      refine x_iconst C (v := 1) dX5_tell_25 (by decide) rfl ?_
      refine x_iload_n C dX5_tell_26 rfl 1 rfl rfl ?_
      refine x_ishl C (v := ((1 : Int32) <<< (p0 &&& 31))) dX5_tell_27 rfl rfl ?_
      refine x_ior C (v := ((0 : Int32) ||| ((1 : Int32) <<< (p0 &&& 31)))) dX5_tell_28 rfl rfl ?_
      obtain ⟨w8, hw9⟩ : ∃ w : va_W, w = List.set ws q (ob h 4 [.int ((0 : Int32) ||| ((1 : Int32) <<< (p0 &&& 31))), .ref pl, .ref pa, .ref pt, .ref pb]) := ⟨_, rfl⟩
      refine x_put C (ci := 4) (k := 0) (ty := .int) q k_0 rfl in_X5 tyX5 tyX5_ok nmX5 (by decide) w_90 rfl rfl rfl rfl (Nat.le_of_ble_eq_true rfl) hw9.symm dX5_tell_29 rfl ?_
      have k10 : w8[q]? = some (ob h 4 [.int ((0 : Int32) ||| ((1 : Int32) <<< (p0 &&& 31))), .ref pl, .ref pa, .ref pt, .ref pb]) := by rw [hw9]; exact set_eq k_0
      refine x_iconst C (v := 1) dX5_tell_32 (by decide) rfl ?_
      exact x_zret C hr hlk rfl dX5_tell_33 (by first | rfl | trivial | (simp [bI, c1, c2]; done) | (simp_all [bI]; done))
theorem dX1_isLaid_0 : decode cX1_isLaid 0 = .ok (.iload_n 1, 1) := by decide +kernel
theorem dX1_isLaid_1 : decode cX1_isLaid 1 = .ok (.ifCond .lt 21, 3) := by decide +kernel
theorem dX1_isLaid_4 : decode cX1_isLaid 4 = .ok (.iload_n 1, 1) := by decide +kernel
theorem dX1_isLaid_5 : decode cX1_isLaid 5 = .ok (.aload_n 0, 1) := by decide +kernel
theorem dX1_isLaid_6 : decode cX1_isLaid 6 = .ok (.getfield 9, 3) := by decide +kernel
theorem dX1_isLaid_9 : decode cX1_isLaid 9 = .ok (.if_icmp .ge 13, 3) := by decide +kernel
theorem dX1_isLaid_22 : decode cX1_isLaid 22 = .ok (.iconst 0, 1) := by decide +kernel
theorem dX1_isLaid_23 : decode cX1_isLaid 23 = .ok (.ireturn, 1) := by decide +kernel
set_option maxRecDepth 20000 in
set_option maxHeartbeats 4000000 in
theorem t_Eggs_isLaid0 (E : xE) (l : Launch) (ws : va_W) {h em el ey eo eb es : Nat} (q : Nat) (k_0 : ws[q]? = some (ob h 1 [.int 0, .ref em, .ref el, .ref ey, .ref eo, .ref eb, .ref es])) (i : Int32) : xI E l yX1_isLaid cX1_isLaid 2 (some .boolean) 0 [.ref h, .int i] ws (fun r w => r = 0 ∧ w = ws) := by
  refine xI_start (lv := [(0, .ref h), (1, .int i)]) RX1 (by decide) rfl (Nat.le_of_ble_eq_true rfl) rfl (fun p e s m below meth c A C hr hlk => ?_)
  refine x_iload_n C dX1_isLaid_0 rfl 1 rfl rfl ?_
  refine x_if_lt C (tgt := 22) dX1_isLaid_1 (by decide) rfl (fun c1 => ?_) (fun c1 => ?_)
  · skip
    refine x_iconst C (v := 0) dX1_isLaid_22 (by decide) rfl ?_
    exact x_zret C hr hlk rfl dX1_isLaid_23 ⟨by first | rfl | (simp [bI, c1]; done) | (simp_all [bI]; done), rfl⟩
  · skip
    refine x_iload_n C dX1_isLaid_4 rfl 1 rfl rfl ?_
    refine x_aload_n C dX1_isLaid_5 rfl 0 rfl rfl ?_
    refine x_get C (ci := 1) (k := 0) q k_0 rfl in_X1 (by decide) w_120 rfl dX1_isLaid_6 rfl ?_
    refine x_icmp_ge C (tgt := 22) dX1_isLaid_9 (by decide) rfl (fun _ => ?_) (fun h => absurd (Int32.not_lt.mp c1) h)
    refine x_iconst C (v := 0) dX1_isLaid_22 (by decide) rfl ?_
    exact x_zret C hr hlk rfl dX1_isLaid_23 ⟨by first | rfl | (simp [bI, c1]; done) | (simp_all [bI]; done), rfl⟩
theorem dX1_howMany_0 : decode cX1_howMany 0 = .ok (.iconst 0, 1) := by decide +kernel
theorem dX1_howMany_1 : decode cX1_howMany 1 = .ok (.istore_n 2, 1) := by decide +kernel
theorem dX1_howMany_2 : decode cX1_howMany 2 = .ok (.iconst 0, 1) := by decide +kernel
theorem dX1_howMany_3 : decode cX1_howMany 3 = .ok (.istore_n 3, 1) := by decide +kernel
theorem dX1_howMany_4 : decode cX1_howMany 4 = .ok (.iload_n 3, 1) := by decide +kernel
theorem dX1_howMany_5 : decode cX1_howMany 5 = .ok (.aload_n 0, 1) := by decide +kernel
theorem dX1_howMany_6 : decode cX1_howMany 6 = .ok (.getfield 9, 3) := by decide +kernel
theorem dX1_howMany_9 : decode cX1_howMany 9 = .ok (.if_icmp .ge 27, 3) := by decide +kernel
theorem dX1_howMany_36 : decode cX1_howMany 36 = .ok (.iload_n 2, 1) := by decide +kernel
theorem dX1_howMany_37 : decode cX1_howMany 37 = .ok (.ireturn, 1) := by decide +kernel
set_option maxRecDepth 20000 in
set_option maxHeartbeats 4000000 in
theorem t_Eggs_howMany0 (E : xE) (l : Launch) (ws : va_W) {h em el ey eo eb es : Nat} (q : Nat) (k_0 : ws[q]? = some (ob h 1 [.int 0, .ref em, .ref el, .ref ey, .ref eo, .ref eb, .ref es])) (of : Int32) : xI E l yX1_howMany cX1_howMany 4 (some .int) 0 [.ref h, .int of] ws (fun r w => r = 0 ∧ w = ws) := by
  refine xI_start (lv := [(0, .ref h), (1, .int of)]) RX1 (by decide) rfl (Nat.le_of_ble_eq_true rfl) rfl (fun p e s m below meth c A C hr hlk => ?_)
  refine x_iconst C (v := 0) dX1_howMany_0 (by decide) rfl ?_
  refine x_istore_n C (lv' := [(2, .int 0), (0, .ref h), (1, .int of)]) dX1_howMany_1 rfl (by decide) rfl rfl ?_
  refine x_iconst C (v := 0) dX1_howMany_2 (by decide) rfl ?_
  refine x_istore_n C (lv' := [(3, .int 0), (2, .int 0), (0, .ref h), (1, .int of)]) dX1_howMany_3 rfl (by decide) rfl rfl ?_
  refine x_iload_n C dX1_howMany_4 rfl 0 rfl rfl ?_
  refine x_aload_n C dX1_howMany_5 rfl 2 rfl rfl ?_
  refine x_get C (ci := 1) (k := 0) q k_0 rfl in_X1 (by decide) w_120 rfl dX1_howMany_6 rfl ?_
  refine x_icmp_ge C (tgt := 36) dX1_howMany_9 (by decide) rfl (fun _ => ?_) (fun h => absurd h (by decide))
  refine x_iload_n C dX1_howMany_36 rfl 1 rfl rfl ?_
  exact x_zret C hr hlk rfl dX1_howMany_37 ⟨by first | rfl | (simp [bI]; done) | (simp_all [bI]; done), rfl⟩
theorem dX1_sweepOut_0 : decode cX1_sweepOut 0 = .ok (.iconst 0, 1) := by decide +kernel
theorem dX1_sweepOut_1 : decode cX1_sweepOut 1 = .ok (.istore_n 1, 1) := by decide +kernel
theorem dX1_sweepOut_2 : decode cX1_sweepOut 2 = .ok (.iconst 0, 1) := by decide +kernel
theorem dX1_sweepOut_3 : decode cX1_sweepOut 3 = .ok (.istore_n 2, 1) := by decide +kernel
theorem dX1_sweepOut_4 : decode cX1_sweepOut 4 = .ok (.iload_n 2, 1) := by decide +kernel
theorem dX1_sweepOut_5 : decode cX1_sweepOut 5 = .ok (.aload_n 0, 1) := by decide +kernel
theorem dX1_sweepOut_6 : decode cX1_sweepOut 6 = .ok (.getfield 9, 3) := by decide +kernel
theorem dX1_sweepOut_9 : decode cX1_sweepOut 9 = .ok (.if_icmp .ge 88, 3) := by decide +kernel
theorem dX1_sweepOut_97 : decode cX1_sweepOut 97 = .ok (.aload_n 0, 1) := by decide +kernel
theorem dX1_sweepOut_98 : decode cX1_sweepOut 98 = .ok (.getfield 9, 3) := by decide +kernel
theorem dX1_sweepOut_101 : decode cX1_sweepOut 101 = .ok (.iload_n 1, 1) := by decide +kernel
theorem dX1_sweepOut_102 : decode cX1_sweepOut 102 = .ok (.isub, 1) := by decide +kernel
theorem dX1_sweepOut_103 : decode cX1_sweepOut 103 = .ok (.istore_n 2, 1) := by decide +kernel
theorem dX1_sweepOut_104 : decode cX1_sweepOut 104 = .ok (.aload_n 0, 1) := by decide +kernel
theorem dX1_sweepOut_105 : decode cX1_sweepOut 105 = .ok (.iload_n 1, 1) := by decide +kernel
theorem dX1_sweepOut_106 : decode cX1_sweepOut 106 = .ok (.putfield 9, 3) := by decide +kernel
theorem dX1_sweepOut_109 : decode cX1_sweepOut 109 = .ok (.iload_n 2, 1) := by decide +kernel
theorem dX1_sweepOut_110 : decode cX1_sweepOut 110 = .ok (.ireturn, 1) := by decide +kernel
set_option maxRecDepth 20000 in
set_option maxHeartbeats 4000000 in
theorem t_Eggs_sweepOut0 (E : xE) (l : Launch) (ws : va_W) {h em el ey eo eb es : Nat} (q : Nat) (k_0 : ws[q]? = some (ob h 1 [.int 0, .ref em, .ref el, .ref ey, .ref eo, .ref eb, .ref es])) : xI E l yX1_sweepOut cX1_sweepOut 3 (some .int) 0 [.ref h] ws (fun r w => r = 0) := by
  refine xI_start (lv := [(0, .ref h)]) RX1 (by decide) rfl (Nat.le_of_ble_eq_true rfl) rfl (fun p e s m below meth c A C hr hlk => ?_)
  refine x_iconst C (v := 0) dX1_sweepOut_0 (by decide) rfl ?_
  refine x_istore_n C (lv' := [(1, .int 0), (0, .ref h)]) dX1_sweepOut_1 rfl (by decide) rfl rfl ?_
  refine x_iconst C (v := 0) dX1_sweepOut_2 (by decide) rfl ?_
  refine x_istore_n C (lv' := [(2, .int 0), (1, .int 0), (0, .ref h)]) dX1_sweepOut_3 rfl (by decide) rfl rfl ?_
  refine x_iload_n C dX1_sweepOut_4 rfl 0 rfl rfl ?_
  refine x_aload_n C dX1_sweepOut_5 rfl 2 rfl rfl ?_
  refine x_get C (ci := 1) (k := 0) q k_0 rfl in_X1 (by decide) w_120 rfl dX1_sweepOut_6 rfl ?_
  refine x_icmp_ge C (tgt := 97) dX1_sweepOut_9 (by decide) rfl (fun _ => ?_) (fun h => absurd h (by decide))
  refine x_aload_n C dX1_sweepOut_97 rfl 2 rfl rfl ?_
  refine x_get C (ci := 1) (k := 0) q k_0 rfl in_X1 (by decide) w_120 rfl dX1_sweepOut_98 rfl ?_
  refine x_iload_n C dX1_sweepOut_101 rfl 1 rfl rfl ?_
  refine x_isub C (v := 0) dX1_sweepOut_102 (by decide) rfl ?_
  refine x_istore_n C (lv' := [(2, .int 0), (1, .int 0), (0, .ref h)]) dX1_sweepOut_103 rfl (by decide) rfl rfl ?_
  refine x_aload_n C dX1_sweepOut_104 rfl 2 rfl rfl ?_
  refine x_iload_n C dX1_sweepOut_105 rfl 1 rfl rfl ?_
  obtain ⟨w1, hw2⟩ : ∃ w : va_W, w = List.set ws q (ob h 1 [.int 0, .ref em, .ref el, .ref ey, .ref eo, .ref eb, .ref es]) := ⟨_, rfl⟩
  refine x_put C (ci := 1) (k := 0) (ty := .int) q k_0 rfl in_X1 tyX1 tyX1_ok nmX1 (by decide) w_120 rfl rfl rfl rfl (Nat.le_of_ble_eq_true rfl) hw2.symm dX1_sweepOut_106 rfl ?_
  have k3 : w1[q]? = some (ob h 1 [.int 0, .ref em, .ref el, .ref ey, .ref eo, .ref eb, .ref es]) := by rw [hw2]; exact set_eq k_0
  refine x_iload_n C dX1_sweepOut_109 rfl 0 rfl rfl ?_
  exact x_zret C hr hlk rfl dX1_sweepOut_110 (by first | rfl | trivial | (simp [bI]; done) | (simp_all [bI]; done))
end
section
theorem vp_in_w {i : Int32} (h : wth i 0 7) : vp_in i 8 := by
  obtain ⟨j, _, g, rfl⟩ := w_nat (a := 0) (b := 7) (by decide) (by decide) h
  exact vp_in_nI (by omega) (by decide)
theorem dX11_isIn_19 : decode cX11_isIn 19 = .ok (.iconst 1, 1) := by decide +kernel
theorem dX11_isIn_20 : decode cX11_isIn 20 = .ok (.goto 4, 3) := by decide +kernel
set_option maxRecDepth 20000 in
set_option maxHeartbeats 4000000 in
theorem t_isIn (E : xE) (l : Launch) (ws : va_W) (bs pl : Int32) : xI E l yX11_isIn cX11_isIn 2 (some .boolean) 0 [.int bs, .int pl] ws (fun r w => w = ws) := by
  refine xI_start (lv := [(0, .int bs), (1, .int pl)]) RX11 (by decide) rfl (Nat.le_of_ble_eq_true rfl) rfl (fun p e s m below meth c A C hr hlk => ?_)
  refine x_iload_n C dX11_isIn_0 rfl 1 rfl rfl ?_
  refine x_if_lt C (tgt := 23) dX11_isIn_1 (by decide) rfl (fun c1 => ?_) (fun c1 => ?_)
  · skip
    refine x_iconst C (v := 0) dX11_isIn_23 (by decide) rfl ?_
    exact x_zret C hr hlk rfl dX11_isIn_24 rfl
  · skip
    refine x_iload_n C dX11_isIn_4 rfl 1 rfl rfl ?_
    refine x_bipush C (v := 8) dX11_isIn_5 (by decide) rfl ?_
    refine x_icmp_ge C (tgt := 23) dX11_isIn_7 (by decide) rfl (fun c2 => ?_) (fun c2 => ?_)
    · skip
      refine x_iconst C (v := 0) dX11_isIn_23 (by decide) rfl ?_
      exact x_zret C hr hlk rfl dX11_isIn_24 rfl
    · skip
      refine x_iload_n C dX11_isIn_10 rfl 0 rfl rfl ?_
      refine x_iload_n C dX11_isIn_11 rfl 1 rfl rfl ?_
      refine x_ishr C (v := (bs >>> (pl &&& 31))) dX11_isIn_12 rfl rfl ?_
      refine x_iconst C (v := 1) dX11_isIn_13 (by decide) rfl ?_
      refine x_iand C (v := ((bs >>> (pl &&& 31)) &&& (1 : Int32))) dX11_isIn_14 rfl rfl ?_
      refine x_iconst C (v := 1) dX11_isIn_15 (by decide) rfl ?_
      refine x_icmp_ne C (tgt := 23) dX11_isIn_16 (by decide) rfl (fun c3 => ?_) (fun c3 => ?_)
      · skip
        refine x_iconst C (v := 0) dX11_isIn_23 (by decide) rfl ?_
        exact x_zret C hr hlk rfl dX11_isIn_24 rfl
      · skip
        refine x_iconst C (v := 1) dX11_isIn_19 (by decide) rfl ?_
        refine x_goto C (tgt := 24) dX11_isIn_20 (by decide) ?_
        exact x_zret C hr hlk rfl dX11_isIn_24 rfl
theorem dJ6_bitCount_0f7a4_0 : decode cJ6_bitCount_0f7a4 0 = .ok (.iload_n 0, 1) := by decide +kernel
theorem dJ6_bitCount_0f7a4_1 : decode cJ6_bitCount_0f7a4 1 = .ok (.iload_n 0, 1) := by decide +kernel
theorem dJ6_bitCount_0f7a4_2 : decode cJ6_bitCount_0f7a4 2 = .ok (.iconst 1, 1) := by decide +kernel
theorem dJ6_bitCount_0f7a4_3 : decode cJ6_bitCount_0f7a4 3 = .ok (.iushr, 1) := by decide +kernel
theorem dJ6_bitCount_0f7a4_4 : decode cJ6_bitCount_0f7a4 4 = .ok (.ldc_w 265, 3) := by decide +kernel
theorem dJ6_bitCount_0f7a4_7 : decode cJ6_bitCount_0f7a4 7 = .ok (.iand, 1) := by decide +kernel
theorem dJ6_bitCount_0f7a4_8 : decode cJ6_bitCount_0f7a4 8 = .ok (.isub, 1) := by decide +kernel
theorem dJ6_bitCount_0f7a4_9 : decode cJ6_bitCount_0f7a4 9 = .ok (.istore_n 0, 1) := by decide +kernel
theorem dJ6_bitCount_0f7a4_10 : decode cJ6_bitCount_0f7a4 10 = .ok (.iload_n 0, 1) := by decide +kernel
theorem dJ6_bitCount_0f7a4_11 : decode cJ6_bitCount_0f7a4 11 = .ok (.ldc_w 266, 3) := by decide +kernel
theorem dJ6_bitCount_0f7a4_14 : decode cJ6_bitCount_0f7a4 14 = .ok (.iand, 1) := by decide +kernel
theorem dJ6_bitCount_0f7a4_15 : decode cJ6_bitCount_0f7a4 15 = .ok (.iload_n 0, 1) := by decide +kernel
theorem dJ6_bitCount_0f7a4_16 : decode cJ6_bitCount_0f7a4 16 = .ok (.iconst 2, 1) := by decide +kernel
theorem dJ6_bitCount_0f7a4_17 : decode cJ6_bitCount_0f7a4 17 = .ok (.iushr, 1) := by decide +kernel
theorem dJ6_bitCount_0f7a4_18 : decode cJ6_bitCount_0f7a4 18 = .ok (.ldc_w 266, 3) := by decide +kernel
theorem dJ6_bitCount_0f7a4_21 : decode cJ6_bitCount_0f7a4 21 = .ok (.iand, 1) := by decide +kernel
theorem dJ6_bitCount_0f7a4_22 : decode cJ6_bitCount_0f7a4 22 = .ok (.iadd, 1) := by decide +kernel
theorem dJ6_bitCount_0f7a4_23 : decode cJ6_bitCount_0f7a4 23 = .ok (.istore_n 0, 1) := by decide +kernel
theorem dJ6_bitCount_0f7a4_24 : decode cJ6_bitCount_0f7a4 24 = .ok (.iload_n 0, 1) := by decide +kernel
theorem dJ6_bitCount_0f7a4_25 : decode cJ6_bitCount_0f7a4 25 = .ok (.iload_n 0, 1) := by decide +kernel
theorem dJ6_bitCount_0f7a4_26 : decode cJ6_bitCount_0f7a4 26 = .ok (.iconst 4, 1) := by decide +kernel
theorem dJ6_bitCount_0f7a4_27 : decode cJ6_bitCount_0f7a4 27 = .ok (.iushr, 1) := by decide +kernel
theorem dJ6_bitCount_0f7a4_28 : decode cJ6_bitCount_0f7a4 28 = .ok (.iadd, 1) := by decide +kernel
theorem dJ6_bitCount_0f7a4_29 : decode cJ6_bitCount_0f7a4 29 = .ok (.ldc_w 267, 3) := by decide +kernel
theorem dJ6_bitCount_0f7a4_32 : decode cJ6_bitCount_0f7a4 32 = .ok (.iand, 1) := by decide +kernel
theorem dJ6_bitCount_0f7a4_33 : decode cJ6_bitCount_0f7a4 33 = .ok (.istore_n 0, 1) := by decide +kernel
theorem dJ6_bitCount_0f7a4_34 : decode cJ6_bitCount_0f7a4 34 = .ok (.iload_n 0, 1) := by decide +kernel
theorem dJ6_bitCount_0f7a4_35 : decode cJ6_bitCount_0f7a4 35 = .ok (.iload_n 0, 1) := by decide +kernel
theorem dJ6_bitCount_0f7a4_36 : decode cJ6_bitCount_0f7a4 36 = .ok (.bipush 8, 2) := by decide +kernel
theorem dJ6_bitCount_0f7a4_38 : decode cJ6_bitCount_0f7a4 38 = .ok (.iushr, 1) := by decide +kernel
theorem dJ6_bitCount_0f7a4_39 : decode cJ6_bitCount_0f7a4 39 = .ok (.iadd, 1) := by decide +kernel
theorem dJ6_bitCount_0f7a4_40 : decode cJ6_bitCount_0f7a4 40 = .ok (.istore_n 0, 1) := by decide +kernel
theorem dJ6_bitCount_0f7a4_41 : decode cJ6_bitCount_0f7a4 41 = .ok (.iload_n 0, 1) := by decide +kernel
theorem dJ6_bitCount_0f7a4_42 : decode cJ6_bitCount_0f7a4 42 = .ok (.iload_n 0, 1) := by decide +kernel
theorem dJ6_bitCount_0f7a4_43 : decode cJ6_bitCount_0f7a4 43 = .ok (.bipush 16, 2) := by decide +kernel
theorem dJ6_bitCount_0f7a4_45 : decode cJ6_bitCount_0f7a4 45 = .ok (.iushr, 1) := by decide +kernel
theorem dJ6_bitCount_0f7a4_46 : decode cJ6_bitCount_0f7a4 46 = .ok (.iadd, 1) := by decide +kernel
theorem dJ6_bitCount_0f7a4_47 : decode cJ6_bitCount_0f7a4 47 = .ok (.istore_n 0, 1) := by decide +kernel
theorem dJ6_bitCount_0f7a4_48 : decode cJ6_bitCount_0f7a4 48 = .ok (.iload_n 0, 1) := by decide +kernel
theorem dJ6_bitCount_0f7a4_49 : decode cJ6_bitCount_0f7a4 49 = .ok (.bipush 63, 2) := by decide +kernel
theorem dJ6_bitCount_0f7a4_51 : decode cJ6_bitCount_0f7a4 51 = .ok (.iand, 1) := by decide +kernel
theorem dJ6_bitCount_0f7a4_52 : decode cJ6_bitCount_0f7a4 52 = .ok (.ireturn, 1) := by decide +kernel
set_option maxRecDepth 20000 in
set_option maxHeartbeats 4000000 in
theorem t_bitCount (E : xE) (l : Launch) (ws : va_W) (i : Int32) : xI E l yJ6_bitCount_0f7a4 cJ6_bitCount_0f7a4 1 (some .int) 0 [.int i] ws (fun r w => w = ws) := by
  refine xI_start (lv := [(0, .int i)]) RJ6 (by decide) rfl (Nat.le_of_ble_eq_true rfl) rfl (fun p e s m below meth c A C hr hlk => ?_)
  refine x_iload_n C dJ6_bitCount_0f7a4_0 rfl 0 rfl rfl ?_
  refine x_iload_n C dJ6_bitCount_0f7a4_1 rfl 0 rfl rfl ?_
  refine x_iconst C (v := 1) dJ6_bitCount_0f7a4_2 (by decide) rfl ?_
  refine x_iushr C (v := (i.toUInt32 >>> ((1 : Int32).toUInt32 &&& Int32.toUInt32 31)).toInt32) dJ6_bitCount_0f7a4_3 rfl rfl ?_
  refine x_ldcw C w_906 dJ6_bitCount_0f7a4_4 rfl ?_
  refine x_iand C (v := ((i.toUInt32 >>> ((1 : Int32).toUInt32 &&& Int32.toUInt32 31)).toInt32 &&& (1431655765 : Int32))) dJ6_bitCount_0f7a4_7 rfl rfl ?_
  refine x_isub C (v := (i - ((i.toUInt32 >>> ((1 : Int32).toUInt32 &&& Int32.toUInt32 31)).toInt32 &&& (1431655765 : Int32)))) dJ6_bitCount_0f7a4_8 rfl rfl ?_
  refine x_istore_n C (lv' := [(0, .int (i - ((i.toUInt32 >>> ((1 : Int32).toUInt32 &&& Int32.toUInt32 31)).toInt32 &&& (1431655765 : Int32))))]) dJ6_bitCount_0f7a4_9 rfl (by decide) rfl rfl ?_
  refine x_iload_n C dJ6_bitCount_0f7a4_10 rfl 0 rfl rfl ?_
  refine x_ldcw C w_907 dJ6_bitCount_0f7a4_11 rfl ?_
  refine x_iand C (v := ((i - ((i.toUInt32 >>> ((1 : Int32).toUInt32 &&& Int32.toUInt32 31)).toInt32 &&& (1431655765 : Int32))) &&& (858993459 : Int32))) dJ6_bitCount_0f7a4_14 rfl rfl ?_
  refine x_iload_n C dJ6_bitCount_0f7a4_15 rfl 0 rfl rfl ?_
  refine x_iconst C (v := 2) dJ6_bitCount_0f7a4_16 (by decide) rfl ?_
  refine x_iushr C (v := ((i - ((i.toUInt32 >>> ((1 : Int32).toUInt32 &&& Int32.toUInt32 31)).toInt32 &&& (1431655765 : Int32))).toUInt32 >>> ((2 : Int32).toUInt32 &&& Int32.toUInt32 31)).toInt32) dJ6_bitCount_0f7a4_17 rfl rfl ?_
  refine x_ldcw C w_907 dJ6_bitCount_0f7a4_18 rfl ?_
  refine x_iand C (v := (((i - ((i.toUInt32 >>> ((1 : Int32).toUInt32 &&& Int32.toUInt32 31)).toInt32 &&& (1431655765 : Int32))).toUInt32 >>> ((2 : Int32).toUInt32 &&& Int32.toUInt32 31)).toInt32 &&& (858993459 : Int32))) dJ6_bitCount_0f7a4_21 rfl rfl ?_
  refine x_iadd C (v := (((i - ((i.toUInt32 >>> ((1 : Int32).toUInt32 &&& Int32.toUInt32 31)).toInt32 &&& (1431655765 : Int32))) &&& (858993459 : Int32)) + (((i - ((i.toUInt32 >>> ((1 : Int32).toUInt32 &&& Int32.toUInt32 31)).toInt32 &&& (1431655765 : Int32))).toUInt32 >>> ((2 : Int32).toUInt32 &&& Int32.toUInt32 31)).toInt32 &&& (858993459 : Int32)))) dJ6_bitCount_0f7a4_22 rfl rfl ?_
  refine x_istore_n C (lv' := [(0, .int (((i - ((i.toUInt32 >>> ((1 : Int32).toUInt32 &&& Int32.toUInt32 31)).toInt32 &&& (1431655765 : Int32))) &&& (858993459 : Int32)) + (((i - ((i.toUInt32 >>> ((1 : Int32).toUInt32 &&& Int32.toUInt32 31)).toInt32 &&& (1431655765 : Int32))).toUInt32 >>> ((2 : Int32).toUInt32 &&& Int32.toUInt32 31)).toInt32 &&& (858993459 : Int32))))]) dJ6_bitCount_0f7a4_23 rfl (by decide) rfl rfl ?_
  refine x_iload_n C dJ6_bitCount_0f7a4_24 rfl 0 rfl rfl ?_
  refine x_iload_n C dJ6_bitCount_0f7a4_25 rfl 0 rfl rfl ?_
  refine x_iconst C (v := 4) dJ6_bitCount_0f7a4_26 (by decide) rfl ?_
  refine x_iushr C (v := ((((i - ((i.toUInt32 >>> ((1 : Int32).toUInt32 &&& Int32.toUInt32 31)).toInt32 &&& (1431655765 : Int32))) &&& (858993459 : Int32)) + (((i - ((i.toUInt32 >>> ((1 : Int32).toUInt32 &&& Int32.toUInt32 31)).toInt32 &&& (1431655765 : Int32))).toUInt32 >>> ((2 : Int32).toUInt32 &&& Int32.toUInt32 31)).toInt32 &&& (858993459 : Int32))).toUInt32 >>> ((4 : Int32).toUInt32 &&& Int32.toUInt32 31)).toInt32) dJ6_bitCount_0f7a4_27 rfl rfl ?_
  refine x_iadd C (v := ((((i - ((i.toUInt32 >>> ((1 : Int32).toUInt32 &&& Int32.toUInt32 31)).toInt32 &&& (1431655765 : Int32))) &&& (858993459 : Int32)) + (((i - ((i.toUInt32 >>> ((1 : Int32).toUInt32 &&& Int32.toUInt32 31)).toInt32 &&& (1431655765 : Int32))).toUInt32 >>> ((2 : Int32).toUInt32 &&& Int32.toUInt32 31)).toInt32 &&& (858993459 : Int32))) + ((((i - ((i.toUInt32 >>> ((1 : Int32).toUInt32 &&& Int32.toUInt32 31)).toInt32 &&& (1431655765 : Int32))) &&& (858993459 : Int32)) + (((i - ((i.toUInt32 >>> ((1 : Int32).toUInt32 &&& Int32.toUInt32 31)).toInt32 &&& (1431655765 : Int32))).toUInt32 >>> ((2 : Int32).toUInt32 &&& Int32.toUInt32 31)).toInt32 &&& (858993459 : Int32))).toUInt32 >>> ((4 : Int32).toUInt32 &&& Int32.toUInt32 31)).toInt32)) dJ6_bitCount_0f7a4_28 rfl rfl ?_
  refine x_ldcw C w_908 dJ6_bitCount_0f7a4_29 rfl ?_
  refine x_iand C (v := (((((i - ((i.toUInt32 >>> ((1 : Int32).toUInt32 &&& Int32.toUInt32 31)).toInt32 &&& (1431655765 : Int32))) &&& (858993459 : Int32)) + (((i - ((i.toUInt32 >>> ((1 : Int32).toUInt32 &&& Int32.toUInt32 31)).toInt32 &&& (1431655765 : Int32))).toUInt32 >>> ((2 : Int32).toUInt32 &&& Int32.toUInt32 31)).toInt32 &&& (858993459 : Int32))) + ((((i - ((i.toUInt32 >>> ((1 : Int32).toUInt32 &&& Int32.toUInt32 31)).toInt32 &&& (1431655765 : Int32))) &&& (858993459 : Int32)) + (((i - ((i.toUInt32 >>> ((1 : Int32).toUInt32 &&& Int32.toUInt32 31)).toInt32 &&& (1431655765 : Int32))).toUInt32 >>> ((2 : Int32).toUInt32 &&& Int32.toUInt32 31)).toInt32 &&& (858993459 : Int32))).toUInt32 >>> ((4 : Int32).toUInt32 &&& Int32.toUInt32 31)).toInt32) &&& (252645135 : Int32))) dJ6_bitCount_0f7a4_32 rfl rfl ?_
  refine x_istore_n C (lv' := [(0, .int (((((i - ((i.toUInt32 >>> ((1 : Int32).toUInt32 &&& Int32.toUInt32 31)).toInt32 &&& (1431655765 : Int32))) &&& (858993459 : Int32)) + (((i - ((i.toUInt32 >>> ((1 : Int32).toUInt32 &&& Int32.toUInt32 31)).toInt32 &&& (1431655765 : Int32))).toUInt32 >>> ((2 : Int32).toUInt32 &&& Int32.toUInt32 31)).toInt32 &&& (858993459 : Int32))) + ((((i - ((i.toUInt32 >>> ((1 : Int32).toUInt32 &&& Int32.toUInt32 31)).toInt32 &&& (1431655765 : Int32))) &&& (858993459 : Int32)) + (((i - ((i.toUInt32 >>> ((1 : Int32).toUInt32 &&& Int32.toUInt32 31)).toInt32 &&& (1431655765 : Int32))).toUInt32 >>> ((2 : Int32).toUInt32 &&& Int32.toUInt32 31)).toInt32 &&& (858993459 : Int32))).toUInt32 >>> ((4 : Int32).toUInt32 &&& Int32.toUInt32 31)).toInt32) &&& (252645135 : Int32)))]) dJ6_bitCount_0f7a4_33 rfl (by decide) rfl rfl ?_
  refine x_iload_n C dJ6_bitCount_0f7a4_34 rfl 0 rfl rfl ?_
  refine x_iload_n C dJ6_bitCount_0f7a4_35 rfl 0 rfl rfl ?_
  refine x_bipush C (v := 8) dJ6_bitCount_0f7a4_36 (by decide) rfl ?_
  refine x_iushr C (v := ((((((i - ((i.toUInt32 >>> ((1 : Int32).toUInt32 &&& Int32.toUInt32 31)).toInt32 &&& (1431655765 : Int32))) &&& (858993459 : Int32)) + (((i - ((i.toUInt32 >>> ((1 : Int32).toUInt32 &&& Int32.toUInt32 31)).toInt32 &&& (1431655765 : Int32))).toUInt32 >>> ((2 : Int32).toUInt32 &&& Int32.toUInt32 31)).toInt32 &&& (858993459 : Int32))) + ((((i - ((i.toUInt32 >>> ((1 : Int32).toUInt32 &&& Int32.toUInt32 31)).toInt32 &&& (1431655765 : Int32))) &&& (858993459 : Int32)) + (((i - ((i.toUInt32 >>> ((1 : Int32).toUInt32 &&& Int32.toUInt32 31)).toInt32 &&& (1431655765 : Int32))).toUInt32 >>> ((2 : Int32).toUInt32 &&& Int32.toUInt32 31)).toInt32 &&& (858993459 : Int32))).toUInt32 >>> ((4 : Int32).toUInt32 &&& Int32.toUInt32 31)).toInt32) &&& (252645135 : Int32)).toUInt32 >>> ((8 : Int32).toUInt32 &&& Int32.toUInt32 31)).toInt32) dJ6_bitCount_0f7a4_38 rfl rfl ?_
  refine x_iadd C (v := ((((((i - ((i.toUInt32 >>> ((1 : Int32).toUInt32 &&& Int32.toUInt32 31)).toInt32 &&& (1431655765 : Int32))) &&& (858993459 : Int32)) + (((i - ((i.toUInt32 >>> ((1 : Int32).toUInt32 &&& Int32.toUInt32 31)).toInt32 &&& (1431655765 : Int32))).toUInt32 >>> ((2 : Int32).toUInt32 &&& Int32.toUInt32 31)).toInt32 &&& (858993459 : Int32))) + ((((i - ((i.toUInt32 >>> ((1 : Int32).toUInt32 &&& Int32.toUInt32 31)).toInt32 &&& (1431655765 : Int32))) &&& (858993459 : Int32)) + (((i - ((i.toUInt32 >>> ((1 : Int32).toUInt32 &&& Int32.toUInt32 31)).toInt32 &&& (1431655765 : Int32))).toUInt32 >>> ((2 : Int32).toUInt32 &&& Int32.toUInt32 31)).toInt32 &&& (858993459 : Int32))).toUInt32 >>> ((4 : Int32).toUInt32 &&& Int32.toUInt32 31)).toInt32) &&& (252645135 : Int32)) + ((((((i - ((i.toUInt32 >>> ((1 : Int32).toUInt32 &&& Int32.toUInt32 31)).toInt32 &&& (1431655765 : Int32))) &&& (858993459 : Int32)) + (((i - ((i.toUInt32 >>> ((1 : Int32).toUInt32 &&& Int32.toUInt32 31)).toInt32 &&& (1431655765 : Int32))).toUInt32 >>> ((2 : Int32).toUInt32 &&& Int32.toUInt32 31)).toInt32 &&& (858993459 : Int32))) + ((((i - ((i.toUInt32 >>> ((1 : Int32).toUInt32 &&& Int32.toUInt32 31)).toInt32 &&& (1431655765 : Int32))) &&& (858993459 : Int32)) + (((i - ((i.toUInt32 >>> ((1 : Int32).toUInt32 &&& Int32.toUInt32 31)).toInt32 &&& (1431655765 : Int32))).toUInt32 >>> ((2 : Int32).toUInt32 &&& Int32.toUInt32 31)).toInt32 &&& (858993459 : Int32))).toUInt32 >>> ((4 : Int32).toUInt32 &&& Int32.toUInt32 31)).toInt32) &&& (252645135 : Int32)).toUInt32 >>> ((8 : Int32).toUInt32 &&& Int32.toUInt32 31)).toInt32)) dJ6_bitCount_0f7a4_39 rfl rfl ?_
  refine x_istore_n C (lv' := [(0, .int ((((((i - ((i.toUInt32 >>> ((1 : Int32).toUInt32 &&& Int32.toUInt32 31)).toInt32 &&& (1431655765 : Int32))) &&& (858993459 : Int32)) + (((i - ((i.toUInt32 >>> ((1 : Int32).toUInt32 &&& Int32.toUInt32 31)).toInt32 &&& (1431655765 : Int32))).toUInt32 >>> ((2 : Int32).toUInt32 &&& Int32.toUInt32 31)).toInt32 &&& (858993459 : Int32))) + ((((i - ((i.toUInt32 >>> ((1 : Int32).toUInt32 &&& Int32.toUInt32 31)).toInt32 &&& (1431655765 : Int32))) &&& (858993459 : Int32)) + (((i - ((i.toUInt32 >>> ((1 : Int32).toUInt32 &&& Int32.toUInt32 31)).toInt32 &&& (1431655765 : Int32))).toUInt32 >>> ((2 : Int32).toUInt32 &&& Int32.toUInt32 31)).toInt32 &&& (858993459 : Int32))).toUInt32 >>> ((4 : Int32).toUInt32 &&& Int32.toUInt32 31)).toInt32) &&& (252645135 : Int32)) + ((((((i - ((i.toUInt32 >>> ((1 : Int32).toUInt32 &&& Int32.toUInt32 31)).toInt32 &&& (1431655765 : Int32))) &&& (858993459 : Int32)) + (((i - ((i.toUInt32 >>> ((1 : Int32).toUInt32 &&& Int32.toUInt32 31)).toInt32 &&& (1431655765 : Int32))).toUInt32 >>> ((2 : Int32).toUInt32 &&& Int32.toUInt32 31)).toInt32 &&& (858993459 : Int32))) + ((((i - ((i.toUInt32 >>> ((1 : Int32).toUInt32 &&& Int32.toUInt32 31)).toInt32 &&& (1431655765 : Int32))) &&& (858993459 : Int32)) + (((i - ((i.toUInt32 >>> ((1 : Int32).toUInt32 &&& Int32.toUInt32 31)).toInt32 &&& (1431655765 : Int32))).toUInt32 >>> ((2 : Int32).toUInt32 &&& Int32.toUInt32 31)).toInt32 &&& (858993459 : Int32))).toUInt32 >>> ((4 : Int32).toUInt32 &&& Int32.toUInt32 31)).toInt32) &&& (252645135 : Int32)).toUInt32 >>> ((8 : Int32).toUInt32 &&& Int32.toUInt32 31)).toInt32))]) dJ6_bitCount_0f7a4_40 rfl (by decide) rfl rfl ?_
  refine x_iload_n C dJ6_bitCount_0f7a4_41 rfl 0 rfl rfl ?_
  refine x_iload_n C dJ6_bitCount_0f7a4_42 rfl 0 rfl rfl ?_
  refine x_bipush C (v := 16) dJ6_bitCount_0f7a4_43 (by decide) rfl ?_
  refine x_iushr C (v := (((((((i - ((i.toUInt32 >>> ((1 : Int32).toUInt32 &&& Int32.toUInt32 31)).toInt32 &&& (1431655765 : Int32))) &&& (858993459 : Int32)) + (((i - ((i.toUInt32 >>> ((1 : Int32).toUInt32 &&& Int32.toUInt32 31)).toInt32 &&& (1431655765 : Int32))).toUInt32 >>> ((2 : Int32).toUInt32 &&& Int32.toUInt32 31)).toInt32 &&& (858993459 : Int32))) + ((((i - ((i.toUInt32 >>> ((1 : Int32).toUInt32 &&& Int32.toUInt32 31)).toInt32 &&& (1431655765 : Int32))) &&& (858993459 : Int32)) + (((i - ((i.toUInt32 >>> ((1 : Int32).toUInt32 &&& Int32.toUInt32 31)).toInt32 &&& (1431655765 : Int32))).toUInt32 >>> ((2 : Int32).toUInt32 &&& Int32.toUInt32 31)).toInt32 &&& (858993459 : Int32))).toUInt32 >>> ((4 : Int32).toUInt32 &&& Int32.toUInt32 31)).toInt32) &&& (252645135 : Int32)) + ((((((i - ((i.toUInt32 >>> ((1 : Int32).toUInt32 &&& Int32.toUInt32 31)).toInt32 &&& (1431655765 : Int32))) &&& (858993459 : Int32)) + (((i - ((i.toUInt32 >>> ((1 : Int32).toUInt32 &&& Int32.toUInt32 31)).toInt32 &&& (1431655765 : Int32))).toUInt32 >>> ((2 : Int32).toUInt32 &&& Int32.toUInt32 31)).toInt32 &&& (858993459 : Int32))) + ((((i - ((i.toUInt32 >>> ((1 : Int32).toUInt32 &&& Int32.toUInt32 31)).toInt32 &&& (1431655765 : Int32))) &&& (858993459 : Int32)) + (((i - ((i.toUInt32 >>> ((1 : Int32).toUInt32 &&& Int32.toUInt32 31)).toInt32 &&& (1431655765 : Int32))).toUInt32 >>> ((2 : Int32).toUInt32 &&& Int32.toUInt32 31)).toInt32 &&& (858993459 : Int32))).toUInt32 >>> ((4 : Int32).toUInt32 &&& Int32.toUInt32 31)).toInt32) &&& (252645135 : Int32)).toUInt32 >>> ((8 : Int32).toUInt32 &&& Int32.toUInt32 31)).toInt32).toUInt32 >>> ((16 : Int32).toUInt32 &&& Int32.toUInt32 31)).toInt32) dJ6_bitCount_0f7a4_45 rfl rfl ?_
  refine x_iadd C (v := (((((((i - ((i.toUInt32 >>> ((1 : Int32).toUInt32 &&& Int32.toUInt32 31)).toInt32 &&& (1431655765 : Int32))) &&& (858993459 : Int32)) + (((i - ((i.toUInt32 >>> ((1 : Int32).toUInt32 &&& Int32.toUInt32 31)).toInt32 &&& (1431655765 : Int32))).toUInt32 >>> ((2 : Int32).toUInt32 &&& Int32.toUInt32 31)).toInt32 &&& (858993459 : Int32))) + ((((i - ((i.toUInt32 >>> ((1 : Int32).toUInt32 &&& Int32.toUInt32 31)).toInt32 &&& (1431655765 : Int32))) &&& (858993459 : Int32)) + (((i - ((i.toUInt32 >>> ((1 : Int32).toUInt32 &&& Int32.toUInt32 31)).toInt32 &&& (1431655765 : Int32))).toUInt32 >>> ((2 : Int32).toUInt32 &&& Int32.toUInt32 31)).toInt32 &&& (858993459 : Int32))).toUInt32 >>> ((4 : Int32).toUInt32 &&& Int32.toUInt32 31)).toInt32) &&& (252645135 : Int32)) + ((((((i - ((i.toUInt32 >>> ((1 : Int32).toUInt32 &&& Int32.toUInt32 31)).toInt32 &&& (1431655765 : Int32))) &&& (858993459 : Int32)) + (((i - ((i.toUInt32 >>> ((1 : Int32).toUInt32 &&& Int32.toUInt32 31)).toInt32 &&& (1431655765 : Int32))).toUInt32 >>> ((2 : Int32).toUInt32 &&& Int32.toUInt32 31)).toInt32 &&& (858993459 : Int32))) + ((((i - ((i.toUInt32 >>> ((1 : Int32).toUInt32 &&& Int32.toUInt32 31)).toInt32 &&& (1431655765 : Int32))) &&& (858993459 : Int32)) + (((i - ((i.toUInt32 >>> ((1 : Int32).toUInt32 &&& Int32.toUInt32 31)).toInt32 &&& (1431655765 : Int32))).toUInt32 >>> ((2 : Int32).toUInt32 &&& Int32.toUInt32 31)).toInt32 &&& (858993459 : Int32))).toUInt32 >>> ((4 : Int32).toUInt32 &&& Int32.toUInt32 31)).toInt32) &&& (252645135 : Int32)).toUInt32 >>> ((8 : Int32).toUInt32 &&& Int32.toUInt32 31)).toInt32) + (((((((i - ((i.toUInt32 >>> ((1 : Int32).toUInt32 &&& Int32.toUInt32 31)).toInt32 &&& (1431655765 : Int32))) &&& (858993459 : Int32)) + (((i - ((i.toUInt32 >>> ((1 : Int32).toUInt32 &&& Int32.toUInt32 31)).toInt32 &&& (1431655765 : Int32))).toUInt32 >>> ((2 : Int32).toUInt32 &&& Int32.toUInt32 31)).toInt32 &&& (858993459 : Int32))) + ((((i - ((i.toUInt32 >>> ((1 : Int32).toUInt32 &&& Int32.toUInt32 31)).toInt32 &&& (1431655765 : Int32))) &&& (858993459 : Int32)) + (((i - ((i.toUInt32 >>> ((1 : Int32).toUInt32 &&& Int32.toUInt32 31)).toInt32 &&& (1431655765 : Int32))).toUInt32 >>> ((2 : Int32).toUInt32 &&& Int32.toUInt32 31)).toInt32 &&& (858993459 : Int32))).toUInt32 >>> ((4 : Int32).toUInt32 &&& Int32.toUInt32 31)).toInt32) &&& (252645135 : Int32)) + ((((((i - ((i.toUInt32 >>> ((1 : Int32).toUInt32 &&& Int32.toUInt32 31)).toInt32 &&& (1431655765 : Int32))) &&& (858993459 : Int32)) + (((i - ((i.toUInt32 >>> ((1 : Int32).toUInt32 &&& Int32.toUInt32 31)).toInt32 &&& (1431655765 : Int32))).toUInt32 >>> ((2 : Int32).toUInt32 &&& Int32.toUInt32 31)).toInt32 &&& (858993459 : Int32))) + ((((i - ((i.toUInt32 >>> ((1 : Int32).toUInt32 &&& Int32.toUInt32 31)).toInt32 &&& (1431655765 : Int32))) &&& (858993459 : Int32)) + (((i - ((i.toUInt32 >>> ((1 : Int32).toUInt32 &&& Int32.toUInt32 31)).toInt32 &&& (1431655765 : Int32))).toUInt32 >>> ((2 : Int32).toUInt32 &&& Int32.toUInt32 31)).toInt32 &&& (858993459 : Int32))).toUInt32 >>> ((4 : Int32).toUInt32 &&& Int32.toUInt32 31)).toInt32) &&& (252645135 : Int32)).toUInt32 >>> ((8 : Int32).toUInt32 &&& Int32.toUInt32 31)).toInt32).toUInt32 >>> ((16 : Int32).toUInt32 &&& Int32.toUInt32 31)).toInt32)) dJ6_bitCount_0f7a4_46 rfl rfl ?_
  refine x_istore_n C (lv' := [(0, .int (((((((i - ((i.toUInt32 >>> ((1 : Int32).toUInt32 &&& Int32.toUInt32 31)).toInt32 &&& (1431655765 : Int32))) &&& (858993459 : Int32)) + (((i - ((i.toUInt32 >>> ((1 : Int32).toUInt32 &&& Int32.toUInt32 31)).toInt32 &&& (1431655765 : Int32))).toUInt32 >>> ((2 : Int32).toUInt32 &&& Int32.toUInt32 31)).toInt32 &&& (858993459 : Int32))) + ((((i - ((i.toUInt32 >>> ((1 : Int32).toUInt32 &&& Int32.toUInt32 31)).toInt32 &&& (1431655765 : Int32))) &&& (858993459 : Int32)) + (((i - ((i.toUInt32 >>> ((1 : Int32).toUInt32 &&& Int32.toUInt32 31)).toInt32 &&& (1431655765 : Int32))).toUInt32 >>> ((2 : Int32).toUInt32 &&& Int32.toUInt32 31)).toInt32 &&& (858993459 : Int32))).toUInt32 >>> ((4 : Int32).toUInt32 &&& Int32.toUInt32 31)).toInt32) &&& (252645135 : Int32)) + ((((((i - ((i.toUInt32 >>> ((1 : Int32).toUInt32 &&& Int32.toUInt32 31)).toInt32 &&& (1431655765 : Int32))) &&& (858993459 : Int32)) + (((i - ((i.toUInt32 >>> ((1 : Int32).toUInt32 &&& Int32.toUInt32 31)).toInt32 &&& (1431655765 : Int32))).toUInt32 >>> ((2 : Int32).toUInt32 &&& Int32.toUInt32 31)).toInt32 &&& (858993459 : Int32))) + ((((i - ((i.toUInt32 >>> ((1 : Int32).toUInt32 &&& Int32.toUInt32 31)).toInt32 &&& (1431655765 : Int32))) &&& (858993459 : Int32)) + (((i - ((i.toUInt32 >>> ((1 : Int32).toUInt32 &&& Int32.toUInt32 31)).toInt32 &&& (1431655765 : Int32))).toUInt32 >>> ((2 : Int32).toUInt32 &&& Int32.toUInt32 31)).toInt32 &&& (858993459 : Int32))).toUInt32 >>> ((4 : Int32).toUInt32 &&& Int32.toUInt32 31)).toInt32) &&& (252645135 : Int32)).toUInt32 >>> ((8 : Int32).toUInt32 &&& Int32.toUInt32 31)).toInt32) + (((((((i - ((i.toUInt32 >>> ((1 : Int32).toUInt32 &&& Int32.toUInt32 31)).toInt32 &&& (1431655765 : Int32))) &&& (858993459 : Int32)) + (((i - ((i.toUInt32 >>> ((1 : Int32).toUInt32 &&& Int32.toUInt32 31)).toInt32 &&& (1431655765 : Int32))).toUInt32 >>> ((2 : Int32).toUInt32 &&& Int32.toUInt32 31)).toInt32 &&& (858993459 : Int32))) + ((((i - ((i.toUInt32 >>> ((1 : Int32).toUInt32 &&& Int32.toUInt32 31)).toInt32 &&& (1431655765 : Int32))) &&& (858993459 : Int32)) + (((i - ((i.toUInt32 >>> ((1 : Int32).toUInt32 &&& Int32.toUInt32 31)).toInt32 &&& (1431655765 : Int32))).toUInt32 >>> ((2 : Int32).toUInt32 &&& Int32.toUInt32 31)).toInt32 &&& (858993459 : Int32))).toUInt32 >>> ((4 : Int32).toUInt32 &&& Int32.toUInt32 31)).toInt32) &&& (252645135 : Int32)) + ((((((i - ((i.toUInt32 >>> ((1 : Int32).toUInt32 &&& Int32.toUInt32 31)).toInt32 &&& (1431655765 : Int32))) &&& (858993459 : Int32)) + (((i - ((i.toUInt32 >>> ((1 : Int32).toUInt32 &&& Int32.toUInt32 31)).toInt32 &&& (1431655765 : Int32))).toUInt32 >>> ((2 : Int32).toUInt32 &&& Int32.toUInt32 31)).toInt32 &&& (858993459 : Int32))) + ((((i - ((i.toUInt32 >>> ((1 : Int32).toUInt32 &&& Int32.toUInt32 31)).toInt32 &&& (1431655765 : Int32))) &&& (858993459 : Int32)) + (((i - ((i.toUInt32 >>> ((1 : Int32).toUInt32 &&& Int32.toUInt32 31)).toInt32 &&& (1431655765 : Int32))).toUInt32 >>> ((2 : Int32).toUInt32 &&& Int32.toUInt32 31)).toInt32 &&& (858993459 : Int32))).toUInt32 >>> ((4 : Int32).toUInt32 &&& Int32.toUInt32 31)).toInt32) &&& (252645135 : Int32)).toUInt32 >>> ((8 : Int32).toUInt32 &&& Int32.toUInt32 31)).toInt32).toUInt32 >>> ((16 : Int32).toUInt32 &&& Int32.toUInt32 31)).toInt32))]) dJ6_bitCount_0f7a4_47 rfl (by decide) rfl rfl ?_
  refine x_iload_n C dJ6_bitCount_0f7a4_48 rfl 0 rfl rfl ?_
  refine x_bipush C (v := 63) dJ6_bitCount_0f7a4_49 (by decide) rfl ?_
  refine x_iand C (v := ((((((((i - ((i.toUInt32 >>> ((1 : Int32).toUInt32 &&& Int32.toUInt32 31)).toInt32 &&& (1431655765 : Int32))) &&& (858993459 : Int32)) + (((i - ((i.toUInt32 >>> ((1 : Int32).toUInt32 &&& Int32.toUInt32 31)).toInt32 &&& (1431655765 : Int32))).toUInt32 >>> ((2 : Int32).toUInt32 &&& Int32.toUInt32 31)).toInt32 &&& (858993459 : Int32))) + ((((i - ((i.toUInt32 >>> ((1 : Int32).toUInt32 &&& Int32.toUInt32 31)).toInt32 &&& (1431655765 : Int32))) &&& (858993459 : Int32)) + (((i - ((i.toUInt32 >>> ((1 : Int32).toUInt32 &&& Int32.toUInt32 31)).toInt32 &&& (1431655765 : Int32))).toUInt32 >>> ((2 : Int32).toUInt32 &&& Int32.toUInt32 31)).toInt32 &&& (858993459 : Int32))).toUInt32 >>> ((4 : Int32).toUInt32 &&& Int32.toUInt32 31)).toInt32) &&& (252645135 : Int32)) + ((((((i - ((i.toUInt32 >>> ((1 : Int32).toUInt32 &&& Int32.toUInt32 31)).toInt32 &&& (1431655765 : Int32))) &&& (858993459 : Int32)) + (((i - ((i.toUInt32 >>> ((1 : Int32).toUInt32 &&& Int32.toUInt32 31)).toInt32 &&& (1431655765 : Int32))).toUInt32 >>> ((2 : Int32).toUInt32 &&& Int32.toUInt32 31)).toInt32 &&& (858993459 : Int32))) + ((((i - ((i.toUInt32 >>> ((1 : Int32).toUInt32 &&& Int32.toUInt32 31)).toInt32 &&& (1431655765 : Int32))) &&& (858993459 : Int32)) + (((i - ((i.toUInt32 >>> ((1 : Int32).toUInt32 &&& Int32.toUInt32 31)).toInt32 &&& (1431655765 : Int32))).toUInt32 >>> ((2 : Int32).toUInt32 &&& Int32.toUInt32 31)).toInt32 &&& (858993459 : Int32))).toUInt32 >>> ((4 : Int32).toUInt32 &&& Int32.toUInt32 31)).toInt32) &&& (252645135 : Int32)).toUInt32 >>> ((8 : Int32).toUInt32 &&& Int32.toUInt32 31)).toInt32) + (((((((i - ((i.toUInt32 >>> ((1 : Int32).toUInt32 &&& Int32.toUInt32 31)).toInt32 &&& (1431655765 : Int32))) &&& (858993459 : Int32)) + (((i - ((i.toUInt32 >>> ((1 : Int32).toUInt32 &&& Int32.toUInt32 31)).toInt32 &&& (1431655765 : Int32))).toUInt32 >>> ((2 : Int32).toUInt32 &&& Int32.toUInt32 31)).toInt32 &&& (858993459 : Int32))) + ((((i - ((i.toUInt32 >>> ((1 : Int32).toUInt32 &&& Int32.toUInt32 31)).toInt32 &&& (1431655765 : Int32))) &&& (858993459 : Int32)) + (((i - ((i.toUInt32 >>> ((1 : Int32).toUInt32 &&& Int32.toUInt32 31)).toInt32 &&& (1431655765 : Int32))).toUInt32 >>> ((2 : Int32).toUInt32 &&& Int32.toUInt32 31)).toInt32 &&& (858993459 : Int32))).toUInt32 >>> ((4 : Int32).toUInt32 &&& Int32.toUInt32 31)).toInt32) &&& (252645135 : Int32)) + ((((((i - ((i.toUInt32 >>> ((1 : Int32).toUInt32 &&& Int32.toUInt32 31)).toInt32 &&& (1431655765 : Int32))) &&& (858993459 : Int32)) + (((i - ((i.toUInt32 >>> ((1 : Int32).toUInt32 &&& Int32.toUInt32 31)).toInt32 &&& (1431655765 : Int32))).toUInt32 >>> ((2 : Int32).toUInt32 &&& Int32.toUInt32 31)).toInt32 &&& (858993459 : Int32))) + ((((i - ((i.toUInt32 >>> ((1 : Int32).toUInt32 &&& Int32.toUInt32 31)).toInt32 &&& (1431655765 : Int32))) &&& (858993459 : Int32)) + (((i - ((i.toUInt32 >>> ((1 : Int32).toUInt32 &&& Int32.toUInt32 31)).toInt32 &&& (1431655765 : Int32))).toUInt32 >>> ((2 : Int32).toUInt32 &&& Int32.toUInt32 31)).toInt32 &&& (858993459 : Int32))).toUInt32 >>> ((4 : Int32).toUInt32 &&& Int32.toUInt32 31)).toInt32) &&& (252645135 : Int32)).toUInt32 >>> ((8 : Int32).toUInt32 &&& Int32.toUInt32 31)).toInt32).toUInt32 >>> ((16 : Int32).toUInt32 &&& Int32.toUInt32 31)).toInt32) &&& (63 : Int32))) dJ6_bitCount_0f7a4_51 rfl rfl ?_
  exact x_zret C hr hlk rfl dJ6_bitCount_0f7a4_52 rfl
theorem dX11_person_0 : decode cX11_person 0 = .ok (.aload_n 0, 1) := by decide +kernel
theorem dX11_person_1 : decode cX11_person 1 = .ok (.getfield 22, 3) := by decide +kernel
theorem dX11_person_4 : decode cX11_person 4 = .ok (.getfield 92, 3) := by decide +kernel
theorem dX11_person_7 : decode cX11_person 7 = .ok (.iload_n 1, 1) := by decide +kernel
theorem dX11_person_8 : decode cX11_person 8 = .ok (.invokevirtual 96, 3) := by decide +kernel
theorem dX11_person_11 : decode cX11_person 11 = .ok (.ireturn, 1) := by decide +kernel
set_option maxRecDepth 20000 in
set_option maxHeartbeats 4000000 in
theorem t_person (E : xE) (l : Launch) (ws : va_W) {x xt xk xn xp xtr xr xs xl xpl xse ah ald arm ahr ash arw abr aw th tp te tw pl pa pt pb : Nat} {day sx : Int32} (p_0 : Nat) (k_0 : ws[0]? = some (ob x 10 [.ref xt, .ref xk, .ref xn, .ref xp, .ref xtr, .int 0, .ref xr, .ref xs, .ref xl, .ref xpl, .ref xse, .ref ah, .ref ald, .ref arm, .ref ahr, .ref ash, .ref arw, .ref abr, .ref aw])) (p_1 : Nat) (k_1 : ws[5]? = some (ob xn 8 [.int day, .int sx, .ref th, .ref tp, .ref te, .ref tw, .int 0, .int 0, .int 0, .int 0])) (p_2 : Nat) (k_2 : ws[9]? = some (ob tp 4 [.int 0, .ref pl, .ref pa, .ref pt, .ref pb])) (p0 : Int32) : xI E l yX11_person cX11_person 2 (some .boolean) 3 [.ref x, .int p0] ws (fun r w => r = bI (¬ p0 < 0 ∧ ¬ 8 ≤ p0)) := by
  refine xI_start (lv := [(0, .ref x), (1, .int p0)]) RX11 (by decide) rfl (Nat.le_of_ble_eq_true rfl) rfl (fun p e s m below meth c A C hr hlk => ?_)
  refine x_aload_n C dX11_person_0 rfl 0 rfl rfl ?_
  refine x_get C (ci := 10) (k := 2) 0 k_0 rfl in_X11 (by decide) w_387 rfl dX11_person_1 rfl ?_
  refine x_get C (ci := 8) (k := 3) 5 k_1 rfl in_X9 (by decide) w_204 rfl dX11_person_4 rfl ?_
  refine x_iload_n C dX11_person_7 rfl 1 rfl rfl ?_
  refine x_vi C (As := [.int p0]) (rest := []) (t_People_tell0 E l ws 9 k_2 p0) mf_X5_tell w_447 9 k_2 rfl rfl rfl (Nat.le_of_ble_eq_true rfl) ⟨(Nat.le_of_ble_eq_true rfl), (Nat.le_of_ble_eq_true rfl)⟩ ⟨(Nat.le_of_ble_eq_true rfl), (Nat.le_of_ble_eq_true rfl)⟩ dX11_person_8 rfl (fun r2 w3 h1 => ?_)
  refine x_top h1 ?_
  exact x_zret C hr hlk bI_nar dX11_person_11 (by first | rfl | trivial | (simp [bI]; done) | (simp_all [bI]; done))
theorem dX11_hen_0 : decode cX11_hen 0 = .ok (.iload_n 1, 1) := by decide +kernel
theorem dX11_hen_1 : decode cX11_hen 1 = .ok (.iconst 0, 1) := by decide +kernel
theorem dX11_hen_2 : decode cX11_hen 2 = .ok (.bipush 7, 2) := by decide +kernel
theorem dX11_hen_4 : decode cX11_hen 4 = .ok (.invokestatic 102, 3) := by decide +kernel
theorem dX11_hen_7 : decode cX11_hen 7 = .ok (.ifCond .eq 26, 3) := by decide +kernel
theorem dX11_hen_10 : decode cX11_hen 10 = .ok (.iload_n 2, 1) := by decide +kernel
theorem dX11_hen_11 : decode cX11_hen 11 = .ok (.iconst 0, 1) := by decide +kernel
theorem dX11_hen_12 : decode cX11_hen 12 = .ok (.iconst 3, 1) := by decide +kernel
theorem dX11_hen_13 : decode cX11_hen 13 = .ok (.invokestatic 102, 3) := by decide +kernel
theorem dX11_hen_16 : decode cX11_hen 16 = .ok (.ifCond .eq 17, 3) := by decide +kernel
theorem dX11_hen_19 : decode cX11_hen 19 = .ok (.aload_n 0, 1) := by decide +kernel
theorem dX11_hen_20 : decode cX11_hen 20 = .ok (.getfield 22, 3) := by decide +kernel
theorem dX11_hen_23 : decode cX11_hen 23 = .ok (.getfield 92, 3) := by decide +kernel
theorem dX11_hen_26 : decode cX11_hen 26 = .ok (.iload_n 3, 1) := by decide +kernel
theorem dX11_hen_27 : decode cX11_hen 27 = .ok (.invokevirtual 106, 3) := by decide +kernel
theorem dX11_hen_30 : decode cX11_hen 30 = .ok (.ifCond .ne 5, 3) := by decide +kernel
theorem dX11_hen_33 : decode cX11_hen 33 = .ok (.iconst 0, 1) := by decide +kernel
theorem dX11_hen_34 : decode cX11_hen 34 = .ok (.ireturn, 1) := by decide +kernel
set_option maxRecDepth 20000 in
set_option maxHeartbeats 4000000 in
theorem t_hen (E : xE) (l : Launch) (ws : va_W) {x xt xk xn xp xtr xr xs xl xpl xse ah ald arm ahr ash arw abr aw th tp te tw pl pa pt pb : Nat} {day sx : Int32} (p_0 : Nat) (k_0 : ws[0]? = some (ob x 10 [.ref xt, .ref xk, .ref xn, .ref xp, .ref xtr, .int 0, .ref xr, .ref xs, .ref xl, .ref xpl, .ref xse, .ref ah, .ref ald, .ref arm, .ref ahr, .ref ash, .ref arw, .ref abr, .ref aw])) (p_1 : Nat) (k_1 : ws[5]? = some (ob xn 8 [.int day, .int sx, .ref th, .ref tp, .ref te, .ref tw, .int 0, .int 0, .int 0, .int 0])) (p_2 : Nat) (k_2 : ws[9]? = some (ob tp 4 [.int 0, .ref pl, .ref pa, .ref pt, .ref pb])) (y0 kd ow : Int32) : xI E l yX11_hen cX11_hen 4 (some .boolean) 2 [.ref x, .int y0, .int kd, .int ow] ws (fun r w => r = 0) := by
  refine xI_start (lv := [(0, .ref x), (1, .int y0), (2, .int kd), (3, .int ow)]) RX11 (by decide) rfl (Nat.le_of_ble_eq_true rfl) rfl (fun p e s m below meth c A C hr hlk => ?_)
  refine x_iload_n C dX11_hen_0 rfl 1 rfl rfl ?_
  refine x_iconst C (v := 0) dX11_hen_1 (by decide) rfl ?_
  refine x_bipush C (v := 7) dX11_hen_2 (by decide) rfl ?_
  refine x_si C (As := [.int y0, .int 0, .int 7]) (rest := []) (t_isWithin E l ws y0 0 7) mf_X11_isWithin w_462 rfl rfl (Nat.le_of_ble_eq_true rfl) ⟨(Nat.le_of_ble_eq_true rfl), (Nat.le_of_ble_eq_true rfl)⟩ ⟨(Nat.le_of_ble_eq_true rfl), (Nat.le_of_ble_eq_true rfl)⟩ dX11_hen_4 rfl (fun r2 w3 h1 => ?_)
  obtain ⟨e4, g5⟩ := h1
  refine x_top e4 ?_
  refine x_ws g5 ?_
  refine x_if_eq C (tgt := 33) dX11_hen_7 (by decide) rfl (fun c6 => ?_) (fun c6 => ?_)
  · skip
    have b7 := bI_e0 c6
    refine x_iconst C (v := 0) dX11_hen_33 (by decide) rfl ?_
    exact x_zret C hr hlk rfl dX11_hen_34 (by first | rfl | trivial | (simp [bI, b7]; done) | (simp_all [bI]; done))
  · skip
    have b8 := bI_n0 c6
    refine x_iload_n C dX11_hen_10 rfl 2 rfl rfl ?_
    refine x_iconst C (v := 0) dX11_hen_11 (by decide) rfl ?_
    refine x_iconst C (v := 3) dX11_hen_12 (by decide) rfl ?_
    refine x_si C (As := [.int kd, .int 0, .int 3]) (rest := []) (t_isWithin E l ws kd 0 3) mf_X11_isWithin w_462 rfl rfl (Nat.le_of_ble_eq_true rfl) ⟨(Nat.le_of_ble_eq_true rfl), (Nat.le_of_ble_eq_true rfl)⟩ ⟨(Nat.le_of_ble_eq_true rfl), (Nat.le_of_ble_eq_true rfl)⟩ dX11_hen_13 rfl (fun r10 w11 h9 => ?_)
    obtain ⟨e12, g13⟩ := h9
    refine x_top e12 ?_
    refine x_ws g13 ?_
    refine x_if_eq C (tgt := 33) dX11_hen_16 (by decide) rfl (fun c14 => ?_) (fun c14 => ?_)
    · skip
      have b15 := bI_e0 c14
      refine x_iconst C (v := 0) dX11_hen_33 (by decide) rfl ?_
      exact x_zret C hr hlk rfl dX11_hen_34 (by first | rfl | trivial | (simp [bI, b8, b15]; done) | (simp_all [bI]; done))
    · skip
      have b16 := bI_n0 c14
      refine x_aload_n C dX11_hen_19 rfl 0 rfl rfl ?_
      refine x_get C (ci := 10) (k := 2) 0 k_0 rfl in_X11 (by decide) w_387 rfl dX11_hen_20 rfl ?_
      refine x_get C (ci := 8) (k := 3) 5 k_1 rfl in_X9 (by decide) w_204 rfl dX11_hen_23 rfl ?_
      refine x_iload_n C dX11_hen_26 rfl 3 rfl rfl ?_
      refine x_vi C (As := [.int ow]) (rest := []) (t_People_isTold0 E l ws 9 k_2 ow) mf_X5_isTold w_465 9 k_2 rfl rfl rfl (Nat.le_of_ble_eq_true rfl) ⟨(Nat.le_of_ble_eq_true rfl), (Nat.le_of_ble_eq_true rfl)⟩ ⟨(Nat.le_of_ble_eq_true rfl), (Nat.le_of_ble_eq_true rfl)⟩ dX11_hen_27 rfl (fun r18 w19 h17 => ?_)
      obtain ⟨e20, g21⟩ := h17
      refine x_top e20 ?_
      refine x_ws g21 ?_
      refine x_if_ne C (tgt := 35) dX11_hen_30 (by decide) rfl (fun h => absurd h (by decide)) (fun _ => ?_)
      refine x_iconst C (v := 0) dX11_hen_33 (by decide) rfl ?_
      exact x_zret C hr hlk rfl dX11_hen_34 (by first | rfl | trivial | (simp [bI, b8, b16]; done) | (simp_all [bI]; done))
theorem dX11_fox_0 : decode cX11_fox 0 = .ok (.aload_n 0, 1) := by decide +kernel
theorem dX11_fox_1 : decode cX11_fox 1 = .ok (.getfield 22, 3) := by decide +kernel
theorem dX11_fox_4 : decode cX11_fox 4 = .ok (.getfield 109, 3) := by decide +kernel
theorem dX11_fox_7 : decode cX11_fox 7 = .ok (.iload_n 1, 1) := by decide +kernel
theorem dX11_fox_8 : decode cX11_fox 8 = .ok (.invokevirtual 118, 3) := by decide +kernel
theorem dX11_fox_11 : decode cX11_fox 11 = .ok (.ifCond .ne 5, 3) := by decide +kernel
theorem dX11_fox_14 : decode cX11_fox 14 = .ok (.iconst 0, 1) := by decide +kernel
theorem dX11_fox_15 : decode cX11_fox 15 = .ok (.ireturn, 1) := by decide +kernel
set_option maxRecDepth 20000 in
set_option maxHeartbeats 4000000 in
theorem t_fox (E : xE) (l : Launch) (ws : va_W) {x xt xk xn xp xtr xr xs xl xpl xse ah ald arm ahr ash arw abr aw th tp te tw hk ho : Nat} {day sx : Int32} (p_0 : Nat) (k_0 : ws[0]? = some (ob x 10 [.ref xt, .ref xk, .ref xn, .ref xp, .ref xtr, .int 0, .ref xr, .ref xs, .ref xl, .ref xpl, .ref xse, .ref ah, .ref ald, .ref arm, .ref ahr, .ref ash, .ref arw, .ref abr, .ref aw])) (p_1 : Nat) (k_1 : ws[5]? = some (ob xn 8 [.int day, .int sx, .ref th, .ref tp, .ref te, .ref tw, .int 0, .int 0, .int 0, .int 0])) (p_2 : Nat) (k_2 : ws[6]? = some (ob th 2 [.int 0, .ref hk, .ref ho])) (y0 : Int32) : xI E l yX11_fox cX11_fox 2 (some .boolean) 2 [.ref x, .int y0] ws (fun r w => r = 0) := by
  refine xI_start (lv := [(0, .ref x), (1, .int y0)]) RX11 (by decide) rfl (Nat.le_of_ble_eq_true rfl) rfl (fun p e s m below meth c A C hr hlk => ?_)
  refine x_aload_n C dX11_fox_0 rfl 0 rfl rfl ?_
  refine x_get C (ci := 10) (k := 2) 0 k_0 rfl in_X11 (by decide) w_387 rfl dX11_fox_1 rfl ?_
  refine x_get C (ci := 8) (k := 2) 5 k_1 rfl in_X9 (by decide) w_201 rfl dX11_fox_4 rfl ?_
  refine x_iload_n C dX11_fox_7 rfl 1 rfl rfl ?_
  refine x_vi C (As := [.int y0]) (rest := []) (t_Hens_isTold0 E l ws 6 k_2 y0) mf_X2_isTold w_474 6 k_2 rfl rfl rfl (Nat.le_of_ble_eq_true rfl) ⟨(Nat.le_of_ble_eq_true rfl), (Nat.le_of_ble_eq_true rfl)⟩ ⟨(Nat.le_of_ble_eq_true rfl), (Nat.le_of_ble_eq_true rfl)⟩ dX11_fox_8 rfl (fun r2 w3 h1 => ?_)
  obtain ⟨e4, g5⟩ := h1
  refine x_top e4 ?_
  refine x_ws g5 ?_
  refine x_if_ne C (tgt := 16) dX11_fox_11 (by decide) rfl (fun h => absurd h (by decide)) (fun _ => ?_)
  refine x_iconst C (v := 0) dX11_fox_14 (by decide) rfl ?_
  exact x_zret C hr hlk rfl dX11_fox_15 (by first | rfl | trivial | (simp [bI]; done) | (simp_all [bI]; done))
theorem dX10_tell_0 : decode cX10_tell 0 = .ok (.aload_n 0, 1) := by decide +kernel
theorem dX10_tell_1 : decode cX10_tell 1 = .ok (.dup, 1) := by decide +kernel
theorem dX10_tell_2 : decode cX10_tell 2 = .ok (.getfield 9, 3) := by decide +kernel
theorem dX10_tell_5 : decode cX10_tell 5 = .ok (.iconst 1, 1) := by decide +kernel
theorem dX10_tell_6 : decode cX10_tell 6 = .ok (.iload_n 1, 1) := by decide +kernel
theorem dX10_tell_7 : decode cX10_tell 7 = .ok (.ishl, 1) := by decide +kernel
theorem dX10_tell_8 : decode cX10_tell 8 = .ok (.ior, 1) := by decide +kernel
theorem dX10_tell_9 : decode cX10_tell 9 = .ok (.putfield 9, 3) := by decide +kernel
theorem dX10_tell_12 : decode cX10_tell 12 = .ok (.aload_n 0, 1) := by decide +kernel
theorem dX10_tell_13 : decode cX10_tell 13 = .ok (.getfield 15, 3) := by decide +kernel
theorem dX10_tell_16 : decode cX10_tell 16 = .ok (.iload_n 1, 1) := by decide +kernel
theorem dX10_tell_17 : decode cX10_tell 17 = .ok (.iload_n 2, 1) := by decide +kernel
theorem dX10_tell_18 : decode cX10_tell 18 = .ok (.iastore, 1) := by decide +kernel
theorem dX10_tell_19 : decode cX10_tell 19 = .ok (.aload_n 0, 1) := by decide +kernel
theorem dX10_tell_20 : decode cX10_tell 20 = .ok (.getfield 19, 3) := by decide +kernel
theorem dX10_tell_23 : decode cX10_tell 23 = .ok (.iload_n 1, 1) := by decide +kernel
theorem dX10_tell_24 : decode cX10_tell 24 = .ok (.iconst 0, 1) := by decide +kernel
theorem dX10_tell_25 : decode cX10_tell 25 = .ok (.iastore, 1) := by decide +kernel
theorem dX10_tell_26 : decode cX10_tell 26 = .ok (.aload_n 0, 1) := by decide +kernel
theorem dX10_tell_27 : decode cX10_tell 27 = .ok (.getfield 22, 3) := by decide +kernel
theorem dX10_tell_30 : decode cX10_tell 30 = .ok (.iload_n 1, 1) := by decide +kernel
theorem dX10_tell_31 : decode cX10_tell 31 = .ok (.iload_n 3, 1) := by decide +kernel
theorem dX10_tell_32 : decode cX10_tell 32 = .ok (.iastore, 1) := by decide +kernel
theorem dX10_tell_33 : decode cX10_tell 33 = .ok (.aload_n 0, 1) := by decide +kernel
theorem dX10_tell_34 : decode cX10_tell 34 = .ok (.getfield 25, 3) := by decide +kernel
theorem dX10_tell_37 : decode cX10_tell 37 = .ok (.iload_n 1, 1) := by decide +kernel
theorem dX10_tell_38 : decode cX10_tell 38 = .ok (.iload 4, 2) := by decide +kernel
theorem dX10_tell_40 : decode cX10_tell 40 = .ok (.iastore, 1) := by decide +kernel
theorem dX10_tell_41 : decode cX10_tell 41 = .ok (.aload_n 0, 1) := by decide +kernel
theorem dX10_tell_42 : decode cX10_tell 42 = .ok (.getfield 28, 3) := by decide +kernel
theorem dX10_tell_45 : decode cX10_tell 45 = .ok (.iload_n 1, 1) := by decide +kernel
theorem dX10_tell_46 : decode cX10_tell 46 = .ok (.iconst 0, 1) := by decide +kernel
theorem dX10_tell_47 : decode cX10_tell 47 = .ok (.iastore, 1) := by decide +kernel
theorem dX10_tell_48 : decode cX10_tell 48 = .ok (.return_, 1) := by decide +kernel
set_option maxRecDepth 20000 in
set_option maxHeartbeats 4000000 in
theorem t_Works_tell (E : xE) (l : Launch) (ws : va_W) {tw wn wd ww wb wo : Nat} {f1 f2 f3 f4 f5 : Nat → Int32} (p_0 : Nat) (k_0 : ws[21]? = some (ob tw 9 [.int 0, .ref wn, .ref wd, .ref ww, .ref wb, .ref wo])) (p_1 : Nat) (k_1 : ws[22]? = some (iA E wn 8 f1)) (p_2 : Nat) (k_2 : ws[23]? = some (iA E wd 8 f2)) (p_3 : Nat) (k_3 : ws[24]? = some (iA E ww 8 f3)) (p_4 : Nat) (k_4 : ws[25]? = some (iA E wb 8 f4)) (p_5 : Nat) (k_5 : ws[26]? = some (iA E wo 8 f5)) (i0 nd wo0 by0 : Int32) (hi : vp_in i0 8) : xV E l yX10_tell cX10_tell 5 0 0 0 [.ref tw, .int i0, .int nd, .int wo0, .int by0] ws (fun w => True) := by
  refine xV_start (lv := [(0, .ref tw), (1, .int i0), (2, .int nd), (3, .int wo0), (4, .int by0)]) RX10 (by decide) rfl (Nat.le_of_ble_eq_true rfl) rfl (fun p e s m below meth c A C hr hlk hin => ?_)
  refine x_aload_n C dX10_tell_0 rfl 0 rfl rfl ?_
  refine x_dup C dX10_tell_1 rfl rfl ?_
  refine x_get C (ci := 9) (k := 0) 21 k_0 rfl in_X10 (by decide) w_168 rfl dX10_tell_2 rfl ?_
  refine x_iconst C (v := 1) dX10_tell_5 (by decide) rfl ?_
  refine x_iload_n C dX10_tell_6 rfl 1 rfl rfl ?_
  refine x_ishl C (v := ((1 : Int32) <<< (i0 &&& 31))) dX10_tell_7 rfl rfl ?_
  refine x_ior C (v := ((0 : Int32) ||| ((1 : Int32) <<< (i0 &&& 31)))) dX10_tell_8 rfl rfl ?_
  obtain ⟨w1, hw2⟩ : ∃ w : va_W, w = List.set ws 21 (ob tw 9 [.int ((0 : Int32) ||| ((1 : Int32) <<< (i0 &&& 31))), .ref wn, .ref wd, .ref ww, .ref wb, .ref wo]) := ⟨_, rfl⟩
  refine x_put C (ci := 9) (k := 0) (ty := .int) 21 k_0 rfl in_X10 tyX10 tyX10_ok nmX10 (by decide) w_168 rfl rfl rfl rfl (Nat.le_of_ble_eq_true rfl) hw2.symm dX10_tell_9 rfl ?_
  have k3 : w1[21]? = some (ob tw 9 [.int ((0 : Int32) ||| ((1 : Int32) <<< (i0 &&& 31))), .ref wn, .ref wd, .ref ww, .ref wb, .ref wo]) := by rw [hw2]; exact set_eq k_0
  have k4 : w1[22]? = some (iA E wn 8 f1) := by rw [hw2]; exact set_ne k_1 (by decide)
  have k5 : w1[23]? = some (iA E wd 8 f2) := by rw [hw2]; exact set_ne k_2 (by decide)
  have k6 : w1[24]? = some (iA E ww 8 f3) := by rw [hw2]; exact set_ne k_3 (by decide)
  have k7 : w1[25]? = some (iA E wb 8 f4) := by rw [hw2]; exact set_ne k_4 (by decide)
  have k8 : w1[26]? = some (iA E wo 8 f5) := by rw [hw2]; exact set_ne k_5 (by decide)
  refine x_aload_n C dX10_tell_12 rfl 0 rfl rfl ?_
  refine x_get C (ci := 9) (k := 1) 21 k3 rfl in_X10 (by decide) w_170 rfl dX10_tell_13 rfl ?_
  refine x_iload_n C dX10_tell_16 rfl 1 rfl rfl ?_
  refine x_iload_n C dX10_tell_17 rfl 2 rfl rfl ?_
  obtain ⟨w9, hw10⟩ : ∃ w : va_W, w = List.set w1 22 (iA E wn 8 (upd f1 i0.toNatClampNeg nd)) := ⟨_, rfl⟩
  refine x_iast C 22 k4 hi hw10.symm dX10_tell_18 rfl ?_
  have k11 : w9[21]? = some (ob tw 9 [.int ((0 : Int32) ||| ((1 : Int32) <<< (i0 &&& 31))), .ref wn, .ref wd, .ref ww, .ref wb, .ref wo]) := by rw [hw10]; exact set_ne k3 (by decide)
  have k12 : w9[22]? = some (iA E wn 8 (upd f1 i0.toNatClampNeg nd)) := by rw [hw10]; exact set_eq k4
  have k13 : w9[23]? = some (iA E wd 8 f2) := by rw [hw10]; exact set_ne k5 (by decide)
  have k14 : w9[24]? = some (iA E ww 8 f3) := by rw [hw10]; exact set_ne k6 (by decide)
  have k15 : w9[25]? = some (iA E wb 8 f4) := by rw [hw10]; exact set_ne k7 (by decide)
  have k16 : w9[26]? = some (iA E wo 8 f5) := by rw [hw10]; exact set_ne k8 (by decide)
  refine x_aload_n C dX10_tell_19 rfl 0 rfl rfl ?_
  refine x_get C (ci := 9) (k := 2) 21 k11 rfl in_X10 (by decide) w_173 rfl dX10_tell_20 rfl ?_
  refine x_iload_n C dX10_tell_23 rfl 1 rfl rfl ?_
  refine x_iconst C (v := 0) dX10_tell_24 (by decide) rfl ?_
  obtain ⟨w17, hw18⟩ : ∃ w : va_W, w = List.set w9 23 (iA E wd 8 (upd f2 i0.toNatClampNeg 0)) := ⟨_, rfl⟩
  refine x_iast C 23 k13 hi hw18.symm dX10_tell_25 rfl ?_
  have k19 : w17[21]? = some (ob tw 9 [.int ((0 : Int32) ||| ((1 : Int32) <<< (i0 &&& 31))), .ref wn, .ref wd, .ref ww, .ref wb, .ref wo]) := by rw [hw18]; exact set_ne k11 (by decide)
  have k20 : w17[22]? = some (iA E wn 8 (upd f1 i0.toNatClampNeg nd)) := by rw [hw18]; exact set_ne k12 (by decide)
  have k21 : w17[23]? = some (iA E wd 8 (upd f2 i0.toNatClampNeg 0)) := by rw [hw18]; exact set_eq k13
  have k22 : w17[24]? = some (iA E ww 8 f3) := by rw [hw18]; exact set_ne k14 (by decide)
  have k23 : w17[25]? = some (iA E wb 8 f4) := by rw [hw18]; exact set_ne k15 (by decide)
  have k24 : w17[26]? = some (iA E wo 8 f5) := by rw [hw18]; exact set_ne k16 (by decide)
  refine x_aload_n C dX10_tell_26 rfl 0 rfl rfl ?_
  refine x_get C (ci := 9) (k := 3) 21 k19 rfl in_X10 (by decide) w_176 rfl dX10_tell_27 rfl ?_
  refine x_iload_n C dX10_tell_30 rfl 1 rfl rfl ?_
  refine x_iload_n C dX10_tell_31 rfl 3 rfl rfl ?_
  obtain ⟨w25, hw26⟩ : ∃ w : va_W, w = List.set w17 24 (iA E ww 8 (upd f3 i0.toNatClampNeg wo0)) := ⟨_, rfl⟩
  refine x_iast C 24 k22 hi hw26.symm dX10_tell_32 rfl ?_
  have k27 : w25[21]? = some (ob tw 9 [.int ((0 : Int32) ||| ((1 : Int32) <<< (i0 &&& 31))), .ref wn, .ref wd, .ref ww, .ref wb, .ref wo]) := by rw [hw26]; exact set_ne k19 (by decide)
  have k28 : w25[22]? = some (iA E wn 8 (upd f1 i0.toNatClampNeg nd)) := by rw [hw26]; exact set_ne k20 (by decide)
  have k29 : w25[23]? = some (iA E wd 8 (upd f2 i0.toNatClampNeg 0)) := by rw [hw26]; exact set_ne k21 (by decide)
  have k30 : w25[24]? = some (iA E ww 8 (upd f3 i0.toNatClampNeg wo0)) := by rw [hw26]; exact set_eq k22
  have k31 : w25[25]? = some (iA E wb 8 f4) := by rw [hw26]; exact set_ne k23 (by decide)
  have k32 : w25[26]? = some (iA E wo 8 f5) := by rw [hw26]; exact set_ne k24 (by decide)
  refine x_aload_n C dX10_tell_33 rfl 0 rfl rfl ?_
  refine x_get C (ci := 9) (k := 4) 21 k27 rfl in_X10 (by decide) w_179 rfl dX10_tell_34 rfl ?_
  refine x_iload_n C dX10_tell_37 rfl 1 rfl rfl ?_
  refine x_iload C dX10_tell_38 4 rfl rfl ?_
  obtain ⟨w33, hw34⟩ : ∃ w : va_W, w = List.set w25 25 (iA E wb 8 (upd f4 i0.toNatClampNeg by0)) := ⟨_, rfl⟩
  refine x_iast C 25 k31 hi hw34.symm dX10_tell_40 rfl ?_
  have k35 : w33[21]? = some (ob tw 9 [.int ((0 : Int32) ||| ((1 : Int32) <<< (i0 &&& 31))), .ref wn, .ref wd, .ref ww, .ref wb, .ref wo]) := by rw [hw34]; exact set_ne k27 (by decide)
  have k36 : w33[22]? = some (iA E wn 8 (upd f1 i0.toNatClampNeg nd)) := by rw [hw34]; exact set_ne k28 (by decide)
  have k37 : w33[23]? = some (iA E wd 8 (upd f2 i0.toNatClampNeg 0)) := by rw [hw34]; exact set_ne k29 (by decide)
  have k38 : w33[24]? = some (iA E ww 8 (upd f3 i0.toNatClampNeg wo0)) := by rw [hw34]; exact set_ne k30 (by decide)
  have k39 : w33[25]? = some (iA E wb 8 (upd f4 i0.toNatClampNeg by0)) := by rw [hw34]; exact set_eq k31
  have k40 : w33[26]? = some (iA E wo 8 f5) := by rw [hw34]; exact set_ne k32 (by decide)
  refine x_aload_n C dX10_tell_41 rfl 0 rfl rfl ?_
  refine x_get C (ci := 9) (k := 5) 21 k35 rfl in_X10 (by decide) w_181 rfl dX10_tell_42 rfl ?_
  refine x_iload_n C dX10_tell_45 rfl 1 rfl rfl ?_
  refine x_iconst C (v := 0) dX10_tell_46 (by decide) rfl ?_
  obtain ⟨w41, hw42⟩ : ∃ w : va_W, w = List.set w33 26 (iA E wo 8 (upd f5 i0.toNatClampNeg 0)) := ⟨_, rfl⟩
  refine x_iast C 26 k40 hi hw42.symm dX10_tell_47 rfl ?_
  have k43 : w41[21]? = some (ob tw 9 [.int ((0 : Int32) ||| ((1 : Int32) <<< (i0 &&& 31))), .ref wn, .ref wd, .ref ww, .ref wb, .ref wo]) := by rw [hw42]; exact set_ne k35 (by decide)
  have k44 : w41[22]? = some (iA E wn 8 (upd f1 i0.toNatClampNeg nd)) := by rw [hw42]; exact set_ne k36 (by decide)
  have k45 : w41[23]? = some (iA E wd 8 (upd f2 i0.toNatClampNeg 0)) := by rw [hw42]; exact set_ne k37 (by decide)
  have k46 : w41[24]? = some (iA E ww 8 (upd f3 i0.toNatClampNeg wo0)) := by rw [hw42]; exact set_ne k38 (by decide)
  have k47 : w41[25]? = some (iA E wb 8 (upd f4 i0.toNatClampNeg by0)) := by rw [hw42]; exact set_ne k39 (by decide)
  have k48 : w41[26]? = some (iA E wo 8 (upd f5 i0.toNatClampNeg 0)) := by rw [hw42]; exact set_eq k40
  exact x_vret C hr hlk dX10_tell_48 trivial
theorem dX11_work_0 : decode cX11_work 0 = .ok (.iload_n 1, 1) := by decide +kernel
theorem dX11_work_1 : decode cX11_work 1 = .ok (.iconst 0, 1) := by decide +kernel
theorem dX11_work_2 : decode cX11_work 2 = .ok (.bipush 7, 2) := by decide +kernel
theorem dX11_work_4 : decode cX11_work 4 = .ok (.invokestatic 102, 3) := by decide +kernel
theorem dX11_work_7 : decode cX11_work 7 = .ok (.ifCond .eq 37, 3) := by decide +kernel
theorem dX11_work_10 : decode cX11_work 10 = .ok (.iload_n 2, 1) := by decide +kernel
theorem dX11_work_11 : decode cX11_work 11 = .ok (.iconst 1, 1) := by decide +kernel
theorem dX11_work_12 : decode cX11_work 12 = .ok (.sipush 999, 3) := by decide +kernel
theorem dX11_work_15 : decode cX11_work 15 = .ok (.invokestatic 102, 3) := by decide +kernel
theorem dX11_work_18 : decode cX11_work 18 = .ok (.ifCond .eq 26, 3) := by decide +kernel
theorem dX11_work_21 : decode cX11_work 21 = .ok (.iload_n 3, 1) := by decide +kernel
theorem dX11_work_22 : decode cX11_work 22 = .ok (.iconst 0, 1) := by decide +kernel
theorem dX11_work_23 : decode cX11_work 23 = .ok (.sipush 999, 3) := by decide +kernel
theorem dX11_work_26 : decode cX11_work 26 = .ok (.invokestatic 102, 3) := by decide +kernel
theorem dX11_work_29 : decode cX11_work 29 = .ok (.ifCond .eq 15, 3) := by decide +kernel
theorem dX11_work_32 : decode cX11_work 32 = .ok (.iload 4, 2) := by decide +kernel
theorem dX11_work_34 : decode cX11_work 34 = .ok (.iconst 0, 1) := by decide +kernel
theorem dX11_work_35 : decode cX11_work 35 = .ok (.sipush 9999, 3) := by decide +kernel
theorem dX11_work_38 : decode cX11_work 38 = .ok (.invokestatic 102, 3) := by decide +kernel
theorem dX11_work_41 : decode cX11_work 41 = .ok (.ifCond .ne 5, 3) := by decide +kernel
theorem dX11_work_44 : decode cX11_work 44 = .ok (.iconst 0, 1) := by decide +kernel
theorem dX11_work_45 : decode cX11_work 45 = .ok (.ireturn, 1) := by decide +kernel
theorem dX11_work_46 : decode cX11_work 46 = .ok (.aload_n 0, 1) := by decide +kernel
theorem dX11_work_47 : decode cX11_work 47 = .ok (.getfield 22, 3) := by decide +kernel
theorem dX11_work_50 : decode cX11_work 50 = .ok (.getfield 123, 3) := by decide +kernel
theorem dX11_work_53 : decode cX11_work 53 = .ok (.iload_n 1, 1) := by decide +kernel
theorem dX11_work_54 : decode cX11_work 54 = .ok (.iload_n 2, 1) := by decide +kernel
theorem dX11_work_55 : decode cX11_work 55 = .ok (.iload_n 3, 1) := by decide +kernel
theorem dX11_work_56 : decode cX11_work 56 = .ok (.iload 4, 2) := by decide +kernel
theorem dX11_work_58 : decode cX11_work 58 = .ok (.invokevirtual 127, 3) := by decide +kernel
theorem dX11_work_61 : decode cX11_work 61 = .ok (.iconst 1, 1) := by decide +kernel
theorem dX11_work_62 : decode cX11_work 62 = .ok (.ireturn, 1) := by decide +kernel
set_option maxRecDepth 20000 in
set_option maxHeartbeats 4000000 in
theorem t_work (E : xE) (l : Launch) (ws : va_W) {x xt xk xn xp xtr xr xs xl xpl xse ah ald arm ahr ash arw abr aw th tp te tw wn wd ww wb wo : Nat} {day sx : Int32} {f1 f2 f3 f4 f5 : Nat → Int32} (p_0 : Nat) (k_0 : ws[0]? = some (ob x 10 [.ref xt, .ref xk, .ref xn, .ref xp, .ref xtr, .int 0, .ref xr, .ref xs, .ref xl, .ref xpl, .ref xse, .ref ah, .ref ald, .ref arm, .ref ahr, .ref ash, .ref arw, .ref abr, .ref aw])) (p_1 : Nat) (k_1 : ws[5]? = some (ob xn 8 [.int day, .int sx, .ref th, .ref tp, .ref te, .ref tw, .int 0, .int 0, .int 0, .int 0])) (p_2 : Nat) (k_2 : ws[21]? = some (ob tw 9 [.int 0, .ref wn, .ref wd, .ref ww, .ref wb, .ref wo])) (p_3 : Nat) (k_3 : ws[22]? = some (iA E wn 8 f1)) (p_4 : Nat) (k_4 : ws[23]? = some (iA E wd 8 f2)) (p_5 : Nat) (k_5 : ws[24]? = some (iA E ww 8 f3)) (p_6 : Nat) (k_6 : ws[25]? = some (iA E wb 8 f4)) (p_7 : Nat) (k_7 : ws[26]? = some (iA E wo 8 f5)) (i0 nd wo0 by0 : Int32) : xI E l yX11_work cX11_work 5 (some .boolean) 1 [.ref x, .int i0, .int nd, .int wo0, .int by0] ws (fun r w => r = bI (wth i0 0 7 ∧ wth nd 1 999 ∧ wth wo0 0 999 ∧ wth by0 0 9999)) := by
  refine xI_start (lv := [(0, .ref x), (1, .int i0), (2, .int nd), (3, .int wo0), (4, .int by0)]) RX11 (by decide) rfl (Nat.le_of_ble_eq_true rfl) rfl (fun p e s m below meth c A C hr hlk => ?_)
  refine x_iload_n C dX11_work_0 rfl 1 rfl rfl ?_
  refine x_iconst C (v := 0) dX11_work_1 (by decide) rfl ?_
  refine x_bipush C (v := 7) dX11_work_2 (by decide) rfl ?_
  refine x_si C (As := [.int i0, .int 0, .int 7]) (rest := []) (t_isWithin E l ws i0 0 7) mf_X11_isWithin w_462 rfl rfl (Nat.le_of_ble_eq_true rfl) ⟨(Nat.le_of_ble_eq_true rfl), (Nat.le_of_ble_eq_true rfl)⟩ ⟨(Nat.le_of_ble_eq_true rfl), (Nat.le_of_ble_eq_true rfl)⟩ dX11_work_4 rfl (fun r2 w3 h1 => ?_)
  obtain ⟨e4, g5⟩ := h1
  refine x_top e4 ?_
  refine x_ws g5 ?_
  refine x_if_eq C (tgt := 44) dX11_work_7 (by decide) rfl (fun c6 => ?_) (fun c6 => ?_)
  · skip
    have b7 := bI_e0 c6
    refine x_iconst C (v := 0) dX11_work_44 (by decide) rfl ?_
    exact x_zret C hr hlk rfl dX11_work_45 (by simp [bI, b7])
  · skip
    have b8 := bI_n0 c6
    refine x_iload_n C dX11_work_10 rfl 2 rfl rfl ?_
    refine x_iconst C (v := 1) dX11_work_11 (by decide) rfl ?_
    refine x_sipush C (v := 999) dX11_work_12 (by decide) rfl ?_
    refine x_si C (As := [.int nd, .int 1, .int 999]) (rest := []) (t_isWithin E l ws nd 1 999) mf_X11_isWithin w_462 rfl rfl (Nat.le_of_ble_eq_true rfl) ⟨(Nat.le_of_ble_eq_true rfl), (Nat.le_of_ble_eq_true rfl)⟩ ⟨(Nat.le_of_ble_eq_true rfl), (Nat.le_of_ble_eq_true rfl)⟩ dX11_work_15 rfl (fun r10 w11 h9 => ?_)
    obtain ⟨e12, g13⟩ := h9
    refine x_top e12 ?_
    refine x_ws g13 ?_
    refine x_if_eq C (tgt := 44) dX11_work_18 (by decide) rfl (fun c14 => ?_) (fun c14 => ?_)
    · skip
      have b15 := bI_e0 c14
      refine x_iconst C (v := 0) dX11_work_44 (by decide) rfl ?_
      exact x_zret C hr hlk rfl dX11_work_45 (by simp [bI, b8, b15])
    · skip
      have b16 := bI_n0 c14
      refine x_iload_n C dX11_work_21 rfl 3 rfl rfl ?_
      refine x_iconst C (v := 0) dX11_work_22 (by decide) rfl ?_
      refine x_sipush C (v := 999) dX11_work_23 (by decide) rfl ?_
      refine x_si C (As := [.int wo0, .int 0, .int 999]) (rest := []) (t_isWithin E l ws wo0 0 999) mf_X11_isWithin w_462 rfl rfl (Nat.le_of_ble_eq_true rfl) ⟨(Nat.le_of_ble_eq_true rfl), (Nat.le_of_ble_eq_true rfl)⟩ ⟨(Nat.le_of_ble_eq_true rfl), (Nat.le_of_ble_eq_true rfl)⟩ dX11_work_26 rfl (fun r18 w19 h17 => ?_)
      obtain ⟨e20, g21⟩ := h17
      refine x_top e20 ?_
      refine x_ws g21 ?_
      refine x_if_eq C (tgt := 44) dX11_work_29 (by decide) rfl (fun c22 => ?_) (fun c22 => ?_)
      · skip
        have b23 := bI_e0 c22
        refine x_iconst C (v := 0) dX11_work_44 (by decide) rfl ?_
        exact x_zret C hr hlk rfl dX11_work_45 (by simp [bI, b8, b16, b23])
      · skip
        have b24 := bI_n0 c22
        refine x_iload C dX11_work_32 4 rfl rfl ?_
        refine x_iconst C (v := 0) dX11_work_34 (by decide) rfl ?_
        refine x_sipush C (v := 9999) dX11_work_35 (by decide) rfl ?_
        refine x_si C (As := [.int by0, .int 0, .int 9999]) (rest := []) (t_isWithin E l ws by0 0 9999) mf_X11_isWithin w_462 rfl rfl (Nat.le_of_ble_eq_true rfl) ⟨(Nat.le_of_ble_eq_true rfl), (Nat.le_of_ble_eq_true rfl)⟩ ⟨(Nat.le_of_ble_eq_true rfl), (Nat.le_of_ble_eq_true rfl)⟩ dX11_work_38 rfl (fun r26 w27 h25 => ?_)
        obtain ⟨e28, g29⟩ := h25
        refine x_top e28 ?_
        refine x_ws g29 ?_
        refine x_if_ne C (tgt := 46) dX11_work_41 (by decide) rfl (fun c30 => ?_) (fun c30 => ?_)
        · skip
          have b31 := bI_n0 c30
          refine x_aload_n C dX11_work_46 rfl 0 rfl rfl ?_
          refine x_get C (ci := 10) (k := 2) 0 k_0 rfl in_X11 (by decide) w_387 rfl dX11_work_47 rfl ?_
          refine x_get C (ci := 8) (k := 5) 5 k_1 rfl in_X9 (by decide) w_213 rfl dX11_work_50 rfl ?_
          refine x_iload_n C dX11_work_53 rfl 1 rfl rfl ?_
          refine x_iload_n C dX11_work_54 rfl 2 rfl rfl ?_
          refine x_iload_n C dX11_work_55 rfl 3 rfl rfl ?_
          refine x_iload C dX11_work_56 4 rfl rfl ?_
          refine x_vv C (As := [.int i0, .int nd, .int wo0, .int by0]) (rest := []) (t_Works_tell E l ws 21 k_2 22 k_3 23 k_4 24 k_5 25 k_6 26 k_7 i0 nd wo0 by0 (vp_in_w b8)) mf_X10_tell w_483 21 k_2 rfl rfl rfl (Nat.le_of_ble_eq_true rfl) ⟨(Nat.le_of_ble_eq_true rfl), (Nat.le_of_ble_eq_true rfl)⟩ ⟨(Nat.le_of_ble_eq_true rfl), (Nat.le_of_ble_eq_true rfl)⟩ dX11_work_58 rfl (fun w34 h32 => ?_)
          refine x_iconst C (v := 1) dX11_work_61 (by decide) rfl ?_
          exact x_zret C hr hlk rfl dX11_work_62 (by simp [bI, b8, b16, b24, b31])
        · skip
          have b35 := bI_e0 c30
          refine x_iconst C (v := 0) dX11_work_44 (by decide) rfl ?_
          exact x_zret C hr hlk rfl dX11_work_45 (by simp [bI, b8, b16, b24, b35])
theorem dX11_clean_0 : decode cX11_clean 0 = .ok (.aload_n 0, 1) := by decide +kernel
theorem dX11_clean_1 : decode cX11_clean 1 = .ok (.getfield 22, 3) := by decide +kernel
theorem dX11_clean_4 : decode cX11_clean 4 = .ok (.getfield 132, 3) := by decide +kernel
theorem dX11_clean_7 : decode cX11_clean 7 = .ok (.invokevirtual 136, 3) := by decide +kernel
theorem dX11_clean_10 : decode cX11_clean 10 = .ok (.ireturn, 1) := by decide +kernel
set_option maxRecDepth 20000 in
set_option maxHeartbeats 4000000 in
theorem t_clean (E : xE) (l : Launch) (ws : va_W) {x xt xk xn xp xtr xr xs xl xpl xse ah ald arm ahr ash arw abr aw th tp te tw em el ey eo eb es : Nat} {day sx : Int32} (p_0 : Nat) (k_0 : ws[0]? = some (ob x 10 [.ref xt, .ref xk, .ref xn, .ref xp, .ref xtr, .int 0, .ref xr, .ref xs, .ref xl, .ref xpl, .ref xse, .ref ah, .ref ald, .ref arm, .ref ahr, .ref ash, .ref arw, .ref abr, .ref aw])) (p_1 : Nat) (k_1 : ws[5]? = some (ob xn 8 [.int day, .int sx, .ref th, .ref tp, .ref te, .ref tw, .int 0, .int 0, .int 0, .int 0])) (p_2 : Nat) (k_2 : ws[14]? = some (ob te 1 [.int 0, .ref em, .ref el, .ref ey, .ref eo, .ref eb, .ref es])) : xI E l yX11_clean cX11_clean 1 (some .int) 1 [.ref x] ws (fun r w => r = 0) := by
  refine xI_start (lv := [(0, .ref x)]) RX11 (by decide) rfl (Nat.le_of_ble_eq_true rfl) rfl (fun p e s m below meth c A C hr hlk => ?_)
  refine x_aload_n C dX11_clean_0 rfl 0 rfl rfl ?_
  refine x_get C (ci := 10) (k := 2) 0 k_0 rfl in_X11 (by decide) w_387 rfl dX11_clean_1 rfl ?_
  refine x_get C (ci := 8) (k := 4) 5 k_1 rfl in_X9 (by decide) w_209 rfl dX11_clean_4 rfl ?_
  refine x_vi C (As := []) (rest := []) (t_Eggs_sweepOut0 E l ws 14 k_2) mf_X1_sweepOut w_491 14 k_2 rfl rfl rfl (Nat.le_of_ble_eq_true rfl) ⟨(Nat.le_of_ble_eq_true rfl), (Nat.le_of_ble_eq_true rfl)⟩ ⟨(Nat.le_of_ble_eq_true rfl), (Nat.le_of_ble_eq_true rfl)⟩ dX11_clean_7 rfl (fun r2 w3 h1 => ?_)
  refine x_top h1 ?_
  exact x_zret C hr hlk rfl dX11_clean_10 (by first | rfl | trivial | (simp [bI]; done) | (simp_all [bI]; done))
theorem dX8_holds_0 : decode cX8_holds 0 = .ok (.iload_n 1, 1) := by decide +kernel
theorem dX8_holds_1 : decode cX8_holds 1 = .ok (.iload_n 2, 1) := by decide +kernel
theorem dX8_holds_2 : decode cX8_holds 2 = .ok (.if_icmp .lt 23, 3) := by decide +kernel
theorem dX8_holds_5 : decode cX8_holds 5 = .ok (.iload_n 1, 1) := by decide +kernel
theorem dX8_holds_6 : decode cX8_holds 6 = .ok (.iload_n 3, 1) := by decide +kernel
theorem dX8_holds_7 : decode cX8_holds 7 = .ok (.if_icmp .gt 18, 3) := by decide +kernel
theorem dX8_holds_10 : decode cX8_holds 10 = .ok (.iload_n 1, 1) := by decide +kernel
theorem dX8_holds_11 : decode cX8_holds 11 = .ok (.iload 4, 2) := by decide +kernel
theorem dX8_holds_13 : decode cX8_holds 13 = .ok (.imul, 1) := by decide +kernel
theorem dX8_holds_14 : decode cX8_holds 14 = .ok (.aload_n 0, 1) := by decide +kernel
theorem dX8_holds_15 : decode cX8_holds 15 = .ok (.getfield 15, 3) := by decide +kernel
theorem dX8_holds_18 : decode cX8_holds 18 = .ok (.if_icmp .gt 7, 3) := by decide +kernel
theorem dX8_holds_25 : decode cX8_holds 25 = .ok (.iconst 0, 1) := by decide +kernel
theorem dX8_holds_26 : decode cX8_holds 26 = .ok (.ireturn, 1) := by decide +kernel
set_option maxRecDepth 20000 in
set_option maxHeartbeats 4000000 in
theorem t_holds0 (E : xE) (l : Launch) (ws : va_W) {xt tb : Nat} (p_0 : Nat) (k_0 : ws[1]? = some (ob xt 7 [.ref tb, .int 0, .int 0, .int 0, .int 0])) (n lo hi k0 : Int32) (hz : ¬ n < lo → ¬ hi < n → 0 < n * k0) : xI E l yX8_holds cX8_holds 5 (some .boolean) 0 [.ref xt, .int n, .int lo, .int hi, .int k0] ws (fun r w => r = 0 ∧ w = ws) := by
  refine xI_start (lv := [(0, .ref xt), (1, .int n), (2, .int lo), (3, .int hi), (4, .int k0)]) RX8 (by decide) rfl (Nat.le_of_ble_eq_true rfl) rfl (fun p e s m below meth c A C hr hlk => ?_)
  refine x_iload_n C dX8_holds_0 rfl 1 rfl rfl ?_
  refine x_iload_n C dX8_holds_1 rfl 2 rfl rfl ?_
  refine x_icmp_lt C (tgt := 25) dX8_holds_2 (by decide) rfl (fun c1 => ?_) (fun c1 => ?_)
  · skip
    refine x_iconst C (v := 0) dX8_holds_25 (by decide) rfl ?_
    exact x_zret C hr hlk rfl dX8_holds_26 ⟨by first | rfl | (simp [bI, c1]; done) | (simp_all [bI]; done), rfl⟩
  · skip
    refine x_iload_n C dX8_holds_5 rfl 1 rfl rfl ?_
    refine x_iload_n C dX8_holds_6 rfl 3 rfl rfl ?_
    refine x_icmp_gt C (tgt := 25) dX8_holds_7 (by decide) rfl (fun c2 => ?_) (fun c2 => ?_)
    · skip
      refine x_iconst C (v := 0) dX8_holds_25 (by decide) rfl ?_
      exact x_zret C hr hlk rfl dX8_holds_26 ⟨by first | rfl | (simp [bI, c1, c2]; done) | (simp_all [bI]; done), rfl⟩
    · skip
      refine x_iload_n C dX8_holds_10 rfl 1 rfl rfl ?_
      refine x_iload C dX8_holds_11 4 rfl rfl ?_
      refine x_imul C (v := (n * k0)) dX8_holds_13 rfl rfl ?_
      refine x_aload_n C dX8_holds_14 rfl 0 rfl rfl ?_
      refine x_get C (ci := 7) (k := 1) 1 k_0 rfl in_X8 (by decide) w_37 rfl dX8_holds_15 rfl ?_
      refine x_icmp_gt C (tgt := 25) dX8_holds_18 (by decide) rfl (fun _ => ?_) (fun h => absurd (hz c1 c2) h)
      refine x_iconst C (v := 0) dX8_holds_25 (by decide) rfl ?_
      exact x_zret C hr hlk rfl dX8_holds_26 ⟨by first | rfl | (simp [bI, c1, c2]; done) | (simp_all [bI]; done), rfl⟩
theorem dX11_law_0 : decode cX11_law 0 = .ok (.aload_n 0, 1) := by decide +kernel
theorem dX11_law_1 : decode cX11_law 1 = .ok (.getfield 10, 3) := by decide +kernel
theorem dX11_law_4 : decode cX11_law 4 = .ok (.iload_n 1, 1) := by decide +kernel
theorem dX11_law_5 : decode cX11_law 5 = .ok (.iconst 1, 1) := by decide +kernel
theorem dX11_law_6 : decode cX11_law 6 = .ok (.sipush 240, 3) := by decide +kernel
theorem dX11_law_9 : decode cX11_law 9 = .ok (.iconst 1, 1) := by decide +kernel
theorem dX11_law_10 : decode cX11_law 10 = .ok (.invokevirtual 149, 3) := by decide +kernel
theorem dX11_law_13 : decode cX11_law 13 = .ok (.ifCond .ne 5, 3) := by decide +kernel
theorem dX11_law_16 : decode cX11_law 16 = .ok (.iconst (-1), 1) := by decide +kernel
theorem dX11_law_17 : decode cX11_law 17 = .ok (.ireturn, 1) := by decide +kernel
set_option maxRecDepth 20000 in
set_option maxHeartbeats 4000000 in
theorem t_law (E : xE) (l : Launch) (ws : va_W) {x xt xk xn xp xtr xr xs xl xpl xse ah ald arm ahr ash arw abr aw tb : Nat} (p_0 : Nat) (k_0 : ws[0]? = some (ob x 10 [.ref xt, .ref xk, .ref xn, .ref xp, .ref xtr, .int 0, .ref xr, .ref xs, .ref xl, .ref xpl, .ref xse, .ref ah, .ref ald, .ref arm, .ref ahr, .ref ash, .ref arw, .ref abr, .ref aw])) (p_1 : Nat) (k_1 : ws[1]? = some (ob xt 7 [.ref tb, .int 0, .int 0, .int 0, .int 0])) (n : Int32) : xI E l yX11_law cX11_law 4 (some .int) 1 [.ref x, .int n] ws (fun r w => r = -1) := by
  refine xI_start (lv := [(0, .ref x), (1, .int n)]) RX11 (by decide) rfl (Nat.le_of_ble_eq_true rfl) rfl (fun p e s m below meth c A C hr hlk => ?_)
  refine x_aload_n C dX11_law_0 rfl 0 rfl rfl ?_
  refine x_get C (ci := 10) (k := 0) 0 k_0 rfl in_X11 (by decide) w_385 rfl dX11_law_1 rfl ?_
  refine x_iload_n C dX11_law_4 rfl 1 rfl rfl ?_
  refine x_iconst C (v := 1) dX11_law_5 (by decide) rfl ?_
  refine x_sipush C (v := 240) dX11_law_6 (by decide) rfl ?_
  refine x_iconst C (v := 1) dX11_law_9 (by decide) rfl ?_
  refine x_vi C (As := [.int n, .int 1, .int 240, .int 1]) (rest := []) (t_holds0 E l ws 1 k_1 n 1 240 1 (hold0 (a := 1) (b := 240) (by decide) (by decide) (fun j h g => hold1 j (by omega) g))) mf_X8_holds w_507 1 k_1 rfl rfl rfl (Nat.le_of_ble_eq_true rfl) ⟨(Nat.le_of_ble_eq_true rfl), (Nat.le_of_ble_eq_true rfl)⟩ ⟨(Nat.le_of_ble_eq_true rfl), (Nat.le_of_ble_eq_true rfl)⟩ dX11_law_10 rfl (fun r2 w3 h1 => ?_)
  obtain ⟨e4, g5⟩ := h1
  refine x_top e4 ?_
  refine x_ws g5 ?_
  refine x_if_ne C (tgt := 18) dX11_law_13 (by decide) rfl (fun h => absurd h (by decide)) (fun _ => ?_)
  refine x_iconst C (v := (-1)) dX11_law_16 (by decide) rfl ?_
  exact x_zret C hr hlk rfl dX11_law_17 (by first | rfl | trivial | (simp [bI]; done) | (simp_all [bI]; done))
theorem dX11_acts_0 : decode cX11_acts 0 = .ok (.aload_n 0, 1) := by decide +kernel
theorem dX11_acts_1 : decode cX11_acts 1 = .ok (.getfield 10, 3) := by decide +kernel
theorem dX11_acts_4 : decode cX11_acts 4 = .ok (.iload_n 1, 1) := by decide +kernel
theorem dX11_acts_5 : decode cX11_acts 5 = .ok (.iconst 1, 1) := by decide +kernel
theorem dX11_acts_6 : decode cX11_acts 6 = .ok (.sipush 140, 3) := by decide +kernel
theorem dX11_acts_9 : decode cX11_acts 9 = .ok (.iconst 1, 1) := by decide +kernel
theorem dX11_acts_10 : decode cX11_acts 10 = .ok (.invokevirtual 149, 3) := by decide +kernel
theorem dX11_acts_13 : decode cX11_acts 13 = .ok (.ifCond .ne 5, 3) := by decide +kernel
theorem dX11_acts_16 : decode cX11_acts 16 = .ok (.iconst (-1), 1) := by decide +kernel
theorem dX11_acts_17 : decode cX11_acts 17 = .ok (.ireturn, 1) := by decide +kernel
set_option maxRecDepth 20000 in
set_option maxHeartbeats 4000000 in
theorem t_acts (E : xE) (l : Launch) (ws : va_W) {x xt xk xn xp xtr xr xs xl xpl xse ah ald arm ahr ash arw abr aw tb : Nat} (p_0 : Nat) (k_0 : ws[0]? = some (ob x 10 [.ref xt, .ref xk, .ref xn, .ref xp, .ref xtr, .int 0, .ref xr, .ref xs, .ref xl, .ref xpl, .ref xse, .ref ah, .ref ald, .ref arm, .ref ahr, .ref ash, .ref arw, .ref abr, .ref aw])) (p_1 : Nat) (k_1 : ws[1]? = some (ob xt 7 [.ref tb, .int 0, .int 0, .int 0, .int 0])) (n : Int32) : xI E l yX11_acts cX11_acts 4 (some .int) 1 [.ref x, .int n] ws (fun r w => r = -1) := by
  refine xI_start (lv := [(0, .ref x), (1, .int n)]) RX11 (by decide) rfl (Nat.le_of_ble_eq_true rfl) rfl (fun p e s m below meth c A C hr hlk => ?_)
  refine x_aload_n C dX11_acts_0 rfl 0 rfl rfl ?_
  refine x_get C (ci := 10) (k := 0) 0 k_0 rfl in_X11 (by decide) w_385 rfl dX11_acts_1 rfl ?_
  refine x_iload_n C dX11_acts_4 rfl 1 rfl rfl ?_
  refine x_iconst C (v := 1) dX11_acts_5 (by decide) rfl ?_
  refine x_sipush C (v := 140) dX11_acts_6 (by decide) rfl ?_
  refine x_iconst C (v := 1) dX11_acts_9 (by decide) rfl ?_
  refine x_vi C (As := [.int n, .int 1, .int 140, .int 1]) (rest := []) (t_holds0 E l ws 1 k_1 n 1 140 1 (hold0 (a := 1) (b := 140) (by decide) (by decide) (fun j h g => hold1 j (by omega) g))) mf_X8_holds w_507 1 k_1 rfl rfl rfl (Nat.le_of_ble_eq_true rfl) ⟨(Nat.le_of_ble_eq_true rfl), (Nat.le_of_ble_eq_true rfl)⟩ ⟨(Nat.le_of_ble_eq_true rfl), (Nat.le_of_ble_eq_true rfl)⟩ dX11_acts_10 rfl (fun r2 w3 h1 => ?_)
  obtain ⟨e4, g5⟩ := h1
  refine x_top e4 ?_
  refine x_ws g5 ?_
  refine x_if_ne C (tgt := 18) dX11_acts_13 (by decide) rfl (fun h => absurd h (by decide)) (fun _ => ?_)
  refine x_iconst C (v := (-1)) dX11_acts_16 (by decide) rfl ?_
  exact x_zret C hr hlk rfl dX11_acts_17 (by first | rfl | trivial | (simp [bI]; done) | (simp_all [bI]; done))
theorem dX11_judged_0 : decode cX11_judged 0 = .ok (.aload_n 0, 1) := by decide +kernel
theorem dX11_judged_1 : decode cX11_judged 1 = .ok (.getfield 10, 3) := by decide +kernel
theorem dX11_judged_4 : decode cX11_judged 4 = .ok (.iload_n 1, 1) := by decide +kernel
theorem dX11_judged_5 : decode cX11_judged 5 = .ok (.iconst 1, 1) := by decide +kernel
theorem dX11_judged_6 : decode cX11_judged 6 = .ok (.sipush 140, 3) := by decide +kernel
theorem dX11_judged_9 : decode cX11_judged 9 = .ok (.iconst 1, 1) := by decide +kernel
theorem dX11_judged_10 : decode cX11_judged 10 = .ok (.invokevirtual 149, 3) := by decide +kernel
theorem dX11_judged_13 : decode cX11_judged 13 = .ok (.ifCond .ne 5, 3) := by decide +kernel
theorem dX11_judged_16 : decode cX11_judged 16 = .ok (.iconst (-1), 1) := by decide +kernel
theorem dX11_judged_17 : decode cX11_judged 17 = .ok (.ireturn, 1) := by decide +kernel
set_option maxRecDepth 20000 in
set_option maxHeartbeats 4000000 in
theorem t_judged (E : xE) (l : Launch) (ws : va_W) {x xt xk xn xp xtr xr xs xl xpl xse ah ald arm ahr ash arw abr aw tb : Nat} (p_0 : Nat) (k_0 : ws[0]? = some (ob x 10 [.ref xt, .ref xk, .ref xn, .ref xp, .ref xtr, .int 0, .ref xr, .ref xs, .ref xl, .ref xpl, .ref xse, .ref ah, .ref ald, .ref arm, .ref ahr, .ref ash, .ref arw, .ref abr, .ref aw])) (p_1 : Nat) (k_1 : ws[1]? = some (ob xt 7 [.ref tb, .int 0, .int 0, .int 0, .int 0])) (n : Int32) : xI E l yX11_judged cX11_judged 3 (some .int) 1 [.ref x, .int n] ws (fun r w => r = -1) := by
  refine xI_start (lv := [(0, .ref x), (1, .int n)]) RX11 (by decide) rfl (Nat.le_of_ble_eq_true rfl) rfl (fun p e s m below meth c A C hr hlk => ?_)
  refine x_aload_n C dX11_judged_0 rfl 0 rfl rfl ?_
  refine x_get C (ci := 10) (k := 0) 0 k_0 rfl in_X11 (by decide) w_385 rfl dX11_judged_1 rfl ?_
  refine x_iload_n C dX11_judged_4 rfl 1 rfl rfl ?_
  refine x_iconst C (v := 1) dX11_judged_5 (by decide) rfl ?_
  refine x_sipush C (v := 140) dX11_judged_6 (by decide) rfl ?_
  refine x_iconst C (v := 1) dX11_judged_9 (by decide) rfl ?_
  refine x_vi C (As := [.int n, .int 1, .int 140, .int 1]) (rest := []) (t_holds0 E l ws 1 k_1 n 1 140 1 (hold0 (a := 1) (b := 140) (by decide) (by decide) (fun j h g => hold1 j (by omega) g))) mf_X8_holds w_507 1 k_1 rfl rfl rfl (Nat.le_of_ble_eq_true rfl) ⟨(Nat.le_of_ble_eq_true rfl), (Nat.le_of_ble_eq_true rfl)⟩ ⟨(Nat.le_of_ble_eq_true rfl), (Nat.le_of_ble_eq_true rfl)⟩ dX11_judged_10 rfl (fun r2 w3 h1 => ?_)
  obtain ⟨e4, g5⟩ := h1
  refine x_top e4 ?_
  refine x_ws g5 ?_
  refine x_if_ne C (tgt := 18) dX11_judged_13 (by decide) rfl (fun h => absurd h (by decide)) (fun _ => ?_)
  refine x_iconst C (v := (-1)) dX11_judged_16 (by decide) rfl ?_
  exact x_zret C hr hlk rfl dX11_judged_17 (by first | rfl | trivial | (simp [bI]; done) | (simp_all [bI]; done))
theorem dX11_rations_0 : decode cX11_rations 0 = .ok (.aload_n 0, 1) := by decide +kernel
theorem dX11_rations_1 : decode cX11_rations 1 = .ok (.getfield 10, 3) := by decide +kernel
theorem dX11_rations_4 : decode cX11_rations 4 = .ok (.iload_n 1, 1) := by decide +kernel
theorem dX11_rations_5 : decode cX11_rations 5 = .ok (.iconst 1, 1) := by decide +kernel
theorem dX11_rations_6 : decode cX11_rations 6 = .ok (.bipush 8, 2) := by decide +kernel
theorem dX11_rations_8 : decode cX11_rations 8 = .ok (.iconst 1, 1) := by decide +kernel
theorem dX11_rations_9 : decode cX11_rations 9 = .ok (.invokevirtual 149, 3) := by decide +kernel
theorem dX11_rations_12 : decode cX11_rations 12 = .ok (.ifCond .eq 12, 3) := by decide +kernel
theorem dX11_rations_24 : decode cX11_rations 24 = .ok (.iconst (-1), 1) := by decide +kernel
theorem dX11_rations_25 : decode cX11_rations 25 = .ok (.ireturn, 1) := by decide +kernel
set_option maxRecDepth 20000 in
set_option maxHeartbeats 4000000 in
theorem t_rations (E : xE) (l : Launch) (ws : va_W) {x xt xk xn xp xtr xr xs xl xpl xse ah ald arm ahr ash arw abr aw tb : Nat} (p_0 : Nat) (k_0 : ws[0]? = some (ob x 10 [.ref xt, .ref xk, .ref xn, .ref xp, .ref xtr, .int 0, .ref xr, .ref xs, .ref xl, .ref xpl, .ref xse, .ref ah, .ref ald, .ref arm, .ref ahr, .ref ash, .ref arw, .ref abr, .ref aw])) (p_1 : Nat) (k_1 : ws[1]? = some (ob xt 7 [.ref tb, .int 0, .int 0, .int 0, .int 0])) (n m0 wh : Int32) : xI E l yX11_rations cX11_rations 6 (some .int) 1 [.ref x, .int n, .int m0, .int wh] ws (fun r w => r = -1) := by
  refine xI_start (lv := [(0, .ref x), (1, .int n), (2, .int m0), (3, .int wh)]) RX11 (by decide) rfl (Nat.le_of_ble_eq_true rfl) rfl (fun p e s m below meth c A C hr hlk => ?_)
  refine x_aload_n C dX11_rations_0 rfl 0 rfl rfl ?_
  refine x_get C (ci := 10) (k := 0) 0 k_0 rfl in_X11 (by decide) w_385 rfl dX11_rations_1 rfl ?_
  refine x_iload_n C dX11_rations_4 rfl 1 rfl rfl ?_
  refine x_iconst C (v := 1) dX11_rations_5 (by decide) rfl ?_
  refine x_bipush C (v := 8) dX11_rations_6 (by decide) rfl ?_
  refine x_iconst C (v := 1) dX11_rations_8 (by decide) rfl ?_
  refine x_vi C (As := [.int n, .int 1, .int 8, .int 1]) (rest := []) (t_holds0 E l ws 1 k_1 n 1 8 1 (hold0 (a := 1) (b := 8) (by decide) (by decide) (fun j h g => hold1 j (by omega) g))) mf_X8_holds w_507 1 k_1 rfl rfl rfl (Nat.le_of_ble_eq_true rfl) ⟨(Nat.le_of_ble_eq_true rfl), (Nat.le_of_ble_eq_true rfl)⟩ ⟨(Nat.le_of_ble_eq_true rfl), (Nat.le_of_ble_eq_true rfl)⟩ dX11_rations_9 rfl (fun r2 w3 h1 => ?_)
  obtain ⟨e4, g5⟩ := h1
  refine x_top e4 ?_
  refine x_ws g5 ?_
  refine x_if_eq C (tgt := 24) dX11_rations_12 (by decide) rfl (fun _ => ?_) (fun h => absurd h (by decide))
  refine x_iconst C (v := (-1)) dX11_rations_24 (by decide) rfl ?_
  exact x_zret C hr hlk rfl dX11_rations_25 (by first | rfl | trivial | (simp [bI]; done) | (simp_all [bI]; done))
theorem dX11_hoards_0 : decode cX11_hoards 0 = .ok (.aload_n 0, 1) := by decide +kernel
theorem dX11_hoards_1 : decode cX11_hoards 1 = .ok (.getfield 10, 3) := by decide +kernel
theorem dX11_hoards_4 : decode cX11_hoards 4 = .ok (.iload_n 1, 1) := by decide +kernel
theorem dX11_hoards_5 : decode cX11_hoards 5 = .ok (.iconst 2, 1) := by decide +kernel
theorem dX11_hoards_6 : decode cX11_hoards 6 = .ok (.iconst 5, 1) := by decide +kernel
theorem dX11_hoards_7 : decode cX11_hoards 7 = .ok (.iconst 2, 1) := by decide +kernel
theorem dX11_hoards_8 : decode cX11_hoards 8 = .ok (.invokevirtual 149, 3) := by decide +kernel
theorem dX11_hoards_11 : decode cX11_hoards 11 = .ok (.ifCond .eq 12, 3) := by decide +kernel
theorem dX11_hoards_23 : decode cX11_hoards 23 = .ok (.iconst (-1), 1) := by decide +kernel
theorem dX11_hoards_24 : decode cX11_hoards 24 = .ok (.ireturn, 1) := by decide +kernel
set_option maxRecDepth 20000 in
set_option maxHeartbeats 4000000 in
theorem t_hoards (E : xE) (l : Launch) (ws : va_W) {x xt xk xn xp xtr xr xs xl xpl xse ah ald arm ahr ash arw abr aw tb : Nat} (p_0 : Nat) (k_0 : ws[0]? = some (ob x 10 [.ref xt, .ref xk, .ref xn, .ref xp, .ref xtr, .int 0, .ref xr, .ref xs, .ref xl, .ref xpl, .ref xse, .ref ah, .ref ald, .ref arm, .ref ahr, .ref ash, .ref arw, .ref abr, .ref aw])) (p_1 : Nat) (k_1 : ws[1]? = some (ob xt 7 [.ref tb, .int 0, .int 0, .int 0, .int 0])) (n wh : Int32) : xI E l yX11_hoards cX11_hoards 7 (some .int) 1 [.ref x, .int n, .int wh] ws (fun r w => r = -1) := by
  refine xI_start (lv := [(0, .ref x), (1, .int n), (2, .int wh)]) RX11 (by decide) rfl (Nat.le_of_ble_eq_true rfl) rfl (fun p e s m below meth c A C hr hlk => ?_)
  refine x_aload_n C dX11_hoards_0 rfl 0 rfl rfl ?_
  refine x_get C (ci := 10) (k := 0) 0 k_0 rfl in_X11 (by decide) w_385 rfl dX11_hoards_1 rfl ?_
  refine x_iload_n C dX11_hoards_4 rfl 1 rfl rfl ?_
  refine x_iconst C (v := 2) dX11_hoards_5 (by decide) rfl ?_
  refine x_iconst C (v := 5) dX11_hoards_6 (by decide) rfl ?_
  refine x_iconst C (v := 2) dX11_hoards_7 (by decide) rfl ?_
  refine x_vi C (As := [.int n, .int 2, .int 5, .int 2]) (rest := []) (t_holds0 E l ws 1 k_1 n 2 5 2 (hold0 (a := 2) (b := 5) (by decide) (by decide) hold2)) mf_X8_holds w_507 1 k_1 rfl rfl rfl (Nat.le_of_ble_eq_true rfl) ⟨(Nat.le_of_ble_eq_true rfl), (Nat.le_of_ble_eq_true rfl)⟩ ⟨(Nat.le_of_ble_eq_true rfl), (Nat.le_of_ble_eq_true rfl)⟩ dX11_hoards_8 rfl (fun r2 w3 h1 => ?_)
  obtain ⟨e4, g5⟩ := h1
  refine x_top e4 ?_
  refine x_ws g5 ?_
  refine x_if_eq C (tgt := 23) dX11_hoards_11 (by decide) rfl (fun _ => ?_) (fun h => absurd h (by decide))
  refine x_iconst C (v := (-1)) dX11_hoards_23 (by decide) rfl ?_
  exact x_zret C hr hlk rfl dX11_hoards_24 (by first | rfl | trivial | (simp [bI]; done) | (simp_all [bI]; done))
theorem dX11_yolks_0 : decode cX11_yolks 0 = .ok (.aload_n 0, 1) := by decide +kernel
theorem dX11_yolks_1 : decode cX11_yolks 1 = .ok (.getfield 10, 3) := by decide +kernel
theorem dX11_yolks_4 : decode cX11_yolks 4 = .ok (.iload_n 1, 1) := by decide +kernel
theorem dX11_yolks_5 : decode cX11_yolks 5 = .ok (.iconst 1, 1) := by decide +kernel
theorem dX11_yolks_6 : decode cX11_yolks 6 = .ok (.bipush 10, 2) := by decide +kernel
theorem dX11_yolks_8 : decode cX11_yolks 8 = .ok (.iconst 1, 1) := by decide +kernel
theorem dX11_yolks_9 : decode cX11_yolks 9 = .ok (.invokevirtual 149, 3) := by decide +kernel
theorem dX11_yolks_12 : decode cX11_yolks 12 = .ok (.ifCond .eq 23, 3) := by decide +kernel
theorem dX11_yolks_35 : decode cX11_yolks 35 = .ok (.iconst (-1), 1) := by decide +kernel
theorem dX11_yolks_36 : decode cX11_yolks 36 = .ok (.ireturn, 1) := by decide +kernel
set_option maxRecDepth 20000 in
set_option maxHeartbeats 4000000 in
theorem t_yolks (E : xE) (l : Launch) (ws : va_W) {x xt xk xn xp xtr xr xs xl xpl xse ah ald arm ahr ash arw abr aw tb : Nat} (p_0 : Nat) (k_0 : ws[0]? = some (ob x 10 [.ref xt, .ref xk, .ref xn, .ref xp, .ref xtr, .int 0, .ref xr, .ref xs, .ref xl, .ref xpl, .ref xse, .ref ah, .ref ald, .ref arm, .ref ahr, .ref ash, .ref arw, .ref abr, .ref aw])) (p_1 : Nat) (k_1 : ws[1]? = some (ob xt 7 [.ref tb, .int 0, .int 0, .int 0, .int 0])) (n mi wh : Int32) : xI E l yX11_yolks cX11_yolks 6 (some .int) 1 [.ref x, .int n, .int mi, .int wh] ws (fun r w => r = -1) := by
  refine xI_start (lv := [(0, .ref x), (1, .int n), (2, .int mi), (3, .int wh)]) RX11 (by decide) rfl (Nat.le_of_ble_eq_true rfl) rfl (fun p e s m below meth c A C hr hlk => ?_)
  refine x_aload_n C dX11_yolks_0 rfl 0 rfl rfl ?_
  refine x_get C (ci := 10) (k := 0) 0 k_0 rfl in_X11 (by decide) w_385 rfl dX11_yolks_1 rfl ?_
  refine x_iload_n C dX11_yolks_4 rfl 1 rfl rfl ?_
  refine x_iconst C (v := 1) dX11_yolks_5 (by decide) rfl ?_
  refine x_bipush C (v := 10) dX11_yolks_6 (by decide) rfl ?_
  refine x_iconst C (v := 1) dX11_yolks_8 (by decide) rfl ?_
  refine x_vi C (As := [.int n, .int 1, .int 10, .int 1]) (rest := []) (t_holds0 E l ws 1 k_1 n 1 10 1 (hold0 (a := 1) (b := 10) (by decide) (by decide) (fun j h g => hold1 j (by omega) g))) mf_X8_holds w_507 1 k_1 rfl rfl rfl (Nat.le_of_ble_eq_true rfl) ⟨(Nat.le_of_ble_eq_true rfl), (Nat.le_of_ble_eq_true rfl)⟩ ⟨(Nat.le_of_ble_eq_true rfl), (Nat.le_of_ble_eq_true rfl)⟩ dX11_yolks_9 rfl (fun r2 w3 h1 => ?_)
  obtain ⟨e4, g5⟩ := h1
  refine x_top e4 ?_
  refine x_ws g5 ?_
  refine x_if_eq C (tgt := 35) dX11_yolks_12 (by decide) rfl (fun _ => ?_) (fun h => absurd h (by decide))
  refine x_iconst C (v := (-1)) dX11_yolks_35 (by decide) rfl ?_
  exact x_zret C hr hlk rfl dX11_yolks_36 (by first | rfl | trivial | (simp [bI]; done) | (simp_all [bI]; done))
theorem dX11_egg_0 : decode cX11_egg 0 = .ok (.aload_n 0, 1) := by decide +kernel
theorem dX11_egg_1 : decode cX11_egg 1 = .ok (.getfield 22, 3) := by decide +kernel
theorem dX11_egg_4 : decode cX11_egg 4 = .ok (.getfield 132, 3) := by decide +kernel
theorem dX11_egg_7 : decode cX11_egg 7 = .ok (.iload_n 1, 1) := by decide +kernel
theorem dX11_egg_8 : decode cX11_egg 8 = .ok (.invokevirtual 207, 3) := by decide +kernel
theorem dX11_egg_11 : decode cX11_egg 11 = .ok (.ifCond .ne 5, 3) := by decide +kernel
theorem dX11_egg_14 : decode cX11_egg 14 = .ok (.iconst (-1), 1) := by decide +kernel
theorem dX11_egg_15 : decode cX11_egg 15 = .ok (.ireturn, 1) := by decide +kernel
set_option maxRecDepth 20000 in
set_option maxHeartbeats 4000000 in
theorem t_egg (E : xE) (l : Launch) (ws : va_W) {x xt xk xn xp xtr xr xs xl xpl xse ah ald arm ahr ash arw abr aw th tp te tw em el ey eo eb es : Nat} {day sx : Int32} (p_0 : Nat) (k_0 : ws[0]? = some (ob x 10 [.ref xt, .ref xk, .ref xn, .ref xp, .ref xtr, .int 0, .ref xr, .ref xs, .ref xl, .ref xpl, .ref xse, .ref ah, .ref ald, .ref arm, .ref ahr, .ref ash, .ref arw, .ref abr, .ref aw])) (p_1 : Nat) (k_1 : ws[5]? = some (ob xn 8 [.int day, .int sx, .ref th, .ref tp, .ref te, .ref tw, .int 0, .int 0, .int 0, .int 0])) (p_2 : Nat) (k_2 : ws[14]? = some (ob te 1 [.int 0, .ref em, .ref el, .ref ey, .ref eo, .ref eb, .ref es])) (i wh : Int32) : xI E l yX11_egg cX11_egg 3 (some .int) 1 [.ref x, .int i, .int wh] ws (fun r w => r = -1) := by
  refine xI_start (lv := [(0, .ref x), (1, .int i), (2, .int wh)]) RX11 (by decide) rfl (Nat.le_of_ble_eq_true rfl) rfl (fun p e s m below meth c A C hr hlk => ?_)
  refine x_aload_n C dX11_egg_0 rfl 0 rfl rfl ?_
  refine x_get C (ci := 10) (k := 2) 0 k_0 rfl in_X11 (by decide) w_387 rfl dX11_egg_1 rfl ?_
  refine x_get C (ci := 8) (k := 4) 5 k_1 rfl in_X9 (by decide) w_209 rfl dX11_egg_4 rfl ?_
  refine x_iload_n C dX11_egg_7 rfl 1 rfl rfl ?_
  refine x_vi C (As := [.int i]) (rest := []) (t_Eggs_isLaid0 E l ws 14 k_2 i) mf_X1_isLaid w_861 14 k_2 rfl rfl rfl (Nat.le_of_ble_eq_true rfl) ⟨(Nat.le_of_ble_eq_true rfl), (Nat.le_of_ble_eq_true rfl)⟩ ⟨(Nat.le_of_ble_eq_true rfl), (Nat.le_of_ble_eq_true rfl)⟩ dX11_egg_8 rfl (fun r2 w3 h1 => ?_)
  obtain ⟨e4, g5⟩ := h1
  refine x_top e4 ?_
  refine x_ws g5 ?_
  refine x_if_ne C (tgt := 16) dX11_egg_11 (by decide) rfl (fun h => absurd h (by decide)) (fun _ => ?_)
  refine x_iconst C (v := (-1)) dX11_egg_14 (by decide) rfl ?_
  exact x_zret C hr hlk rfl dX11_egg_15 (by first | rfl | trivial | (simp [bI]; done) | (simp_all [bI]; done))
theorem dX11_personIs_0 : decode cX11_personIs 0 = .ok (.aload_n 0, 1) := by decide +kernel
theorem dX11_personIs_1 : decode cX11_personIs 1 = .ok (.getfield 22, 3) := by decide +kernel
theorem dX11_personIs_4 : decode cX11_personIs 4 = .ok (.getfield 92, 3) := by decide +kernel
theorem dX11_personIs_7 : decode cX11_personIs 7 = .ok (.iload_n 1, 1) := by decide +kernel
theorem dX11_personIs_8 : decode cX11_personIs 8 = .ok (.invokevirtual 106, 3) := by decide +kernel
theorem dX11_personIs_11 : decode cX11_personIs 11 = .ok (.ifCond .ne 5, 3) := by decide +kernel
theorem dX11_personIs_14 : decode cX11_personIs 14 = .ok (.iconst (-1), 1) := by decide +kernel
theorem dX11_personIs_15 : decode cX11_personIs 15 = .ok (.ireturn, 1) := by decide +kernel
set_option maxRecDepth 20000 in
set_option maxHeartbeats 4000000 in
theorem t_personIs (E : xE) (l : Launch) (ws : va_W) {x xt xk xn xp xtr xr xs xl xpl xse ah ald arm ahr ash arw abr aw th tp te tw pl pa pt pb : Nat} {day sx : Int32} (p_0 : Nat) (k_0 : ws[0]? = some (ob x 10 [.ref xt, .ref xk, .ref xn, .ref xp, .ref xtr, .int 0, .ref xr, .ref xs, .ref xl, .ref xpl, .ref xse, .ref ah, .ref ald, .ref arm, .ref ahr, .ref ash, .ref arw, .ref abr, .ref aw])) (p_1 : Nat) (k_1 : ws[5]? = some (ob xn 8 [.int day, .int sx, .ref th, .ref tp, .ref te, .ref tw, .int 0, .int 0, .int 0, .int 0])) (p_2 : Nat) (k_2 : ws[9]? = some (ob tp 4 [.int 0, .ref pl, .ref pa, .ref pt, .ref pb])) (p0 wh : Int32) : xI E l yX11_personIs cX11_personIs 3 (some .int) 2 [.ref x, .int p0, .int wh] ws (fun r w => r = -1) := by
  refine xI_start (lv := [(0, .ref x), (1, .int p0), (2, .int wh)]) RX11 (by decide) rfl (Nat.le_of_ble_eq_true rfl) rfl (fun p e s m below meth c A C hr hlk => ?_)
  refine x_aload_n C dX11_personIs_0 rfl 0 rfl rfl ?_
  refine x_get C (ci := 10) (k := 2) 0 k_0 rfl in_X11 (by decide) w_387 rfl dX11_personIs_1 rfl ?_
  refine x_get C (ci := 8) (k := 3) 5 k_1 rfl in_X9 (by decide) w_204 rfl dX11_personIs_4 rfl ?_
  refine x_iload_n C dX11_personIs_7 rfl 1 rfl rfl ?_
  refine x_vi C (As := [.int p0]) (rest := []) (t_People_isTold0 E l ws 9 k_2 p0) mf_X5_isTold w_465 9 k_2 rfl rfl rfl (Nat.le_of_ble_eq_true rfl) ⟨(Nat.le_of_ble_eq_true rfl), (Nat.le_of_ble_eq_true rfl)⟩ ⟨(Nat.le_of_ble_eq_true rfl), (Nat.le_of_ble_eq_true rfl)⟩ dX11_personIs_8 rfl (fun r2 w3 h1 => ?_)
  obtain ⟨e4, g5⟩ := h1
  refine x_top e4 ?_
  refine x_ws g5 ?_
  refine x_if_ne C (tgt := 16) dX11_personIs_11 (by decide) rfl (fun h => absurd h (by decide)) (fun _ => ?_)
  refine x_iconst C (v := (-1)) dX11_personIs_14 (by decide) rfl ?_
  exact x_zret C hr hlk rfl dX11_personIs_15 (by first | rfl | trivial | (simp [bI]; done) | (simp_all [bI]; done))
theorem dX11_workIs_0 : decode cX11_workIs 0 = .ok (.aload_n 0, 1) := by decide +kernel
theorem dX11_workIs_1 : decode cX11_workIs 1 = .ok (.getfield 22, 3) := by decide +kernel
theorem dX11_workIs_4 : decode cX11_workIs 4 = .ok (.getfield 123, 3) := by decide +kernel
theorem dX11_workIs_7 : decode cX11_workIs 7 = .ok (.iload_n 1, 1) := by decide +kernel
theorem dX11_workIs_8 : decode cX11_workIs 8 = .ok (.invokevirtual 257, 3) := by decide +kernel
theorem dX11_workIs_11 : decode cX11_workIs 11 = .ok (.ifCond .ne 5, 3) := by decide +kernel
theorem dX11_workIs_14 : decode cX11_workIs 14 = .ok (.iconst (-1), 1) := by decide +kernel
theorem dX11_workIs_15 : decode cX11_workIs 15 = .ok (.ireturn, 1) := by decide +kernel
set_option maxRecDepth 20000 in
set_option maxHeartbeats 4000000 in
theorem t_workIs (E : xE) (l : Launch) (ws : va_W) {x xt xk xn xp xtr xr xs xl xpl xse ah ald arm ahr ash arw abr aw th tp te tw wn wd ww wb wo : Nat} {day sx : Int32} (p_0 : Nat) (k_0 : ws[0]? = some (ob x 10 [.ref xt, .ref xk, .ref xn, .ref xp, .ref xtr, .int 0, .ref xr, .ref xs, .ref xl, .ref xpl, .ref xse, .ref ah, .ref ald, .ref arm, .ref ahr, .ref ash, .ref arw, .ref abr, .ref aw])) (p_1 : Nat) (k_1 : ws[5]? = some (ob xn 8 [.int day, .int sx, .ref th, .ref tp, .ref te, .ref tw, .int 0, .int 0, .int 0, .int 0])) (p_2 : Nat) (k_2 : ws[21]? = some (ob tw 9 [.int 0, .ref wn, .ref wd, .ref ww, .ref wb, .ref wo])) (i wh : Int32) : xI E l yX11_workIs cX11_workIs 3 (some .int) 2 [.ref x, .int i, .int wh] ws (fun r w => r = -1) := by
  refine xI_start (lv := [(0, .ref x), (1, .int i), (2, .int wh)]) RX11 (by decide) rfl (Nat.le_of_ble_eq_true rfl) rfl (fun p e s m below meth c A C hr hlk => ?_)
  refine x_aload_n C dX11_workIs_0 rfl 0 rfl rfl ?_
  refine x_get C (ci := 10) (k := 2) 0 k_0 rfl in_X11 (by decide) w_387 rfl dX11_workIs_1 rfl ?_
  refine x_get C (ci := 8) (k := 5) 5 k_1 rfl in_X9 (by decide) w_213 rfl dX11_workIs_4 rfl ?_
  refine x_iload_n C dX11_workIs_7 rfl 1 rfl rfl ?_
  refine x_vi C (As := [.int i]) (rest := []) (t_Works_isTold0 E l ws 21 k_2 i) mf_X10_isTold w_893 21 k_2 rfl rfl rfl (Nat.le_of_ble_eq_true rfl) ⟨(Nat.le_of_ble_eq_true rfl), (Nat.le_of_ble_eq_true rfl)⟩ ⟨(Nat.le_of_ble_eq_true rfl), (Nat.le_of_ble_eq_true rfl)⟩ dX11_workIs_8 rfl (fun r2 w3 h1 => ?_)
  obtain ⟨e4, g5⟩ := h1
  refine x_top e4 ?_
  refine x_ws g5 ?_
  refine x_if_ne C (tgt := 16) dX11_workIs_11 (by decide) rfl (fun h => absurd h (by decide)) (fun _ => ?_)
  refine x_iconst C (v := (-1)) dX11_workIs_14 (by decide) rfl ?_
  exact x_zret C hr hlk rfl dX11_workIs_15 (by first | rfl | trivial | (simp [bI]; done) | (simp_all [bI]; done))
theorem dX11_plan_0 : decode cX11_plan 0 = .ok (.aload_n 0, 1) := by decide +kernel
theorem dX11_plan_1 : decode cX11_plan 1 = .ok (.getfield 22, 3) := by decide +kernel
theorem dX11_plan_4 : decode cX11_plan 4 = .ok (.getfield 123, 3) := by decide +kernel
theorem dX11_plan_7 : decode cX11_plan 7 = .ok (.getfield 280, 3) := by decide +kernel
theorem dX11_plan_10 : decode cX11_plan 10 = .ok (.istore 4, 2) := by decide +kernel
theorem dX11_plan_12 : decode cX11_plan 12 = .ok (.iload_n 2, 1) := by decide +kernel
theorem dX11_plan_13 : decode cX11_plan 13 = .ok (.iconst 1, 1) := by decide +kernel
theorem dX11_plan_14 : decode cX11_plan 14 = .ok (.sipush 255, 3) := by decide +kernel
theorem dX11_plan_17 : decode cX11_plan 17 = .ok (.invokestatic 102, 3) := by decide +kernel
theorem dX11_plan_20 : decode cX11_plan 20 = .ok (.ifCond .eq 10, 3) := by decide +kernel
theorem dX11_plan_23 : decode cX11_plan 23 = .ok (.iload_n 2, 1) := by decide +kernel
theorem dX11_plan_24 : decode cX11_plan 24 = .ok (.invokestatic 281, 3) := by decide +kernel
theorem dX11_plan_27 : decode cX11_plan 27 = .ok (.goto 4, 3) := by decide +kernel
theorem dX11_plan_30 : decode cX11_plan 30 = .ok (.iconst 0, 1) := by decide +kernel
theorem dX11_plan_31 : decode cX11_plan 31 = .ok (.istore 5, 2) := by decide +kernel
theorem dX11_plan_33 : decode cX11_plan 33 = .ok (.iload_n 3, 1) := by decide +kernel
theorem dX11_plan_34 : decode cX11_plan 34 = .ok (.bipush 10, 2) := by decide +kernel
theorem dX11_plan_36 : decode cX11_plan 36 = .ok (.bipush 17, 2) := by decide +kernel
theorem dX11_plan_38 : decode cX11_plan 38 = .ok (.invokestatic 102, 3) := by decide +kernel
theorem dX11_plan_41 : decode cX11_plan 41 = .ok (.ifCond .eq 18, 3) := by decide +kernel
theorem dX11_plan_44 : decode cX11_plan 44 = .ok (.iload_n 2, 1) := by decide +kernel
theorem dX11_plan_45 : decode cX11_plan 45 = .ok (.iload_n 3, 1) := by decide +kernel
theorem dX11_plan_46 : decode cX11_plan 46 = .ok (.bipush 10, 2) := by decide +kernel
theorem dX11_plan_48 : decode cX11_plan 48 = .ok (.isub, 1) := by decide +kernel
theorem dX11_plan_49 : decode cX11_plan 49 = .ok (.invokestatic 286, 3) := by decide +kernel
theorem dX11_plan_52 : decode cX11_plan 52 = .ok (.ifCond .eq 7, 3) := by decide +kernel
theorem dX11_plan_55 : decode cX11_plan 55 = .ok (.iconst 1, 1) := by decide +kernel
theorem dX11_plan_56 : decode cX11_plan 56 = .ok (.goto 4, 3) := by decide +kernel
theorem dX11_plan_59 : decode cX11_plan 59 = .ok (.iconst 0, 1) := by decide +kernel
theorem dX11_plan_60 : decode cX11_plan 60 = .ok (.istore 6, 2) := by decide +kernel
theorem dX11_plan_62 : decode cX11_plan 62 = .ok (.aload_n 0, 1) := by decide +kernel
theorem dX11_plan_63 : decode cX11_plan 63 = .ok (.getfield 22, 3) := by decide +kernel
theorem dX11_plan_66 : decode cX11_plan 66 = .ok (.getfield 92, 3) := by decide +kernel
theorem dX11_plan_69 : decode cX11_plan 69 = .ok (.iload_n 1, 1) := by decide +kernel
theorem dX11_plan_70 : decode cX11_plan 70 = .ok (.invokevirtual 106, 3) := by decide +kernel
theorem dX11_plan_73 : decode cX11_plan 73 = .ok (.ifCond .eq 36, 3) := by decide +kernel
theorem dX11_plan_109 : decode cX11_plan 109 = .ok (.iconst (-1), 1) := by decide +kernel
theorem dX11_plan_110 : decode cX11_plan 110 = .ok (.ireturn, 1) := by decide +kernel
set_option maxRecDepth 20000 in
set_option maxHeartbeats 4000000 in
theorem t_plan (E : xE) (l : Launch) (ws : va_W) {x xt xk xn xp xtr xr xs xl xpl xse ah ald arm ahr ash arw abr aw th tp te tw pl pa pt pb wn wd ww wb wo : Nat} {day sx : Int32} (p_0 : Nat) (k_0 : ws[0]? = some (ob x 10 [.ref xt, .ref xk, .ref xn, .ref xp, .ref xtr, .int 0, .ref xr, .ref xs, .ref xl, .ref xpl, .ref xse, .ref ah, .ref ald, .ref arm, .ref ahr, .ref ash, .ref arw, .ref abr, .ref aw])) (p_1 : Nat) (k_1 : ws[5]? = some (ob xn 8 [.int day, .int sx, .ref th, .ref tp, .ref te, .ref tw, .int 0, .int 0, .int 0, .int 0])) (p_2 : Nat) (k_2 : ws[9]? = some (ob tp 4 [.int 0, .ref pl, .ref pa, .ref pt, .ref pb])) (p_3 : Nat) (k_3 : ws[21]? = some (ob tw 9 [.int 0, .ref wn, .ref wd, .ref ww, .ref wb, .ref wo])) (p0 wk wh : Int32) : xI E l yX11_plan cX11_plan 8 (some .int) 2 [.ref x, .int p0, .int wk, .int wh] ws (fun r w => r = -1) := by
  refine xI_start (lv := [(0, .ref x), (1, .int p0), (2, .int wk), (3, .int wh)]) RX11 (by decide) rfl (Nat.le_of_ble_eq_true rfl) rfl (fun p e s m below meth c A C hr hlk => ?_)
  refine x_aload_n C dX11_plan_0 rfl 0 rfl rfl ?_
  refine x_get C (ci := 10) (k := 2) 0 k_0 rfl in_X11 (by decide) w_387 rfl dX11_plan_1 rfl ?_
  refine x_get C (ci := 8) (k := 5) 5 k_1 rfl in_X9 (by decide) w_213 rfl dX11_plan_4 rfl ?_
  refine x_get C (ci := 9) (k := 0) 21 k_3 rfl in_X10 (by decide) w_169 rfl dX11_plan_7 rfl ?_
  refine x_istore C (lv' := [(4, .int 0), (0, .ref x), (1, .int p0), (2, .int wk), (3, .int wh)]) dX11_plan_10 (by decide) rfl rfl ?_
  refine x_iload_n C dX11_plan_12 rfl 3 rfl rfl ?_
  refine x_iconst C (v := 1) dX11_plan_13 (by decide) rfl ?_
  refine x_sipush C (v := 255) dX11_plan_14 (by decide) rfl ?_
  refine x_si C (As := [.int wk, .int 1, .int 255]) (rest := []) (t_isWithin E l ws wk 1 255) mf_X11_isWithin w_462 rfl rfl (Nat.le_of_ble_eq_true rfl) ⟨(Nat.le_of_ble_eq_true rfl), (Nat.le_of_ble_eq_true rfl)⟩ ⟨(Nat.le_of_ble_eq_true rfl), (Nat.le_of_ble_eq_true rfl)⟩ dX11_plan_17 rfl (fun r2 w3 h1 => ?_)
  obtain ⟨e4, g5⟩ := h1
  refine x_top e4 ?_
  refine x_ws g5 ?_
  refine x_if_eq C (tgt := 30) dX11_plan_20 (by decide) rfl (fun c6 => ?_) (fun c6 => ?_)
  · skip
    have b7 := bI_e0 c6
    refine x_iconst C (v := 0) dX11_plan_30 (by decide) rfl ?_
    refine x_istore C (lv' := [(5, .int 0), (4, .int 0), (0, .ref x), (1, .int p0), (2, .int wk), (3, .int wh)]) dX11_plan_31 (by decide) rfl rfl ?_
    refine x_iload_n C dX11_plan_33 rfl 5 rfl rfl ?_
    refine x_bipush C (v := 10) dX11_plan_34 (by decide) rfl ?_
    refine x_bipush C (v := 17) dX11_plan_36 (by decide) rfl ?_
    refine x_si C (As := [.int wh, .int 10, .int 17]) (rest := []) (t_isWithin E l ws wh 10 17) mf_X11_isWithin w_462 rfl rfl (Nat.le_of_ble_eq_true rfl) ⟨(Nat.le_of_ble_eq_true rfl), (Nat.le_of_ble_eq_true rfl)⟩ ⟨(Nat.le_of_ble_eq_true rfl), (Nat.le_of_ble_eq_true rfl)⟩ dX11_plan_38 rfl (fun r9 w10 h8 => ?_)
    obtain ⟨e11, g12⟩ := h8
    refine x_top e11 ?_
    refine x_ws g12 ?_
    refine x_if_eq C (tgt := 59) dX11_plan_41 (by decide) rfl (fun c13 => ?_) (fun c13 => ?_)
    · skip
      have b14 := bI_e0 c13
      refine x_iconst C (v := 0) dX11_plan_59 (by decide) rfl ?_
      refine x_istore C (lv' := [(6, .int 0), (5, .int 0), (4, .int 0), (0, .ref x), (1, .int p0), (2, .int wk), (3, .int wh)]) dX11_plan_60 (by decide) rfl rfl ?_
      refine x_aload_n C dX11_plan_62 rfl 3 rfl rfl ?_
      refine x_get C (ci := 10) (k := 2) 0 k_0 rfl in_X11 (by decide) w_387 rfl dX11_plan_63 rfl ?_
      refine x_get C (ci := 8) (k := 3) 5 k_1 rfl in_X9 (by decide) w_204 rfl dX11_plan_66 rfl ?_
      refine x_iload_n C dX11_plan_69 rfl 4 rfl rfl ?_
      refine x_vi C (As := [.int p0]) (rest := []) (t_People_isTold0 E l ws 9 k_2 p0) mf_X5_isTold w_465 9 k_2 rfl rfl rfl (Nat.le_of_ble_eq_true rfl) ⟨(Nat.le_of_ble_eq_true rfl), (Nat.le_of_ble_eq_true rfl)⟩ ⟨(Nat.le_of_ble_eq_true rfl), (Nat.le_of_ble_eq_true rfl)⟩ dX11_plan_70 rfl (fun r16 w17 h15 => ?_)
      obtain ⟨e18, g19⟩ := h15
      refine x_top e18 ?_
      refine x_ws g19 ?_
      refine x_if_eq C (tgt := 109) dX11_plan_73 (by decide) rfl (fun _ => ?_) (fun h => absurd h (by decide))
      refine x_iconst C (v := (-1)) dX11_plan_109 (by decide) rfl ?_
      exact x_zret C hr hlk rfl dX11_plan_110 (by first | rfl | trivial | (simp [bI, b7, b14]; done) | (simp_all [bI]; done))
    · skip
      have b20 := bI_n0 c13
      refine x_iload_n C dX11_plan_44 rfl 4 rfl rfl ?_
      refine x_iload_n C dX11_plan_45 rfl 5 rfl rfl ?_
      refine x_bipush C (v := 10) dX11_plan_46 (by decide) rfl ?_
      refine x_isub C (v := (wh - (10 : Int32))) dX11_plan_48 rfl rfl ?_
      refine x_si C (As := [.int wk, .int (wh - (10 : Int32))]) (rest := []) (t_isIn E l ws wk ((wh - (10 : Int32)))) mf_X11_isIn w_909 rfl rfl (Nat.le_of_ble_eq_true rfl) ⟨(Nat.le_of_ble_eq_true rfl), (Nat.le_of_ble_eq_true rfl)⟩ ⟨(Nat.le_of_ble_eq_true rfl), (Nat.le_of_ble_eq_true rfl)⟩ dX11_plan_49 rfl (fun r22 w23 h21 => ?_)
      refine x_ws h21 ?_
      refine x_if_eq C (tgt := 59) dX11_plan_52 (by decide) rfl (fun c24 => ?_) (fun c24 => ?_)
      · skip
        refine x_iconst C (v := 0) dX11_plan_59 (by decide) rfl ?_
        refine x_istore C (lv' := [(6, .int 0), (5, .int 0), (4, .int 0), (0, .ref x), (1, .int p0), (2, .int wk), (3, .int wh)]) dX11_plan_60 (by decide) rfl rfl ?_
        refine x_aload_n C dX11_plan_62 rfl 3 rfl rfl ?_
        refine x_get C (ci := 10) (k := 2) 0 k_0 rfl in_X11 (by decide) w_387 rfl dX11_plan_63 rfl ?_
        refine x_get C (ci := 8) (k := 3) 5 k_1 rfl in_X9 (by decide) w_204 rfl dX11_plan_66 rfl ?_
        refine x_iload_n C dX11_plan_69 rfl 4 rfl rfl ?_
        refine x_vi C (As := [.int p0]) (rest := []) (t_People_isTold0 E l ws 9 k_2 p0) mf_X5_isTold w_465 9 k_2 rfl rfl rfl (Nat.le_of_ble_eq_true rfl) ⟨(Nat.le_of_ble_eq_true rfl), (Nat.le_of_ble_eq_true rfl)⟩ ⟨(Nat.le_of_ble_eq_true rfl), (Nat.le_of_ble_eq_true rfl)⟩ dX11_plan_70 rfl (fun r26 w27 h25 => ?_)
        obtain ⟨e28, g29⟩ := h25
        refine x_top e28 ?_
        refine x_ws g29 ?_
        refine x_if_eq C (tgt := 109) dX11_plan_73 (by decide) rfl (fun _ => ?_) (fun h => absurd h (by decide))
        refine x_iconst C (v := (-1)) dX11_plan_109 (by decide) rfl ?_
        exact x_zret C hr hlk rfl dX11_plan_110 (by first | rfl | trivial | (simp [bI, b7, b20, c24]; done) | (simp_all [bI]; done))
      · skip
        refine x_iconst C (v := 1) dX11_plan_55 (by decide) rfl ?_
        refine x_goto C (tgt := 60) dX11_plan_56 (by decide) ?_
        refine x_istore C (lv' := [(6, .int 1), (5, .int 0), (4, .int 0), (0, .ref x), (1, .int p0), (2, .int wk), (3, .int wh)]) dX11_plan_60 (by decide) rfl rfl ?_
        refine x_aload_n C dX11_plan_62 rfl 3 rfl rfl ?_
        refine x_get C (ci := 10) (k := 2) 0 k_0 rfl in_X11 (by decide) w_387 rfl dX11_plan_63 rfl ?_
        refine x_get C (ci := 8) (k := 3) 5 k_1 rfl in_X9 (by decide) w_204 rfl dX11_plan_66 rfl ?_
        refine x_iload_n C dX11_plan_69 rfl 4 rfl rfl ?_
        refine x_vi C (As := [.int p0]) (rest := []) (t_People_isTold0 E l ws 9 k_2 p0) mf_X5_isTold w_465 9 k_2 rfl rfl rfl (Nat.le_of_ble_eq_true rfl) ⟨(Nat.le_of_ble_eq_true rfl), (Nat.le_of_ble_eq_true rfl)⟩ ⟨(Nat.le_of_ble_eq_true rfl), (Nat.le_of_ble_eq_true rfl)⟩ dX11_plan_70 rfl (fun r31 w32 h30 => ?_)
        obtain ⟨e33, g34⟩ := h30
        refine x_top e33 ?_
        refine x_ws g34 ?_
        refine x_if_eq C (tgt := 109) dX11_plan_73 (by decide) rfl (fun _ => ?_) (fun h => absurd h (by decide))
        refine x_iconst C (v := (-1)) dX11_plan_109 (by decide) rfl ?_
        exact x_zret C hr hlk rfl dX11_plan_110 (by first | rfl | trivial | (simp [bI, b7, b20, c24]; done) | (simp_all [bI]; done))
  · skip
    have b35 := bI_n0 c6
    refine x_iload_n C dX11_plan_23 rfl 3 rfl rfl ?_
    refine x_si C (As := [.int wk]) (rest := []) (t_bitCount E l ws wk) mf_J6_bitCount_0f7a4 w_903 rfl rfl (Nat.le_of_ble_eq_true rfl) ⟨(Nat.le_of_ble_eq_true rfl), (Nat.le_of_ble_eq_true rfl)⟩ ⟨(Nat.le_of_ble_eq_true rfl), (Nat.le_of_ble_eq_true rfl)⟩ dX11_plan_24 rfl (fun r37 w38 h36 => ?_)
    refine x_ws h36 ?_
    refine x_goto C (tgt := 31) dX11_plan_27 (by decide) ?_
    refine x_istore C (lv' := [(5, .int r37), (4, .int 0), (0, .ref x), (1, .int p0), (2, .int wk), (3, .int wh)]) dX11_plan_31 (by decide) rfl rfl ?_
    refine x_iload_n C dX11_plan_33 rfl 5 rfl rfl ?_
    refine x_bipush C (v := 10) dX11_plan_34 (by decide) rfl ?_
    refine x_bipush C (v := 17) dX11_plan_36 (by decide) rfl ?_
    refine x_si C (As := [.int wh, .int 10, .int 17]) (rest := []) (t_isWithin E l ws wh 10 17) mf_X11_isWithin w_462 rfl rfl (Nat.le_of_ble_eq_true rfl) ⟨(Nat.le_of_ble_eq_true rfl), (Nat.le_of_ble_eq_true rfl)⟩ ⟨(Nat.le_of_ble_eq_true rfl), (Nat.le_of_ble_eq_true rfl)⟩ dX11_plan_38 rfl (fun r40 w41 h39 => ?_)
    obtain ⟨e42, g43⟩ := h39
    refine x_top e42 ?_
    refine x_ws g43 ?_
    refine x_if_eq C (tgt := 59) dX11_plan_41 (by decide) rfl (fun c44 => ?_) (fun c44 => ?_)
    · skip
      have b45 := bI_e0 c44
      refine x_iconst C (v := 0) dX11_plan_59 (by decide) rfl ?_
      refine x_istore C (lv' := [(6, .int 0), (5, .int r37), (4, .int 0), (0, .ref x), (1, .int p0), (2, .int wk), (3, .int wh)]) dX11_plan_60 (by decide) rfl rfl ?_
      refine x_aload_n C dX11_plan_62 rfl 3 rfl rfl ?_
      refine x_get C (ci := 10) (k := 2) 0 k_0 rfl in_X11 (by decide) w_387 rfl dX11_plan_63 rfl ?_
      refine x_get C (ci := 8) (k := 3) 5 k_1 rfl in_X9 (by decide) w_204 rfl dX11_plan_66 rfl ?_
      refine x_iload_n C dX11_plan_69 rfl 4 rfl rfl ?_
      refine x_vi C (As := [.int p0]) (rest := []) (t_People_isTold0 E l ws 9 k_2 p0) mf_X5_isTold w_465 9 k_2 rfl rfl rfl (Nat.le_of_ble_eq_true rfl) ⟨(Nat.le_of_ble_eq_true rfl), (Nat.le_of_ble_eq_true rfl)⟩ ⟨(Nat.le_of_ble_eq_true rfl), (Nat.le_of_ble_eq_true rfl)⟩ dX11_plan_70 rfl (fun r47 w48 h46 => ?_)
      obtain ⟨e49, g50⟩ := h46
      refine x_top e49 ?_
      refine x_ws g50 ?_
      refine x_if_eq C (tgt := 109) dX11_plan_73 (by decide) rfl (fun _ => ?_) (fun h => absurd h (by decide))
      refine x_iconst C (v := (-1)) dX11_plan_109 (by decide) rfl ?_
      exact x_zret C hr hlk rfl dX11_plan_110 (by first | rfl | trivial | (simp [bI, b35, b45]; done) | (simp_all [bI]; done))
    · skip
      have b51 := bI_n0 c44
      refine x_iload_n C dX11_plan_44 rfl 4 rfl rfl ?_
      refine x_iload_n C dX11_plan_45 rfl 5 rfl rfl ?_
      refine x_bipush C (v := 10) dX11_plan_46 (by decide) rfl ?_
      refine x_isub C (v := (wh - (10 : Int32))) dX11_plan_48 rfl rfl ?_
      refine x_si C (As := [.int wk, .int (wh - (10 : Int32))]) (rest := []) (t_isIn E l ws wk ((wh - (10 : Int32)))) mf_X11_isIn w_909 rfl rfl (Nat.le_of_ble_eq_true rfl) ⟨(Nat.le_of_ble_eq_true rfl), (Nat.le_of_ble_eq_true rfl)⟩ ⟨(Nat.le_of_ble_eq_true rfl), (Nat.le_of_ble_eq_true rfl)⟩ dX11_plan_49 rfl (fun r53 w54 h52 => ?_)
      refine x_ws h52 ?_
      refine x_if_eq C (tgt := 59) dX11_plan_52 (by decide) rfl (fun c55 => ?_) (fun c55 => ?_)
      · skip
        refine x_iconst C (v := 0) dX11_plan_59 (by decide) rfl ?_
        refine x_istore C (lv' := [(6, .int 0), (5, .int r37), (4, .int 0), (0, .ref x), (1, .int p0), (2, .int wk), (3, .int wh)]) dX11_plan_60 (by decide) rfl rfl ?_
        refine x_aload_n C dX11_plan_62 rfl 3 rfl rfl ?_
        refine x_get C (ci := 10) (k := 2) 0 k_0 rfl in_X11 (by decide) w_387 rfl dX11_plan_63 rfl ?_
        refine x_get C (ci := 8) (k := 3) 5 k_1 rfl in_X9 (by decide) w_204 rfl dX11_plan_66 rfl ?_
        refine x_iload_n C dX11_plan_69 rfl 4 rfl rfl ?_
        refine x_vi C (As := [.int p0]) (rest := []) (t_People_isTold0 E l ws 9 k_2 p0) mf_X5_isTold w_465 9 k_2 rfl rfl rfl (Nat.le_of_ble_eq_true rfl) ⟨(Nat.le_of_ble_eq_true rfl), (Nat.le_of_ble_eq_true rfl)⟩ ⟨(Nat.le_of_ble_eq_true rfl), (Nat.le_of_ble_eq_true rfl)⟩ dX11_plan_70 rfl (fun r57 w58 h56 => ?_)
        obtain ⟨e59, g60⟩ := h56
        refine x_top e59 ?_
        refine x_ws g60 ?_
        refine x_if_eq C (tgt := 109) dX11_plan_73 (by decide) rfl (fun _ => ?_) (fun h => absurd h (by decide))
        refine x_iconst C (v := (-1)) dX11_plan_109 (by decide) rfl ?_
        exact x_zret C hr hlk rfl dX11_plan_110 (by first | rfl | trivial | (simp [bI, b35, b51, c55]; done) | (simp_all [bI]; done))
      · skip
        refine x_iconst C (v := 1) dX11_plan_55 (by decide) rfl ?_
        refine x_goto C (tgt := 60) dX11_plan_56 (by decide) ?_
        refine x_istore C (lv' := [(6, .int 1), (5, .int r37), (4, .int 0), (0, .ref x), (1, .int p0), (2, .int wk), (3, .int wh)]) dX11_plan_60 (by decide) rfl rfl ?_
        refine x_aload_n C dX11_plan_62 rfl 3 rfl rfl ?_
        refine x_get C (ci := 10) (k := 2) 0 k_0 rfl in_X11 (by decide) w_387 rfl dX11_plan_63 rfl ?_
        refine x_get C (ci := 8) (k := 3) 5 k_1 rfl in_X9 (by decide) w_204 rfl dX11_plan_66 rfl ?_
        refine x_iload_n C dX11_plan_69 rfl 4 rfl rfl ?_
        refine x_vi C (As := [.int p0]) (rest := []) (t_People_isTold0 E l ws 9 k_2 p0) mf_X5_isTold w_465 9 k_2 rfl rfl rfl (Nat.le_of_ble_eq_true rfl) ⟨(Nat.le_of_ble_eq_true rfl), (Nat.le_of_ble_eq_true rfl)⟩ ⟨(Nat.le_of_ble_eq_true rfl), (Nat.le_of_ble_eq_true rfl)⟩ dX11_plan_70 rfl (fun r62 w63 h61 => ?_)
        obtain ⟨e64, g65⟩ := h61
        refine x_top e64 ?_
        refine x_ws g65 ?_
        refine x_if_eq C (tgt := 109) dX11_plan_73 (by decide) rfl (fun _ => ?_) (fun h => absurd h (by decide))
        refine x_iconst C (v := (-1)) dX11_plan_109 (by decide) rfl ?_
        exact x_zret C hr hlk rfl dX11_plan_110 (by first | rfl | trivial | (simp [bI, b35, b51, c55]; done) | (simp_all [bI]; done))
theorem dX11_before_0 : decode cX11_before 0 = .ok (.aload_n 0, 1) := by decide +kernel
theorem dX11_before_1 : decode cX11_before 1 = .ok (.getfield 22, 3) := by decide +kernel
theorem dX11_before_4 : decode cX11_before 4 = .ok (.getfield 92, 3) := by decide +kernel
theorem dX11_before_7 : decode cX11_before 7 = .ok (.iload_n 1, 1) := by decide +kernel
theorem dX11_before_8 : decode cX11_before 8 = .ok (.invokevirtual 106, 3) := by decide +kernel
theorem dX11_before_11 : decode cX11_before 11 = .ok (.ifCond .eq 23, 3) := by decide +kernel
theorem dX11_before_34 : decode cX11_before 34 = .ok (.iconst (-1), 1) := by decide +kernel
theorem dX11_before_35 : decode cX11_before 35 = .ok (.ireturn, 1) := by decide +kernel
set_option maxRecDepth 20000 in
set_option maxHeartbeats 4000000 in
theorem t_before (E : xE) (l : Launch) (ws : va_W) {x xt xk xn xp xtr xr xs xl xpl xse ah ald arm ahr ash arw abr aw th tp te tw pl pa pt pb : Nat} {day sx : Int32} (p_0 : Nat) (k_0 : ws[0]? = some (ob x 10 [.ref xt, .ref xk, .ref xn, .ref xp, .ref xtr, .int 0, .ref xr, .ref xs, .ref xl, .ref xpl, .ref xse, .ref ah, .ref ald, .ref arm, .ref ahr, .ref ash, .ref arw, .ref abr, .ref aw])) (p_1 : Nat) (k_1 : ws[5]? = some (ob xn 8 [.int day, .int sx, .ref th, .ref tp, .ref te, .ref tw, .int 0, .int 0, .int 0, .int 0])) (p_2 : Nat) (k_2 : ws[9]? = some (ob tp 4 [.int 0, .ref pl, .ref pa, .ref pt, .ref pb])) (p0 ea n : Int32) : xI E l yX11_before cX11_before 8 (some .int) 2 [.ref x, .int p0, .int ea, .int n] ws (fun r w => r = -1) := by
  refine xI_start (lv := [(0, .ref x), (1, .int p0), (2, .int ea), (3, .int n)]) RX11 (by decide) rfl (Nat.le_of_ble_eq_true rfl) rfl (fun p e s m below meth c A C hr hlk => ?_)
  refine x_aload_n C dX11_before_0 rfl 0 rfl rfl ?_
  refine x_get C (ci := 10) (k := 2) 0 k_0 rfl in_X11 (by decide) w_387 rfl dX11_before_1 rfl ?_
  refine x_get C (ci := 8) (k := 3) 5 k_1 rfl in_X9 (by decide) w_204 rfl dX11_before_4 rfl ?_
  refine x_iload_n C dX11_before_7 rfl 1 rfl rfl ?_
  refine x_vi C (As := [.int p0]) (rest := []) (t_People_isTold0 E l ws 9 k_2 p0) mf_X5_isTold w_465 9 k_2 rfl rfl rfl (Nat.le_of_ble_eq_true rfl) ⟨(Nat.le_of_ble_eq_true rfl), (Nat.le_of_ble_eq_true rfl)⟩ ⟨(Nat.le_of_ble_eq_true rfl), (Nat.le_of_ble_eq_true rfl)⟩ dX11_before_8 rfl (fun r2 w3 h1 => ?_)
  obtain ⟨e4, g5⟩ := h1
  refine x_top e4 ?_
  refine x_ws g5 ?_
  refine x_if_eq C (tgt := 34) dX11_before_11 (by decide) rfl (fun _ => ?_) (fun h => absurd h (by decide))
  refine x_iconst C (v := (-1)) dX11_before_34 (by decide) rfl ?_
  exact x_zret C hr hlk rfl dX11_before_35 (by first | rfl | trivial | (simp [bI]; done) | (simp_all [bI]; done))
theorem dX11_baskets_0 : decode cX11_baskets 0 = .ok (.aload_n 0, 1) := by decide +kernel
theorem dX11_baskets_1 : decode cX11_baskets 1 = .ok (.getfield 22, 3) := by decide +kernel
theorem dX11_baskets_4 : decode cX11_baskets 4 = .ok (.getfield 92, 3) := by decide +kernel
theorem dX11_baskets_7 : decode cX11_baskets 7 = .ok (.iload_n 1, 1) := by decide +kernel
theorem dX11_baskets_8 : decode cX11_baskets 8 = .ok (.invokevirtual 106, 3) := by decide +kernel
theorem dX11_baskets_11 : decode cX11_baskets 11 = .ok (.ifCond .eq 23, 3) := by decide +kernel
theorem dX11_baskets_34 : decode cX11_baskets 34 = .ok (.iconst (-1), 1) := by decide +kernel
theorem dX11_baskets_35 : decode cX11_baskets 35 = .ok (.ireturn, 1) := by decide +kernel
set_option maxRecDepth 20000 in
set_option maxHeartbeats 4000000 in
theorem t_baskets (E : xE) (l : Launch) (ws : va_W) {x xt xk xn xp xtr xr xs xl xpl xse ah ald arm ahr ash arw abr aw th tp te tw pl pa pt pb : Nat} {day sx : Int32} (p_0 : Nat) (k_0 : ws[0]? = some (ob x 10 [.ref xt, .ref xk, .ref xn, .ref xp, .ref xtr, .int 0, .ref xr, .ref xs, .ref xl, .ref xpl, .ref xse, .ref ah, .ref ald, .ref arm, .ref ahr, .ref ash, .ref arw, .ref abr, .ref aw])) (p_1 : Nat) (k_1 : ws[5]? = some (ob xn 8 [.int day, .int sx, .ref th, .ref tp, .ref te, .ref tw, .int 0, .int 0, .int 0, .int 0])) (p_2 : Nat) (k_2 : ws[9]? = some (ob tp 4 [.int 0, .ref pl, .ref pa, .ref pt, .ref pb])) (p0 mi wh : Int32) : xI E l yX11_baskets cX11_baskets 5 (some .int) 2 [.ref x, .int p0, .int mi, .int wh] ws (fun r w => r = -1) := by
  refine xI_start (lv := [(0, .ref x), (1, .int p0), (2, .int mi), (3, .int wh)]) RX11 (by decide) rfl (Nat.le_of_ble_eq_true rfl) rfl (fun p e s m below meth c A C hr hlk => ?_)
  refine x_aload_n C dX11_baskets_0 rfl 0 rfl rfl ?_
  refine x_get C (ci := 10) (k := 2) 0 k_0 rfl in_X11 (by decide) w_387 rfl dX11_baskets_1 rfl ?_
  refine x_get C (ci := 8) (k := 3) 5 k_1 rfl in_X9 (by decide) w_204 rfl dX11_baskets_4 rfl ?_
  refine x_iload_n C dX11_baskets_7 rfl 1 rfl rfl ?_
  refine x_vi C (As := [.int p0]) (rest := []) (t_People_isTold0 E l ws 9 k_2 p0) mf_X5_isTold w_465 9 k_2 rfl rfl rfl (Nat.le_of_ble_eq_true rfl) ⟨(Nat.le_of_ble_eq_true rfl), (Nat.le_of_ble_eq_true rfl)⟩ ⟨(Nat.le_of_ble_eq_true rfl), (Nat.le_of_ble_eq_true rfl)⟩ dX11_baskets_8 rfl (fun r2 w3 h1 => ?_)
  obtain ⟨e4, g5⟩ := h1
  refine x_top e4 ?_
  refine x_ws g5 ?_
  refine x_if_eq C (tgt := 34) dX11_baskets_11 (by decide) rfl (fun _ => ?_) (fun h => absurd h (by decide))
  refine x_iconst C (v := (-1)) dX11_baskets_34 (by decide) rfl ?_
  exact x_zret C hr hlk rfl dX11_baskets_35 (by first | rfl | trivial | (simp [bI]; done) | (simp_all [bI]; done))
theorem dX11_latest_0 : decode cX11_latest 0 = .ok (.aload_n 0, 1) := by decide +kernel
theorem dX11_latest_1 : decode cX11_latest 1 = .ok (.getfield 22, 3) := by decide +kernel
theorem dX11_latest_4 : decode cX11_latest 4 = .ok (.getfield 123, 3) := by decide +kernel
theorem dX11_latest_7 : decode cX11_latest 7 = .ok (.iload_n 1, 1) := by decide +kernel
theorem dX11_latest_8 : decode cX11_latest 8 = .ok (.invokevirtual 257, 3) := by decide +kernel
theorem dX11_latest_11 : decode cX11_latest 11 = .ok (.ifCond .eq 14, 3) := by decide +kernel
theorem dX11_latest_25 : decode cX11_latest 25 = .ok (.iconst (-1), 1) := by decide +kernel
theorem dX11_latest_26 : decode cX11_latest 26 = .ok (.ireturn, 1) := by decide +kernel
set_option maxRecDepth 20000 in
set_option maxHeartbeats 4000000 in
theorem t_latest (E : xE) (l : Launch) (ws : va_W) {x xt xk xn xp xtr xr xs xl xpl xse ah ald arm ahr ash arw abr aw th tp te tw wn wd ww wb wo : Nat} {day sx : Int32} (p_0 : Nat) (k_0 : ws[0]? = some (ob x 10 [.ref xt, .ref xk, .ref xn, .ref xp, .ref xtr, .int 0, .ref xr, .ref xs, .ref xl, .ref xpl, .ref xse, .ref ah, .ref ald, .ref arm, .ref ahr, .ref ash, .ref arw, .ref abr, .ref aw])) (p_1 : Nat) (k_1 : ws[5]? = some (ob xn 8 [.int day, .int sx, .ref th, .ref tp, .ref te, .ref tw, .int 0, .int 0, .int 0, .int 0])) (p_2 : Nat) (k_2 : ws[21]? = some (ob tw 9 [.int 0, .ref wn, .ref wd, .ref ww, .ref wb, .ref wo])) (i k : Int32) : xI E l yX11_latest cX11_latest 5 (some .int) 2 [.ref x, .int i, .int k] ws (fun r w => r = -1) := by
  refine xI_start (lv := [(0, .ref x), (1, .int i), (2, .int k)]) RX11 (by decide) rfl (Nat.le_of_ble_eq_true rfl) rfl (fun p e s m below meth c A C hr hlk => ?_)
  refine x_aload_n C dX11_latest_0 rfl 0 rfl rfl ?_
  refine x_get C (ci := 10) (k := 2) 0 k_0 rfl in_X11 (by decide) w_387 rfl dX11_latest_1 rfl ?_
  refine x_get C (ci := 8) (k := 5) 5 k_1 rfl in_X9 (by decide) w_213 rfl dX11_latest_4 rfl ?_
  refine x_iload_n C dX11_latest_7 rfl 1 rfl rfl ?_
  refine x_vi C (As := [.int i]) (rest := []) (t_Works_isTold0 E l ws 21 k_2 i) mf_X10_isTold w_893 21 k_2 rfl rfl rfl (Nat.le_of_ble_eq_true rfl) ⟨(Nat.le_of_ble_eq_true rfl), (Nat.le_of_ble_eq_true rfl)⟩ ⟨(Nat.le_of_ble_eq_true rfl), (Nat.le_of_ble_eq_true rfl)⟩ dX11_latest_8 rfl (fun r2 w3 h1 => ?_)
  obtain ⟨e4, g5⟩ := h1
  refine x_top e4 ?_
  refine x_ws g5 ?_
  refine x_if_eq C (tgt := 25) dX11_latest_11 (by decide) rfl (fun _ => ?_) (fun h => absurd h (by decide))
  refine x_iconst C (v := (-1)) dX11_latest_25 (by decide) rfl ?_
  exact x_zret C hr hlk rfl dX11_latest_26 (by first | rfl | trivial | (simp [bI]; done) | (simp_all [bI]; done))
theorem dX11_soonest_0 : decode cX11_soonest 0 = .ok (.aload_n 0, 1) := by decide +kernel
theorem dX11_soonest_1 : decode cX11_soonest 1 = .ok (.getfield 22, 3) := by decide +kernel
theorem dX11_soonest_4 : decode cX11_soonest 4 = .ok (.getfield 123, 3) := by decide +kernel
theorem dX11_soonest_7 : decode cX11_soonest 7 = .ok (.iload_n 1, 1) := by decide +kernel
theorem dX11_soonest_8 : decode cX11_soonest 8 = .ok (.invokevirtual 257, 3) := by decide +kernel
theorem dX11_soonest_11 : decode cX11_soonest 11 = .ok (.ifCond .eq 23, 3) := by decide +kernel
theorem dX11_soonest_34 : decode cX11_soonest 34 = .ok (.iconst (-1), 1) := by decide +kernel
theorem dX11_soonest_35 : decode cX11_soonest 35 = .ok (.ireturn, 1) := by decide +kernel
set_option maxRecDepth 20000 in
set_option maxHeartbeats 4000000 in
theorem t_soonest (E : xE) (l : Launch) (ws : va_W) {x xt xk xn xp xtr xr xs xl xpl xse ah ald arm ahr ash arw abr aw th tp te tw wn wd ww wb wo : Nat} {day sx : Int32} (p_0 : Nat) (k_0 : ws[0]? = some (ob x 10 [.ref xt, .ref xk, .ref xn, .ref xp, .ref xtr, .int 0, .ref xr, .ref xs, .ref xl, .ref xpl, .ref xse, .ref ah, .ref ald, .ref arm, .ref ahr, .ref ash, .ref arw, .ref abr, .ref aw])) (p_1 : Nat) (k_1 : ws[5]? = some (ob xn 8 [.int day, .int sx, .ref th, .ref tp, .ref te, .ref tw, .int 0, .int 0, .int 0, .int 0])) (p_2 : Nat) (k_2 : ws[21]? = some (ob tw 9 [.int 0, .ref wn, .ref wd, .ref ww, .ref wb, .ref wo])) (i p0 : Int32) : xI E l yX11_soonest cX11_soonest 7 (some .int) 2 [.ref x, .int i, .int p0] ws (fun r w => r = -1) := by
  refine xI_start (lv := [(0, .ref x), (1, .int i), (2, .int p0)]) RX11 (by decide) rfl (Nat.le_of_ble_eq_true rfl) rfl (fun p e s m below meth c A C hr hlk => ?_)
  refine x_aload_n C dX11_soonest_0 rfl 0 rfl rfl ?_
  refine x_get C (ci := 10) (k := 2) 0 k_0 rfl in_X11 (by decide) w_387 rfl dX11_soonest_1 rfl ?_
  refine x_get C (ci := 8) (k := 5) 5 k_1 rfl in_X9 (by decide) w_213 rfl dX11_soonest_4 rfl ?_
  refine x_iload_n C dX11_soonest_7 rfl 1 rfl rfl ?_
  refine x_vi C (As := [.int i]) (rest := []) (t_Works_isTold0 E l ws 21 k_2 i) mf_X10_isTold w_893 21 k_2 rfl rfl rfl (Nat.le_of_ble_eq_true rfl) ⟨(Nat.le_of_ble_eq_true rfl), (Nat.le_of_ble_eq_true rfl)⟩ ⟨(Nat.le_of_ble_eq_true rfl), (Nat.le_of_ble_eq_true rfl)⟩ dX11_soonest_8 rfl (fun r2 w3 h1 => ?_)
  obtain ⟨e4, g5⟩ := h1
  refine x_top e4 ?_
  refine x_ws g5 ?_
  refine x_if_eq C (tgt := 34) dX11_soonest_11 (by decide) rfl (fun _ => ?_) (fun h => absurd h (by decide))
  refine x_iconst C (v := (-1)) dX11_soonest_34 (by decide) rfl ?_
  exact x_zret C hr hlk rfl dX11_soonest_35 (by first | rfl | trivial | (simp [bI]; done) | (simp_all [bI]; done))
theorem dX11_barter_0 : decode cX11_barter 0 = .ok (.aload_n 0, 1) := by decide +kernel
theorem dX11_barter_1 : decode cX11_barter 1 = .ok (.getfield 22, 3) := by decide +kernel
theorem dX11_barter_4 : decode cX11_barter 4 = .ok (.getfield 92, 3) := by decide +kernel
theorem dX11_barter_7 : decode cX11_barter 7 = .ok (.iload_n 1, 1) := by decide +kernel
theorem dX11_barter_8 : decode cX11_barter 8 = .ok (.invokevirtual 106, 3) := by decide +kernel
theorem dX11_barter_11 : decode cX11_barter 11 = .ok (.ifCond .eq 55, 3) := by decide +kernel
theorem dX11_barter_66 : decode cX11_barter 66 = .ok (.iconst (-1), 1) := by decide +kernel
theorem dX11_barter_67 : decode cX11_barter 67 = .ok (.ireturn, 1) := by decide +kernel
set_option maxRecDepth 20000 in
set_option maxHeartbeats 4000000 in
theorem t_barter (E : xE) (l : Launch) (ws : va_W) {x xt xk xn xp xtr xr xs xl xpl xse ah ald arm ahr ash arw abr aw th tp te tw pl pa pt pb : Nat} {day sx : Int32} (p_0 : Nat) (k_0 : ws[0]? = some (ob x 10 [.ref xt, .ref xk, .ref xn, .ref xp, .ref xtr, .int 0, .ref xr, .ref xs, .ref xl, .ref xpl, .ref xse, .ref ah, .ref ald, .ref arm, .ref ahr, .ref ash, .ref arw, .ref abr, .ref aw])) (p_1 : Nat) (k_1 : ws[5]? = some (ob xn 8 [.int day, .int sx, .ref th, .ref tp, .ref te, .ref tw, .int 0, .int 0, .int 0, .int 0])) (p_2 : Nat) (k_2 : ws[9]? = some (ob tp 4 [.int 0, .ref pl, .ref pa, .ref pt, .ref pb])) (a b wa wb0 wh : Int32) : xI E l yX11_barter cX11_barter 13 (some .int) 2 [.ref x, .int a, .int b, .int wa, .int wb0, .int wh] ws (fun r w => r = -1) := by
  refine xI_start (lv := [(0, .ref x), (1, .int a), (2, .int b), (3, .int wa), (4, .int wb0), (5, .int wh)]) RX11 (by decide) rfl (Nat.le_of_ble_eq_true rfl) rfl (fun p e s m below meth c A C hr hlk => ?_)
  refine x_aload_n C dX11_barter_0 rfl 0 rfl rfl ?_
  refine x_get C (ci := 10) (k := 2) 0 k_0 rfl in_X11 (by decide) w_387 rfl dX11_barter_1 rfl ?_
  refine x_get C (ci := 8) (k := 3) 5 k_1 rfl in_X9 (by decide) w_204 rfl dX11_barter_4 rfl ?_
  refine x_iload_n C dX11_barter_7 rfl 1 rfl rfl ?_
  refine x_vi C (As := [.int a]) (rest := []) (t_People_isTold0 E l ws 9 k_2 a) mf_X5_isTold w_465 9 k_2 rfl rfl rfl (Nat.le_of_ble_eq_true rfl) ⟨(Nat.le_of_ble_eq_true rfl), (Nat.le_of_ble_eq_true rfl)⟩ ⟨(Nat.le_of_ble_eq_true rfl), (Nat.le_of_ble_eq_true rfl)⟩ dX11_barter_8 rfl (fun r2 w3 h1 => ?_)
  obtain ⟨e4, g5⟩ := h1
  refine x_top e4 ?_
  refine x_ws g5 ?_
  refine x_if_eq C (tgt := 66) dX11_barter_11 (by decide) rfl (fun _ => ?_) (fun h => absurd h (by decide))
  refine x_iconst C (v := (-1)) dX11_barter_66 (by decide) rfl ?_
  exact x_zret C hr hlk rfl dX11_barter_67 (by first | rfl | trivial | (simp [bI]; done) | (simp_all [bI]; done))
theorem dX11_seed_0 : decode cX11_seed 0 = .ok (.iload_n 1, 1) := by decide +kernel
theorem dX11_seed_1 : decode cX11_seed 1 = .ok (.iconst 0, 1) := by decide +kernel
theorem dX11_seed_2 : decode cX11_seed 2 = .ok (.ldc_w 393, 3) := by decide +kernel
theorem dX11_seed_5 : decode cX11_seed 5 = .ok (.invokestatic 102, 3) := by decide +kernel
theorem dX11_seed_8 : decode cX11_seed 8 = .ok (.ifCond .ne 5, 3) := by decide +kernel
theorem dX11_seed_11 : decode cX11_seed 11 = .ok (.iconst 0, 1) := by decide +kernel
theorem dX11_seed_12 : decode cX11_seed 12 = .ok (.ireturn, 1) := by decide +kernel
theorem dX11_seed_13 : decode cX11_seed 13 = .ok (.aload_n 0, 1) := by decide +kernel
theorem dX11_seed_14 : decode cX11_seed 14 = .ok (.getfield 22, 3) := by decide +kernel
theorem dX11_seed_17 : decode cX11_seed 17 = .ok (.iload_n 1, 1) := by decide +kernel
theorem dX11_seed_18 : decode cX11_seed 18 = .ok (.putfield 394, 3) := by decide +kernel
theorem dX11_seed_21 : decode cX11_seed 21 = .ok (.iconst 1, 1) := by decide +kernel
theorem dX11_seed_22 : decode cX11_seed 22 = .ok (.ireturn, 1) := by decide +kernel
set_option maxRecDepth 20000 in
set_option maxHeartbeats 4000000 in
theorem t_seed (E : xE) (l : Launch) (ws : va_W) {x xt xk xn xp xtr xr xs xl xpl xse ah ald arm ahr ash arw abr aw th tp te tw : Nat} {day sx : Int32} (p_0 : Nat) (k_0 : ws[0]? = some (ob x 10 [.ref xt, .ref xk, .ref xn, .ref xp, .ref xtr, .int 0, .ref xr, .ref xs, .ref xl, .ref xpl, .ref xse, .ref ah, .ref ald, .ref arm, .ref ahr, .ref ash, .ref arw, .ref abr, .ref aw])) (p_1 : Nat) (k_1 : ws[5]? = some (ob xn 8 [.int day, .int sx, .ref th, .ref tp, .ref te, .ref tw, .int 0, .int 0, .int 0, .int 0])) (sd : Int32) : xI E l yX11_seed cX11_seed 2 (some .boolean) 1 [.ref x, .int sd] ws (fun r w => r = bI (wth sd 0 65535)) := by
  refine xI_start (lv := [(0, .ref x), (1, .int sd)]) RX11 (by decide) rfl (Nat.le_of_ble_eq_true rfl) rfl (fun p e s m below meth c A C hr hlk => ?_)
  refine x_iload_n C dX11_seed_0 rfl 1 rfl rfl ?_
  refine x_iconst C (v := 0) dX11_seed_1 (by decide) rfl ?_
  refine x_ldcw C w_1085 dX11_seed_2 rfl ?_
  refine x_si C (As := [.int sd, .int 0, .int 65535]) (rest := []) (t_isWithin E l ws sd 0 65535) mf_X11_isWithin w_462 rfl rfl (Nat.le_of_ble_eq_true rfl) ⟨(Nat.le_of_ble_eq_true rfl), (Nat.le_of_ble_eq_true rfl)⟩ ⟨(Nat.le_of_ble_eq_true rfl), (Nat.le_of_ble_eq_true rfl)⟩ dX11_seed_5 rfl (fun r2 w3 h1 => ?_)
  obtain ⟨e4, g5⟩ := h1
  refine x_top e4 ?_
  refine x_ws g5 ?_
  refine x_if_ne C (tgt := 13) dX11_seed_8 (by decide) rfl (fun c6 => ?_) (fun c6 => ?_)
  · skip
    have b7 := bI_n0 c6
    refine x_aload_n C dX11_seed_13 rfl 0 rfl rfl ?_
    refine x_get C (ci := 10) (k := 2) 0 k_0 rfl in_X11 (by decide) w_387 rfl dX11_seed_14 rfl ?_
    refine x_iload_n C dX11_seed_17 rfl 1 rfl rfl ?_
    obtain ⟨w8, hw9⟩ : ∃ w : va_W, w = List.set ws 5 (ob xn 8 [.int day, .int sd, .ref th, .ref tp, .ref te, .ref tw, .int 0, .int 0, .int 0, .int 0]) := ⟨_, rfl⟩
    refine x_put C (ci := 8) (k := 1) (ty := .int) 5 k_1 rfl in_X9 tyX9 tyX9_ok nmX9 (by decide) w_199 rfl rfl rfl rfl (Nat.le_of_ble_eq_true rfl) hw9.symm dX11_seed_18 rfl ?_
    have k10 : w8[0]? = some (ob x 10 [.ref xt, .ref xk, .ref xn, .ref xp, .ref xtr, .int 0, .ref xr, .ref xs, .ref xl, .ref xpl, .ref xse, .ref ah, .ref ald, .ref arm, .ref ahr, .ref ash, .ref arw, .ref abr, .ref aw]) := by rw [hw9]; exact set_ne k_0 (by decide)
    have k11 : w8[5]? = some (ob xn 8 [.int day, .int sd, .ref th, .ref tp, .ref te, .ref tw, .int 0, .int 0, .int 0, .int 0]) := by rw [hw9]; exact set_eq k_1
    refine x_iconst C (v := 1) dX11_seed_21 (by decide) rfl ?_
    exact x_zret C hr hlk rfl dX11_seed_22 (by first | rfl | trivial | (simp [bI, b7]; done) | (simp_all [bI]; done))
  · skip
    have b12 := bI_e0 c6
    refine x_iconst C (v := 0) dX11_seed_11 (by decide) rfl ?_
    exact x_zret C hr hlk rfl dX11_seed_12 (by first | rfl | trivial | (simp [bI, b12]; done) | (simp_all [bI]; done))
theorem dX11_undo_0 : decode cX11_undo 0 = .ok (.aload_n 0, 1) := by decide +kernel
theorem dX11_undo_1 : decode cX11_undo 1 = .ok (.getfield 32, 3) := by decide +kernel
theorem dX11_undo_4 : decode cX11_undo 4 = .ok (.ifCond .ne 5, 3) := by decide +kernel
theorem dX11_undo_7 : decode cX11_undo 7 = .ok (.iconst 0, 1) := by decide +kernel
theorem dX11_undo_8 : decode cX11_undo 8 = .ok (.ireturn, 1) := by decide +kernel
set_option maxRecDepth 20000 in
set_option maxHeartbeats 4000000 in
theorem t_undo (E : xE) (l : Launch) (ws : va_W) {x xt xk xn xp xtr xr xs xl xpl xse ah ald arm ahr ash arw abr aw : Nat} (p_0 : Nat) (k_0 : ws[0]? = some (ob x 10 [.ref xt, .ref xk, .ref xn, .ref xp, .ref xtr, .int 0, .ref xr, .ref xs, .ref xl, .ref xpl, .ref xse, .ref ah, .ref ald, .ref arm, .ref ahr, .ref ash, .ref arw, .ref abr, .ref aw])) : xI E l yX11_undo cX11_undo 1 (some .boolean) 1 [.ref x] ws (fun r w => r = 0) := by
  refine xI_start (lv := [(0, .ref x)]) RX11 (by decide) rfl (Nat.le_of_ble_eq_true rfl) rfl (fun p e s m below meth c A C hr hlk => ?_)
  refine x_aload_n C dX11_undo_0 rfl 0 rfl rfl ?_
  refine x_get C (ci := 10) (k := 5) 0 k_0 rfl in_X11 (by decide) w_390 rfl dX11_undo_1 rfl ?_
  refine x_if_ne C (tgt := 9) dX11_undo_4 (by decide) rfl (fun h => absurd h (by decide)) (fun _ => ?_)
  refine x_iconst C (v := 0) dX11_undo_7 (by decide) rfl ?_
  exact x_zret C hr hlk rfl dX11_undo_8 (by first | rfl | trivial | (simp [bI]; done) | (simp_all [bI]; done))
theorem dX11_thefts_0 : decode cX11_thefts 0 = .ok (.aload_n 0, 1) := by decide +kernel
theorem dX11_thefts_1 : decode cX11_thefts 1 = .ok (.getfield 22, 3) := by decide +kernel
theorem dX11_thefts_4 : decode cX11_thefts 4 = .ok (.getfield 92, 3) := by decide +kernel
theorem dX11_thefts_7 : decode cX11_thefts 7 = .ok (.iload_n 1, 1) := by decide +kernel
theorem dX11_thefts_8 : decode cX11_thefts 8 = .ok (.invokevirtual 106, 3) := by decide +kernel
theorem dX11_thefts_11 : decode cX11_thefts 11 = .ok (.ifCond .eq 15, 3) := by decide +kernel
theorem dX11_thefts_26 : decode cX11_thefts 26 = .ok (.iload_n 1, 1) := by decide +kernel
theorem dX11_thefts_27 : decode cX11_thefts 27 = .ok (.bipush 10, 2) := by decide +kernel
theorem dX11_thefts_29 : decode cX11_thefts 29 = .ok (.bipush 11, 2) := by decide +kernel
theorem dX11_thefts_31 : decode cX11_thefts 31 = .ok (.invokestatic 102, 3) := by decide +kernel
theorem dX11_thefts_34 : decode cX11_thefts 34 = .ok (.ifCond .ne 7, 3) := by decide +kernel
theorem dX11_thefts_37 : decode cX11_thefts 37 = .ok (.ldc_w 364, 3) := by decide +kernel
theorem dX11_thefts_40 : decode cX11_thefts 40 = .ok (.ireturn, 1) := by decide +kernel
theorem dX11_thefts_41 : decode cX11_thefts 41 = .ok (.iconst 0, 1) := by decide +kernel
theorem dX11_thefts_42 : decode cX11_thefts 42 = .ok (.istore_n 2, 1) := by decide +kernel
theorem dX11_thefts_43 : decode cX11_thefts 43 = .ok (.bipush (-2), 2) := by decide +kernel
theorem dX11_thefts_45 : decode cX11_thefts 45 = .ok (.istore_n 3, 1) := by decide +kernel
theorem dX11_thefts_46 : decode cX11_thefts 46 = .ok (.iconst 0, 1) := by decide +kernel
theorem dX11_thefts_47 : decode cX11_thefts 47 = .ok (.istore 4, 2) := by decide +kernel
theorem dX11_thefts_49 : decode cX11_thefts 49 = .ok (.iconst 0, 1) := by decide +kernel
theorem dX11_thefts_50 : decode cX11_thefts 50 = .ok (.istore 5, 2) := by decide +kernel
theorem dX11_thefts_52 : decode cX11_thefts 52 = .ok (.iload 5, 2) := by decide +kernel
theorem dX11_thefts_54 : decode cX11_thefts 54 = .ok (.bipush 8, 2) := by decide +kernel
theorem dX11_thefts_56 : decode cX11_thefts 56 = .ok (.if_icmp .ge 77, 3) := by decide +kernel
theorem dX11_thefts_59 : decode cX11_thefts 59 = .ok (.aload_n 0, 1) := by decide +kernel
theorem dX11_thefts_60 : decode cX11_thefts 60 = .ok (.getfield 22, 3) := by decide +kernel
theorem dX11_thefts_63 : decode cX11_thefts 63 = .ok (.getfield 92, 3) := by decide +kernel
theorem dX11_thefts_66 : decode cX11_thefts 66 = .ok (.iload 5, 2) := by decide +kernel
theorem dX11_thefts_68 : decode cX11_thefts 68 = .ok (.invokevirtual 106, 3) := by decide +kernel
theorem dX11_thefts_71 : decode cX11_thefts 71 = .ok (.ifCond .eq 18, 3) := by decide +kernel
theorem dX11_thefts_89 : decode cX11_thefts 89 = .ok (.iconst 0, 1) := by decide +kernel
theorem dX11_thefts_90 : decode cX11_thefts 90 = .ok (.istore 6, 2) := by decide +kernel
theorem dX11_thefts_92 : decode cX11_thefts 92 = .ok (.iload 4, 2) := by decide +kernel
theorem dX11_thefts_94 : decode cX11_thefts 94 = .ok (.iload 6, 2) := by decide +kernel
theorem dX11_thefts_96 : decode cX11_thefts 96 = .ok (.ifCond .le 7, 3) := by decide +kernel
theorem dX11_thefts_103 : decode cX11_thefts 103 = .ok (.iconst 0, 1) := by decide +kernel
theorem dX11_thefts_104 : decode cX11_thefts 104 = .ok (.iadd, 1) := by decide +kernel
theorem dX11_thefts_105 : decode cX11_thefts 105 = .ok (.istore 4, 2) := by decide +kernel
theorem dX11_thefts_107 : decode cX11_thefts 107 = .ok (.iload 6, 2) := by decide +kernel
theorem dX11_thefts_109 : decode cX11_thefts 109 = .ok (.iload_n 2, 1) := by decide +kernel
theorem dX11_thefts_110 : decode cX11_thefts 110 = .ok (.if_icmp .le 8, 3) := by decide +kernel
theorem dX11_thefts_118 : decode cX11_thefts 118 = .ok (.iload_n 3, 1) := by decide +kernel
theorem dX11_thefts_119 : decode cX11_thefts 119 = .ok (.istore_n 3, 1) := by decide +kernel
theorem dX11_thefts_120 : decode cX11_thefts 120 = .ok (.iload_n 2, 1) := by decide +kernel
theorem dX11_thefts_121 : decode cX11_thefts 121 = .ok (.iload 6, 2) := by decide +kernel
theorem dX11_thefts_123 : decode cX11_thefts 123 = .ok (.invokestatic 330, 3) := by decide +kernel
theorem dX11_thefts_126 : decode cX11_thefts 126 = .ok (.istore_n 2, 1) := by decide +kernel
theorem dX11_thefts_127 : decode cX11_thefts 127 = .ok (.iinc 5 1, 3) := by decide +kernel
theorem dX11_thefts_130 : decode cX11_thefts 130 = .ok (.goto (-78), 3) := by decide +kernel
theorem dX11_thefts_133 : decode cX11_thefts 133 = .ok (.iload_n 1, 1) := by decide +kernel
theorem dX11_thefts_134 : decode cX11_thefts 134 = .ok (.bipush 10, 2) := by decide +kernel
theorem dX11_thefts_136 : decode cX11_thefts 136 = .ok (.if_icmp .ne 7, 3) := by decide +kernel
theorem dX11_thefts_139 : decode cX11_thefts 139 = .ok (.iload_n 3, 1) := by decide +kernel
theorem dX11_thefts_140 : decode cX11_thefts 140 = .ok (.goto 5, 3) := by decide +kernel
theorem dX11_thefts_143 : decode cX11_thefts 143 = .ok (.iload 4, 2) := by decide +kernel
theorem dX11_thefts_145 : decode cX11_thefts 145 = .ok (.ireturn, 1) := by decide +kernel
set_option maxRecDepth 20000 in
set_option maxHeartbeats 4000000 in
theorem t_thefts (E : xE) (l : Launch) (ws : va_W) {x xt xk xn xp xtr xr xs xl xpl xse ah ald arm ahr ash arw abr aw th tp te tw pl pa pt pb : Nat} {day sx : Int32} (p_0 : Nat) (k_0 : ws[0]? = some (ob x 10 [.ref xt, .ref xk, .ref xn, .ref xp, .ref xtr, .int 0, .ref xr, .ref xs, .ref xl, .ref xpl, .ref xse, .ref ah, .ref ald, .ref arm, .ref ahr, .ref ash, .ref arw, .ref abr, .ref aw])) (p_1 : Nat) (k_1 : ws[5]? = some (ob xn 8 [.int day, .int sx, .ref th, .ref tp, .ref te, .ref tw, .int 0, .int 0, .int 0, .int 0])) (p_2 : Nat) (k_2 : ws[9]? = some (ob tp 4 [.int 0, .ref pl, .ref pa, .ref pt, .ref pb])) (wh : Int32) : xI E l yX11_thefts cX11_thefts 7 (some .int) 2 [.ref x, .int wh] ws (fun r w => r = thf wh) := by
  refine xI_start (lv := [(0, .ref x), (1, .int wh)]) RX11 (by decide) rfl (Nat.le_of_ble_eq_true rfl) rfl (fun p e s m below meth c A C hr hlk => ?_)
  refine x_aload_n C dX11_thefts_0 rfl 0 rfl rfl ?_
  refine x_get C (ci := 10) (k := 2) 0 k_0 rfl in_X11 (by decide) w_387 rfl dX11_thefts_1 rfl ?_
  refine x_get C (ci := 8) (k := 3) 5 k_1 rfl in_X9 (by decide) w_204 rfl dX11_thefts_4 rfl ?_
  refine x_iload_n C dX11_thefts_7 rfl 1 rfl rfl ?_
  refine x_vi C (As := [.int wh]) (rest := []) (t_People_isTold0 E l ws 9 k_2 wh) mf_X5_isTold w_465 9 k_2 rfl rfl rfl (Nat.le_of_ble_eq_true rfl) ⟨(Nat.le_of_ble_eq_true rfl), (Nat.le_of_ble_eq_true rfl)⟩ ⟨(Nat.le_of_ble_eq_true rfl), (Nat.le_of_ble_eq_true rfl)⟩ dX11_thefts_8 rfl (fun r2 w3 h1 => ?_)
  obtain ⟨e4, g5⟩ := h1
  refine x_top e4 ?_
  refine x_ws g5 ?_
  refine x_if_eq C (tgt := 26) dX11_thefts_11 (by decide) rfl (fun _ => ?_) (fun h => absurd h (by decide))
  refine x_iload_n C dX11_thefts_26 rfl 1 rfl rfl ?_
  refine x_bipush C (v := 10) dX11_thefts_27 (by decide) rfl ?_
  refine x_bipush C (v := 11) dX11_thefts_29 (by decide) rfl ?_
  refine x_si C (As := [.int wh, .int 10, .int 11]) (rest := []) (t_isWithin E l ws wh 10 11) mf_X11_isWithin w_462 rfl rfl (Nat.le_of_ble_eq_true rfl) ⟨(Nat.le_of_ble_eq_true rfl), (Nat.le_of_ble_eq_true rfl)⟩ ⟨(Nat.le_of_ble_eq_true rfl), (Nat.le_of_ble_eq_true rfl)⟩ dX11_thefts_31 rfl (fun r7 w8 h6 => ?_)
  obtain ⟨e9, g10⟩ := h6
  refine x_top e9 ?_
  refine x_ws g10 ?_
  refine x_if_ne C (tgt := 41) dX11_thefts_34 (by decide) rfl (fun c11 => ?_) (fun c11 => ?_)
  · skip
    have b12 := bI_n0 c11
    refine x_iconst C (v := 0) dX11_thefts_41 (by decide) rfl ?_
    refine x_istore_n C (lv' := [(2, .int 0), (0, .ref x), (1, .int wh)]) dX11_thefts_42 rfl (by decide) rfl rfl ?_
    refine x_bipush C (v := (-2)) dX11_thefts_43 (by decide) rfl ?_
    refine x_istore_n C (lv' := [(3, .int (-2)), (2, .int 0), (0, .ref x), (1, .int wh)]) dX11_thefts_45 rfl (by decide) rfl rfl ?_
    refine x_iconst C (v := 0) dX11_thefts_46 (by decide) rfl ?_
    refine x_istore C (lv' := [(4, .int 0), (3, .int (-2)), (2, .int 0), (0, .ref x), (1, .int wh)]) dX11_thefts_47 (by decide) rfl rfl ?_
    refine x_iconst C (v := 0) dX11_thefts_49 (by decide) rfl ?_
    refine x_istore C (lv' := [(5, .int 0), (4, .int 0), (3, .int (-2)), (2, .int 0), (0, .ref x), (1, .int wh)]) dX11_thefts_50 (by decide) rfl rfl ?_
    refine x_iload C dX11_thefts_52 0 rfl rfl ?_
    refine x_bipush C (v := 8) dX11_thefts_54 (by decide) rfl ?_
    refine x_icmp_ge C (tgt := 133) dX11_thefts_56 (by decide) rfl (fun h => absurd h (by decide)) (fun _ => ?_)
    refine x_aload_n C dX11_thefts_59 rfl 4 rfl rfl ?_
    refine x_get C (ci := 10) (k := 2) 0 k_0 rfl in_X11 (by decide) w_387 rfl dX11_thefts_60 rfl ?_
    refine x_get C (ci := 8) (k := 3) 5 k_1 rfl in_X9 (by decide) w_204 rfl dX11_thefts_63 rfl ?_
    refine x_iload C dX11_thefts_66 0 rfl rfl ?_
    refine x_vi C (As := [.int 0]) (rest := []) (t_People_isTold0 E l ws 9 k_2 0) mf_X5_isTold w_465 9 k_2 rfl rfl rfl (Nat.le_of_ble_eq_true rfl) ⟨(Nat.le_of_ble_eq_true rfl), (Nat.le_of_ble_eq_true rfl)⟩ ⟨(Nat.le_of_ble_eq_true rfl), (Nat.le_of_ble_eq_true rfl)⟩ dX11_thefts_68 rfl (fun r14 w15 h13 => ?_)
    obtain ⟨e16, g17⟩ := h13
    refine x_top e16 ?_
    refine x_ws g17 ?_
    refine x_if_eq C (tgt := 89) dX11_thefts_71 (by decide) rfl (fun _ => ?_) (fun h => absurd h (by decide))
    refine x_iconst C (v := 0) dX11_thefts_89 (by decide) rfl ?_
    refine x_istore C (lv' := [(6, .int 0), (5, .int 0), (4, .int 0), (3, .int (-2)), (2, .int 0), (0, .ref x), (1, .int wh)]) dX11_thefts_90 (by decide) rfl rfl ?_
    refine x_iload C dX11_thefts_92 2 rfl rfl ?_
    refine x_iload C dX11_thefts_94 0 rfl rfl ?_
    refine x_if_le C (tgt := 103) dX11_thefts_96 (by decide) rfl (fun _ => ?_) (fun h => absurd h (by decide))
    refine x_iconst C (v := 0) dX11_thefts_103 (by decide) rfl ?_
    refine x_iadd C (v := 0) dX11_thefts_104 (by decide) rfl ?_
    refine x_istore C (lv' := [(4, .int 0), (6, .int 0), (5, .int 0), (3, .int (-2)), (2, .int 0), (0, .ref x), (1, .int wh)]) dX11_thefts_105 (by decide) rfl rfl ?_
    refine x_iload C dX11_thefts_107 1 rfl rfl ?_
    refine x_iload_n C dX11_thefts_109 rfl 4 rfl rfl ?_
    refine x_icmp_le C (tgt := 118) dX11_thefts_110 (by decide) rfl (fun _ => ?_) (fun h => absurd h (by decide))
    refine x_iload_n C dX11_thefts_118 rfl 3 rfl rfl ?_
    refine x_istore_n C (lv' := [(3, .int (-2)), (4, .int 0), (6, .int 0), (5, .int 0), (2, .int 0), (0, .ref x), (1, .int wh)]) dX11_thefts_119 rfl (by decide) rfl rfl ?_
    refine x_iload_n C dX11_thefts_120 rfl 4 rfl rfl ?_
    refine x_iload C dX11_thefts_121 2 rfl rfl ?_
    refine x_mmax C (v := 0) w_992 w_558 w_16 w_559 (Nat.le_of_ble_eq_true rfl) (Nat.le_of_ble_eq_true rfl) (Nat.le_of_ble_eq_true rfl) (Nat.le_of_ble_eq_true rfl) (by decide) dX11_thefts_123 rfl ?_
    refine x_istore_n C (lv' := [(2, .int 0), (3, .int (-2)), (4, .int 0), (6, .int 0), (5, .int 0), (0, .ref x), (1, .int wh)]) dX11_thefts_126 rfl (by decide) rfl rfl ?_
    refine x_iinc C (v := 1) (lv' := [(5, .int 1), (2, .int 0), (3, .int (-2)), (4, .int 0), (6, .int 0), (0, .ref x), (1, .int wh)]) dX11_thefts_127 4 rfl (by decide) (by decide) rfl rfl ?_
    refine x_goto C (tgt := 52) dX11_thefts_130 (by decide) ?_
    refine x_iload C dX11_thefts_52 0 rfl rfl ?_
    refine x_bipush C (v := 8) dX11_thefts_54 (by decide) rfl ?_
    refine x_icmp_ge C (tgt := 133) dX11_thefts_56 (by decide) rfl (fun h => absurd h (by decide)) (fun _ => ?_)
    refine x_aload_n C dX11_thefts_59 rfl 5 rfl rfl ?_
    refine x_get C (ci := 10) (k := 2) 0 k_0 rfl in_X11 (by decide) w_387 rfl dX11_thefts_60 rfl ?_
    refine x_get C (ci := 8) (k := 3) 5 k_1 rfl in_X9 (by decide) w_204 rfl dX11_thefts_63 rfl ?_
    refine x_iload C dX11_thefts_66 0 rfl rfl ?_
    refine x_vi C (As := [.int 1]) (rest := []) (t_People_isTold0 E l ws 9 k_2 1) mf_X5_isTold w_465 9 k_2 rfl rfl rfl (Nat.le_of_ble_eq_true rfl) ⟨(Nat.le_of_ble_eq_true rfl), (Nat.le_of_ble_eq_true rfl)⟩ ⟨(Nat.le_of_ble_eq_true rfl), (Nat.le_of_ble_eq_true rfl)⟩ dX11_thefts_68 rfl (fun r19 w20 h18 => ?_)
    obtain ⟨e21, g22⟩ := h18
    refine x_top e21 ?_
    refine x_ws g22 ?_
    refine x_if_eq C (tgt := 89) dX11_thefts_71 (by decide) rfl (fun _ => ?_) (fun h => absurd h (by decide))
    refine x_iconst C (v := 0) dX11_thefts_89 (by decide) rfl ?_
    refine x_istore C (lv' := [(6, .int 0), (5, .int 1), (2, .int 0), (3, .int (-2)), (4, .int 0), (0, .ref x), (1, .int wh)]) dX11_thefts_90 (by decide) rfl rfl ?_
    refine x_iload C dX11_thefts_92 4 rfl rfl ?_
    refine x_iload C dX11_thefts_94 0 rfl rfl ?_
    refine x_if_le C (tgt := 103) dX11_thefts_96 (by decide) rfl (fun _ => ?_) (fun h => absurd h (by decide))
    refine x_iconst C (v := 0) dX11_thefts_103 (by decide) rfl ?_
    refine x_iadd C (v := 0) dX11_thefts_104 (by decide) rfl ?_
    refine x_istore C (lv' := [(4, .int 0), (6, .int 0), (5, .int 1), (2, .int 0), (3, .int (-2)), (0, .ref x), (1, .int wh)]) dX11_thefts_105 (by decide) rfl rfl ?_
    refine x_iload C dX11_thefts_107 1 rfl rfl ?_
    refine x_iload_n C dX11_thefts_109 rfl 3 rfl rfl ?_
    refine x_icmp_le C (tgt := 118) dX11_thefts_110 (by decide) rfl (fun _ => ?_) (fun h => absurd h (by decide))
    refine x_iload_n C dX11_thefts_118 rfl 4 rfl rfl ?_
    refine x_istore_n C (lv' := [(3, .int (-2)), (4, .int 0), (6, .int 0), (5, .int 1), (2, .int 0), (0, .ref x), (1, .int wh)]) dX11_thefts_119 rfl (by decide) rfl rfl ?_
    refine x_iload_n C dX11_thefts_120 rfl 4 rfl rfl ?_
    refine x_iload C dX11_thefts_121 2 rfl rfl ?_
    refine x_mmax C (v := 0) w_992 w_558 w_16 w_559 (Nat.le_of_ble_eq_true rfl) (Nat.le_of_ble_eq_true rfl) (Nat.le_of_ble_eq_true rfl) (Nat.le_of_ble_eq_true rfl) (by decide) dX11_thefts_123 rfl ?_
    refine x_istore_n C (lv' := [(2, .int 0), (3, .int (-2)), (4, .int 0), (6, .int 0), (5, .int 1), (0, .ref x), (1, .int wh)]) dX11_thefts_126 rfl (by decide) rfl rfl ?_
    refine x_iinc C (v := 2) (lv' := [(5, .int 2), (2, .int 0), (3, .int (-2)), (4, .int 0), (6, .int 0), (0, .ref x), (1, .int wh)]) dX11_thefts_127 4 rfl (by decide) (by decide) rfl rfl ?_
    refine x_goto C (tgt := 52) dX11_thefts_130 (by decide) ?_
    refine x_iload C dX11_thefts_52 0 rfl rfl ?_
    refine x_bipush C (v := 8) dX11_thefts_54 (by decide) rfl ?_
    refine x_icmp_ge C (tgt := 133) dX11_thefts_56 (by decide) rfl (fun h => absurd h (by decide)) (fun _ => ?_)
    refine x_aload_n C dX11_thefts_59 rfl 5 rfl rfl ?_
    refine x_get C (ci := 10) (k := 2) 0 k_0 rfl in_X11 (by decide) w_387 rfl dX11_thefts_60 rfl ?_
    refine x_get C (ci := 8) (k := 3) 5 k_1 rfl in_X9 (by decide) w_204 rfl dX11_thefts_63 rfl ?_
    refine x_iload C dX11_thefts_66 0 rfl rfl ?_
    refine x_vi C (As := [.int 2]) (rest := []) (t_People_isTold0 E l ws 9 k_2 2) mf_X5_isTold w_465 9 k_2 rfl rfl rfl (Nat.le_of_ble_eq_true rfl) ⟨(Nat.le_of_ble_eq_true rfl), (Nat.le_of_ble_eq_true rfl)⟩ ⟨(Nat.le_of_ble_eq_true rfl), (Nat.le_of_ble_eq_true rfl)⟩ dX11_thefts_68 rfl (fun r24 w25 h23 => ?_)
    obtain ⟨e26, g27⟩ := h23
    refine x_top e26 ?_
    refine x_ws g27 ?_
    refine x_if_eq C (tgt := 89) dX11_thefts_71 (by decide) rfl (fun _ => ?_) (fun h => absurd h (by decide))
    refine x_iconst C (v := 0) dX11_thefts_89 (by decide) rfl ?_
    refine x_istore C (lv' := [(6, .int 0), (5, .int 2), (2, .int 0), (3, .int (-2)), (4, .int 0), (0, .ref x), (1, .int wh)]) dX11_thefts_90 (by decide) rfl rfl ?_
    refine x_iload C dX11_thefts_92 4 rfl rfl ?_
    refine x_iload C dX11_thefts_94 0 rfl rfl ?_
    refine x_if_le C (tgt := 103) dX11_thefts_96 (by decide) rfl (fun _ => ?_) (fun h => absurd h (by decide))
    refine x_iconst C (v := 0) dX11_thefts_103 (by decide) rfl ?_
    refine x_iadd C (v := 0) dX11_thefts_104 (by decide) rfl ?_
    refine x_istore C (lv' := [(4, .int 0), (6, .int 0), (5, .int 2), (2, .int 0), (3, .int (-2)), (0, .ref x), (1, .int wh)]) dX11_thefts_105 (by decide) rfl rfl ?_
    refine x_iload C dX11_thefts_107 1 rfl rfl ?_
    refine x_iload_n C dX11_thefts_109 rfl 3 rfl rfl ?_
    refine x_icmp_le C (tgt := 118) dX11_thefts_110 (by decide) rfl (fun _ => ?_) (fun h => absurd h (by decide))
    refine x_iload_n C dX11_thefts_118 rfl 4 rfl rfl ?_
    refine x_istore_n C (lv' := [(3, .int (-2)), (4, .int 0), (6, .int 0), (5, .int 2), (2, .int 0), (0, .ref x), (1, .int wh)]) dX11_thefts_119 rfl (by decide) rfl rfl ?_
    refine x_iload_n C dX11_thefts_120 rfl 4 rfl rfl ?_
    refine x_iload C dX11_thefts_121 2 rfl rfl ?_
    refine x_mmax C (v := 0) w_992 w_558 w_16 w_559 (Nat.le_of_ble_eq_true rfl) (Nat.le_of_ble_eq_true rfl) (Nat.le_of_ble_eq_true rfl) (Nat.le_of_ble_eq_true rfl) (by decide) dX11_thefts_123 rfl ?_
    refine x_istore_n C (lv' := [(2, .int 0), (3, .int (-2)), (4, .int 0), (6, .int 0), (5, .int 2), (0, .ref x), (1, .int wh)]) dX11_thefts_126 rfl (by decide) rfl rfl ?_
    refine x_iinc C (v := 3) (lv' := [(5, .int 3), (2, .int 0), (3, .int (-2)), (4, .int 0), (6, .int 0), (0, .ref x), (1, .int wh)]) dX11_thefts_127 4 rfl (by decide) (by decide) rfl rfl ?_
    refine x_goto C (tgt := 52) dX11_thefts_130 (by decide) ?_
    refine x_iload C dX11_thefts_52 0 rfl rfl ?_
    refine x_bipush C (v := 8) dX11_thefts_54 (by decide) rfl ?_
    refine x_icmp_ge C (tgt := 133) dX11_thefts_56 (by decide) rfl (fun h => absurd h (by decide)) (fun _ => ?_)
    refine x_aload_n C dX11_thefts_59 rfl 5 rfl rfl ?_
    refine x_get C (ci := 10) (k := 2) 0 k_0 rfl in_X11 (by decide) w_387 rfl dX11_thefts_60 rfl ?_
    refine x_get C (ci := 8) (k := 3) 5 k_1 rfl in_X9 (by decide) w_204 rfl dX11_thefts_63 rfl ?_
    refine x_iload C dX11_thefts_66 0 rfl rfl ?_
    refine x_vi C (As := [.int 3]) (rest := []) (t_People_isTold0 E l ws 9 k_2 3) mf_X5_isTold w_465 9 k_2 rfl rfl rfl (Nat.le_of_ble_eq_true rfl) ⟨(Nat.le_of_ble_eq_true rfl), (Nat.le_of_ble_eq_true rfl)⟩ ⟨(Nat.le_of_ble_eq_true rfl), (Nat.le_of_ble_eq_true rfl)⟩ dX11_thefts_68 rfl (fun r29 w30 h28 => ?_)
    obtain ⟨e31, g32⟩ := h28
    refine x_top e31 ?_
    refine x_ws g32 ?_
    refine x_if_eq C (tgt := 89) dX11_thefts_71 (by decide) rfl (fun _ => ?_) (fun h => absurd h (by decide))
    refine x_iconst C (v := 0) dX11_thefts_89 (by decide) rfl ?_
    refine x_istore C (lv' := [(6, .int 0), (5, .int 3), (2, .int 0), (3, .int (-2)), (4, .int 0), (0, .ref x), (1, .int wh)]) dX11_thefts_90 (by decide) rfl rfl ?_
    refine x_iload C dX11_thefts_92 4 rfl rfl ?_
    refine x_iload C dX11_thefts_94 0 rfl rfl ?_
    refine x_if_le C (tgt := 103) dX11_thefts_96 (by decide) rfl (fun _ => ?_) (fun h => absurd h (by decide))
    refine x_iconst C (v := 0) dX11_thefts_103 (by decide) rfl ?_
    refine x_iadd C (v := 0) dX11_thefts_104 (by decide) rfl ?_
    refine x_istore C (lv' := [(4, .int 0), (6, .int 0), (5, .int 3), (2, .int 0), (3, .int (-2)), (0, .ref x), (1, .int wh)]) dX11_thefts_105 (by decide) rfl rfl ?_
    refine x_iload C dX11_thefts_107 1 rfl rfl ?_
    refine x_iload_n C dX11_thefts_109 rfl 3 rfl rfl ?_
    refine x_icmp_le C (tgt := 118) dX11_thefts_110 (by decide) rfl (fun _ => ?_) (fun h => absurd h (by decide))
    refine x_iload_n C dX11_thefts_118 rfl 4 rfl rfl ?_
    refine x_istore_n C (lv' := [(3, .int (-2)), (4, .int 0), (6, .int 0), (5, .int 3), (2, .int 0), (0, .ref x), (1, .int wh)]) dX11_thefts_119 rfl (by decide) rfl rfl ?_
    refine x_iload_n C dX11_thefts_120 rfl 4 rfl rfl ?_
    refine x_iload C dX11_thefts_121 2 rfl rfl ?_
    refine x_mmax C (v := 0) w_992 w_558 w_16 w_559 (Nat.le_of_ble_eq_true rfl) (Nat.le_of_ble_eq_true rfl) (Nat.le_of_ble_eq_true rfl) (Nat.le_of_ble_eq_true rfl) (by decide) dX11_thefts_123 rfl ?_
    refine x_istore_n C (lv' := [(2, .int 0), (3, .int (-2)), (4, .int 0), (6, .int 0), (5, .int 3), (0, .ref x), (1, .int wh)]) dX11_thefts_126 rfl (by decide) rfl rfl ?_
    refine x_iinc C (v := 4) (lv' := [(5, .int 4), (2, .int 0), (3, .int (-2)), (4, .int 0), (6, .int 0), (0, .ref x), (1, .int wh)]) dX11_thefts_127 4 rfl (by decide) (by decide) rfl rfl ?_
    refine x_goto C (tgt := 52) dX11_thefts_130 (by decide) ?_
    refine x_iload C dX11_thefts_52 0 rfl rfl ?_
    refine x_bipush C (v := 8) dX11_thefts_54 (by decide) rfl ?_
    refine x_icmp_ge C (tgt := 133) dX11_thefts_56 (by decide) rfl (fun h => absurd h (by decide)) (fun _ => ?_)
    refine x_aload_n C dX11_thefts_59 rfl 5 rfl rfl ?_
    refine x_get C (ci := 10) (k := 2) 0 k_0 rfl in_X11 (by decide) w_387 rfl dX11_thefts_60 rfl ?_
    refine x_get C (ci := 8) (k := 3) 5 k_1 rfl in_X9 (by decide) w_204 rfl dX11_thefts_63 rfl ?_
    refine x_iload C dX11_thefts_66 0 rfl rfl ?_
    refine x_vi C (As := [.int 4]) (rest := []) (t_People_isTold0 E l ws 9 k_2 4) mf_X5_isTold w_465 9 k_2 rfl rfl rfl (Nat.le_of_ble_eq_true rfl) ⟨(Nat.le_of_ble_eq_true rfl), (Nat.le_of_ble_eq_true rfl)⟩ ⟨(Nat.le_of_ble_eq_true rfl), (Nat.le_of_ble_eq_true rfl)⟩ dX11_thefts_68 rfl (fun r34 w35 h33 => ?_)
    obtain ⟨e36, g37⟩ := h33
    refine x_top e36 ?_
    refine x_ws g37 ?_
    refine x_if_eq C (tgt := 89) dX11_thefts_71 (by decide) rfl (fun _ => ?_) (fun h => absurd h (by decide))
    refine x_iconst C (v := 0) dX11_thefts_89 (by decide) rfl ?_
    refine x_istore C (lv' := [(6, .int 0), (5, .int 4), (2, .int 0), (3, .int (-2)), (4, .int 0), (0, .ref x), (1, .int wh)]) dX11_thefts_90 (by decide) rfl rfl ?_
    refine x_iload C dX11_thefts_92 4 rfl rfl ?_
    refine x_iload C dX11_thefts_94 0 rfl rfl ?_
    refine x_if_le C (tgt := 103) dX11_thefts_96 (by decide) rfl (fun _ => ?_) (fun h => absurd h (by decide))
    refine x_iconst C (v := 0) dX11_thefts_103 (by decide) rfl ?_
    refine x_iadd C (v := 0) dX11_thefts_104 (by decide) rfl ?_
    refine x_istore C (lv' := [(4, .int 0), (6, .int 0), (5, .int 4), (2, .int 0), (3, .int (-2)), (0, .ref x), (1, .int wh)]) dX11_thefts_105 (by decide) rfl rfl ?_
    refine x_iload C dX11_thefts_107 1 rfl rfl ?_
    refine x_iload_n C dX11_thefts_109 rfl 3 rfl rfl ?_
    refine x_icmp_le C (tgt := 118) dX11_thefts_110 (by decide) rfl (fun _ => ?_) (fun h => absurd h (by decide))
    refine x_iload_n C dX11_thefts_118 rfl 4 rfl rfl ?_
    refine x_istore_n C (lv' := [(3, .int (-2)), (4, .int 0), (6, .int 0), (5, .int 4), (2, .int 0), (0, .ref x), (1, .int wh)]) dX11_thefts_119 rfl (by decide) rfl rfl ?_
    refine x_iload_n C dX11_thefts_120 rfl 4 rfl rfl ?_
    refine x_iload C dX11_thefts_121 2 rfl rfl ?_
    refine x_mmax C (v := 0) w_992 w_558 w_16 w_559 (Nat.le_of_ble_eq_true rfl) (Nat.le_of_ble_eq_true rfl) (Nat.le_of_ble_eq_true rfl) (Nat.le_of_ble_eq_true rfl) (by decide) dX11_thefts_123 rfl ?_
    refine x_istore_n C (lv' := [(2, .int 0), (3, .int (-2)), (4, .int 0), (6, .int 0), (5, .int 4), (0, .ref x), (1, .int wh)]) dX11_thefts_126 rfl (by decide) rfl rfl ?_
    refine x_iinc C (v := 5) (lv' := [(5, .int 5), (2, .int 0), (3, .int (-2)), (4, .int 0), (6, .int 0), (0, .ref x), (1, .int wh)]) dX11_thefts_127 4 rfl (by decide) (by decide) rfl rfl ?_
    refine x_goto C (tgt := 52) dX11_thefts_130 (by decide) ?_
    refine x_iload C dX11_thefts_52 0 rfl rfl ?_
    refine x_bipush C (v := 8) dX11_thefts_54 (by decide) rfl ?_
    refine x_icmp_ge C (tgt := 133) dX11_thefts_56 (by decide) rfl (fun h => absurd h (by decide)) (fun _ => ?_)
    refine x_aload_n C dX11_thefts_59 rfl 5 rfl rfl ?_
    refine x_get C (ci := 10) (k := 2) 0 k_0 rfl in_X11 (by decide) w_387 rfl dX11_thefts_60 rfl ?_
    refine x_get C (ci := 8) (k := 3) 5 k_1 rfl in_X9 (by decide) w_204 rfl dX11_thefts_63 rfl ?_
    refine x_iload C dX11_thefts_66 0 rfl rfl ?_
    refine x_vi C (As := [.int 5]) (rest := []) (t_People_isTold0 E l ws 9 k_2 5) mf_X5_isTold w_465 9 k_2 rfl rfl rfl (Nat.le_of_ble_eq_true rfl) ⟨(Nat.le_of_ble_eq_true rfl), (Nat.le_of_ble_eq_true rfl)⟩ ⟨(Nat.le_of_ble_eq_true rfl), (Nat.le_of_ble_eq_true rfl)⟩ dX11_thefts_68 rfl (fun r39 w40 h38 => ?_)
    obtain ⟨e41, g42⟩ := h38
    refine x_top e41 ?_
    refine x_ws g42 ?_
    refine x_if_eq C (tgt := 89) dX11_thefts_71 (by decide) rfl (fun _ => ?_) (fun h => absurd h (by decide))
    refine x_iconst C (v := 0) dX11_thefts_89 (by decide) rfl ?_
    refine x_istore C (lv' := [(6, .int 0), (5, .int 5), (2, .int 0), (3, .int (-2)), (4, .int 0), (0, .ref x), (1, .int wh)]) dX11_thefts_90 (by decide) rfl rfl ?_
    refine x_iload C dX11_thefts_92 4 rfl rfl ?_
    refine x_iload C dX11_thefts_94 0 rfl rfl ?_
    refine x_if_le C (tgt := 103) dX11_thefts_96 (by decide) rfl (fun _ => ?_) (fun h => absurd h (by decide))
    refine x_iconst C (v := 0) dX11_thefts_103 (by decide) rfl ?_
    refine x_iadd C (v := 0) dX11_thefts_104 (by decide) rfl ?_
    refine x_istore C (lv' := [(4, .int 0), (6, .int 0), (5, .int 5), (2, .int 0), (3, .int (-2)), (0, .ref x), (1, .int wh)]) dX11_thefts_105 (by decide) rfl rfl ?_
    refine x_iload C dX11_thefts_107 1 rfl rfl ?_
    refine x_iload_n C dX11_thefts_109 rfl 3 rfl rfl ?_
    refine x_icmp_le C (tgt := 118) dX11_thefts_110 (by decide) rfl (fun _ => ?_) (fun h => absurd h (by decide))
    refine x_iload_n C dX11_thefts_118 rfl 4 rfl rfl ?_
    refine x_istore_n C (lv' := [(3, .int (-2)), (4, .int 0), (6, .int 0), (5, .int 5), (2, .int 0), (0, .ref x), (1, .int wh)]) dX11_thefts_119 rfl (by decide) rfl rfl ?_
    refine x_iload_n C dX11_thefts_120 rfl 4 rfl rfl ?_
    refine x_iload C dX11_thefts_121 2 rfl rfl ?_
    refine x_mmax C (v := 0) w_992 w_558 w_16 w_559 (Nat.le_of_ble_eq_true rfl) (Nat.le_of_ble_eq_true rfl) (Nat.le_of_ble_eq_true rfl) (Nat.le_of_ble_eq_true rfl) (by decide) dX11_thefts_123 rfl ?_
    refine x_istore_n C (lv' := [(2, .int 0), (3, .int (-2)), (4, .int 0), (6, .int 0), (5, .int 5), (0, .ref x), (1, .int wh)]) dX11_thefts_126 rfl (by decide) rfl rfl ?_
    refine x_iinc C (v := 6) (lv' := [(5, .int 6), (2, .int 0), (3, .int (-2)), (4, .int 0), (6, .int 0), (0, .ref x), (1, .int wh)]) dX11_thefts_127 4 rfl (by decide) (by decide) rfl rfl ?_
    refine x_goto C (tgt := 52) dX11_thefts_130 (by decide) ?_
    refine x_iload C dX11_thefts_52 0 rfl rfl ?_
    refine x_bipush C (v := 8) dX11_thefts_54 (by decide) rfl ?_
    refine x_icmp_ge C (tgt := 133) dX11_thefts_56 (by decide) rfl (fun h => absurd h (by decide)) (fun _ => ?_)
    refine x_aload_n C dX11_thefts_59 rfl 5 rfl rfl ?_
    refine x_get C (ci := 10) (k := 2) 0 k_0 rfl in_X11 (by decide) w_387 rfl dX11_thefts_60 rfl ?_
    refine x_get C (ci := 8) (k := 3) 5 k_1 rfl in_X9 (by decide) w_204 rfl dX11_thefts_63 rfl ?_
    refine x_iload C dX11_thefts_66 0 rfl rfl ?_
    refine x_vi C (As := [.int 6]) (rest := []) (t_People_isTold0 E l ws 9 k_2 6) mf_X5_isTold w_465 9 k_2 rfl rfl rfl (Nat.le_of_ble_eq_true rfl) ⟨(Nat.le_of_ble_eq_true rfl), (Nat.le_of_ble_eq_true rfl)⟩ ⟨(Nat.le_of_ble_eq_true rfl), (Nat.le_of_ble_eq_true rfl)⟩ dX11_thefts_68 rfl (fun r44 w45 h43 => ?_)
    obtain ⟨e46, g47⟩ := h43
    refine x_top e46 ?_
    refine x_ws g47 ?_
    refine x_if_eq C (tgt := 89) dX11_thefts_71 (by decide) rfl (fun _ => ?_) (fun h => absurd h (by decide))
    refine x_iconst C (v := 0) dX11_thefts_89 (by decide) rfl ?_
    refine x_istore C (lv' := [(6, .int 0), (5, .int 6), (2, .int 0), (3, .int (-2)), (4, .int 0), (0, .ref x), (1, .int wh)]) dX11_thefts_90 (by decide) rfl rfl ?_
    refine x_iload C dX11_thefts_92 4 rfl rfl ?_
    refine x_iload C dX11_thefts_94 0 rfl rfl ?_
    refine x_if_le C (tgt := 103) dX11_thefts_96 (by decide) rfl (fun _ => ?_) (fun h => absurd h (by decide))
    refine x_iconst C (v := 0) dX11_thefts_103 (by decide) rfl ?_
    refine x_iadd C (v := 0) dX11_thefts_104 (by decide) rfl ?_
    refine x_istore C (lv' := [(4, .int 0), (6, .int 0), (5, .int 6), (2, .int 0), (3, .int (-2)), (0, .ref x), (1, .int wh)]) dX11_thefts_105 (by decide) rfl rfl ?_
    refine x_iload C dX11_thefts_107 1 rfl rfl ?_
    refine x_iload_n C dX11_thefts_109 rfl 3 rfl rfl ?_
    refine x_icmp_le C (tgt := 118) dX11_thefts_110 (by decide) rfl (fun _ => ?_) (fun h => absurd h (by decide))
    refine x_iload_n C dX11_thefts_118 rfl 4 rfl rfl ?_
    refine x_istore_n C (lv' := [(3, .int (-2)), (4, .int 0), (6, .int 0), (5, .int 6), (2, .int 0), (0, .ref x), (1, .int wh)]) dX11_thefts_119 rfl (by decide) rfl rfl ?_
    refine x_iload_n C dX11_thefts_120 rfl 4 rfl rfl ?_
    refine x_iload C dX11_thefts_121 2 rfl rfl ?_
    refine x_mmax C (v := 0) w_992 w_558 w_16 w_559 (Nat.le_of_ble_eq_true rfl) (Nat.le_of_ble_eq_true rfl) (Nat.le_of_ble_eq_true rfl) (Nat.le_of_ble_eq_true rfl) (by decide) dX11_thefts_123 rfl ?_
    refine x_istore_n C (lv' := [(2, .int 0), (3, .int (-2)), (4, .int 0), (6, .int 0), (5, .int 6), (0, .ref x), (1, .int wh)]) dX11_thefts_126 rfl (by decide) rfl rfl ?_
    refine x_iinc C (v := 7) (lv' := [(5, .int 7), (2, .int 0), (3, .int (-2)), (4, .int 0), (6, .int 0), (0, .ref x), (1, .int wh)]) dX11_thefts_127 4 rfl (by decide) (by decide) rfl rfl ?_
    refine x_goto C (tgt := 52) dX11_thefts_130 (by decide) ?_
    refine x_iload C dX11_thefts_52 0 rfl rfl ?_
    refine x_bipush C (v := 8) dX11_thefts_54 (by decide) rfl ?_
    refine x_icmp_ge C (tgt := 133) dX11_thefts_56 (by decide) rfl (fun h => absurd h (by decide)) (fun _ => ?_)
    refine x_aload_n C dX11_thefts_59 rfl 5 rfl rfl ?_
    refine x_get C (ci := 10) (k := 2) 0 k_0 rfl in_X11 (by decide) w_387 rfl dX11_thefts_60 rfl ?_
    refine x_get C (ci := 8) (k := 3) 5 k_1 rfl in_X9 (by decide) w_204 rfl dX11_thefts_63 rfl ?_
    refine x_iload C dX11_thefts_66 0 rfl rfl ?_
    refine x_vi C (As := [.int 7]) (rest := []) (t_People_isTold0 E l ws 9 k_2 7) mf_X5_isTold w_465 9 k_2 rfl rfl rfl (Nat.le_of_ble_eq_true rfl) ⟨(Nat.le_of_ble_eq_true rfl), (Nat.le_of_ble_eq_true rfl)⟩ ⟨(Nat.le_of_ble_eq_true rfl), (Nat.le_of_ble_eq_true rfl)⟩ dX11_thefts_68 rfl (fun r49 w50 h48 => ?_)
    obtain ⟨e51, g52⟩ := h48
    refine x_top e51 ?_
    refine x_ws g52 ?_
    refine x_if_eq C (tgt := 89) dX11_thefts_71 (by decide) rfl (fun _ => ?_) (fun h => absurd h (by decide))
    refine x_iconst C (v := 0) dX11_thefts_89 (by decide) rfl ?_
    refine x_istore C (lv' := [(6, .int 0), (5, .int 7), (2, .int 0), (3, .int (-2)), (4, .int 0), (0, .ref x), (1, .int wh)]) dX11_thefts_90 (by decide) rfl rfl ?_
    refine x_iload C dX11_thefts_92 4 rfl rfl ?_
    refine x_iload C dX11_thefts_94 0 rfl rfl ?_
    refine x_if_le C (tgt := 103) dX11_thefts_96 (by decide) rfl (fun _ => ?_) (fun h => absurd h (by decide))
    refine x_iconst C (v := 0) dX11_thefts_103 (by decide) rfl ?_
    refine x_iadd C (v := 0) dX11_thefts_104 (by decide) rfl ?_
    refine x_istore C (lv' := [(4, .int 0), (6, .int 0), (5, .int 7), (2, .int 0), (3, .int (-2)), (0, .ref x), (1, .int wh)]) dX11_thefts_105 (by decide) rfl rfl ?_
    refine x_iload C dX11_thefts_107 1 rfl rfl ?_
    refine x_iload_n C dX11_thefts_109 rfl 3 rfl rfl ?_
    refine x_icmp_le C (tgt := 118) dX11_thefts_110 (by decide) rfl (fun _ => ?_) (fun h => absurd h (by decide))
    refine x_iload_n C dX11_thefts_118 rfl 4 rfl rfl ?_
    refine x_istore_n C (lv' := [(3, .int (-2)), (4, .int 0), (6, .int 0), (5, .int 7), (2, .int 0), (0, .ref x), (1, .int wh)]) dX11_thefts_119 rfl (by decide) rfl rfl ?_
    refine x_iload_n C dX11_thefts_120 rfl 4 rfl rfl ?_
    refine x_iload C dX11_thefts_121 2 rfl rfl ?_
    refine x_mmax C (v := 0) w_992 w_558 w_16 w_559 (Nat.le_of_ble_eq_true rfl) (Nat.le_of_ble_eq_true rfl) (Nat.le_of_ble_eq_true rfl) (Nat.le_of_ble_eq_true rfl) (by decide) dX11_thefts_123 rfl ?_
    refine x_istore_n C (lv' := [(2, .int 0), (3, .int (-2)), (4, .int 0), (6, .int 0), (5, .int 7), (0, .ref x), (1, .int wh)]) dX11_thefts_126 rfl (by decide) rfl rfl ?_
    refine x_iinc C (v := 8) (lv' := [(5, .int 8), (2, .int 0), (3, .int (-2)), (4, .int 0), (6, .int 0), (0, .ref x), (1, .int wh)]) dX11_thefts_127 4 rfl (by decide) (by decide) rfl rfl ?_
    refine x_goto C (tgt := 52) dX11_thefts_130 (by decide) ?_
    refine x_iload C dX11_thefts_52 0 rfl rfl ?_
    refine x_bipush C (v := 8) dX11_thefts_54 (by decide) rfl ?_
    refine x_icmp_ge C (tgt := 133) dX11_thefts_56 (by decide) rfl (fun _ => ?_) (fun h => absurd h (by decide))
    refine x_iload_n C dX11_thefts_133 rfl 6 rfl rfl ?_
    refine x_bipush C (v := 10) dX11_thefts_134 (by decide) rfl ?_
    refine x_icmp_ne C (tgt := 143) dX11_thefts_136 (by decide) rfl (fun c53 => ?_) (fun c53 => ?_)
    · skip
      refine x_iload C dX11_thefts_143 3 rfl rfl ?_
      exact x_zret C hr hlk rfl dX11_thefts_145 (by rw [thf]; simp [b12, c53])
    · skip
      refine x_iload_n C dX11_thefts_139 rfl 2 rfl rfl ?_
      refine x_goto C (tgt := 145) dX11_thefts_140 (by decide) ?_
      exact x_zret C hr hlk rfl dX11_thefts_145 (by rw [thf]; simp [b12, c53])
  · skip
    have b54 := bI_e0 c11
    refine x_ldcw C w_1041 dX11_thefts_37 rfl ?_
    exact x_zret C hr hlk rfl dX11_thefts_40 (by rw [thf]; simp [b54])
theorem dX8_holds_21 : decode cX8_holds 21 = .ok (.iconst 1, 1) := by decide +kernel
theorem dX8_holds_22 : decode cX8_holds 22 = .ok (.goto 4, 3) := by decide +kernel
set_option maxRecDepth 20000 in
set_option maxHeartbeats 4000000 in
theorem t_holds4 (E : xE) (l : Launch) (ws : va_W) {xt tb : Nat} (p_0 : Nat) (k_0 : ws[1]? = some (ob xt 7 [.ref tb, .int 0, .int 0, .int 0, .int 0])) (n : Int32) : xI E l yX8_holds cX8_holds 5 (some .boolean) 0 [.ref xt, .int n, .int 0, .int 48, .int 4] ws (fun r w => r = bI (n = 0) ∧ w = ws) := by
  refine xI_start (lv := [(0, .ref xt), (1, .int n), (2, .int 0), (3, .int 48), (4, .int 4)]) RX8 (by decide) rfl (Nat.le_of_ble_eq_true rfl) rfl (fun p e s m below meth c A C hr hlk => ?_)
  refine x_iload_n C dX8_holds_0 rfl 1 rfl rfl ?_
  refine x_iload_n C dX8_holds_1 rfl 2 rfl rfl ?_
  refine x_icmp_lt C (tgt := 25) dX8_holds_2 (by decide) rfl (fun c1 => ?_) (fun c1 => ?_)
  · skip
    refine x_iconst C (v := 0) dX8_holds_25 (by decide) rfl ?_
    exact x_zret C hr hlk rfl dX8_holds_26 ⟨by first | (simp [bI, c1]; done) | (rw [bI, if_pos (Decidable.byContradiction (fun q => c3 ((hold4' c1 c2).mpr q)))]) | (rw [bI, if_neg ((hold4' c1 c2).mp c3)]) | (rw [bI, if_neg (fun q => by subst q; revert c1; decide)]), rfl⟩
  · skip
    refine x_iload_n C dX8_holds_5 rfl 1 rfl rfl ?_
    refine x_iload_n C dX8_holds_6 rfl 3 rfl rfl ?_
    refine x_icmp_gt C (tgt := 25) dX8_holds_7 (by decide) rfl (fun c2 => ?_) (fun c2 => ?_)
    · skip
      refine x_iconst C (v := 0) dX8_holds_25 (by decide) rfl ?_
      exact x_zret C hr hlk rfl dX8_holds_26 ⟨by first | (simp [bI, c1, c2]; done) | (rw [bI, if_pos (Decidable.byContradiction (fun q => c3 ((hold4' c1 c2).mpr q)))]) | (rw [bI, if_neg ((hold4' c1 c2).mp c3)]) | (rw [bI, if_neg (fun q => by subst q; revert c2; decide)]), rfl⟩
    · skip
      refine x_iload_n C dX8_holds_10 rfl 1 rfl rfl ?_
      refine x_iload C dX8_holds_11 4 rfl rfl ?_
      refine x_imul C (v := (n * (4 : Int32))) dX8_holds_13 rfl rfl ?_
      refine x_aload_n C dX8_holds_14 rfl 0 rfl rfl ?_
      refine x_get C (ci := 7) (k := 1) 1 k_0 rfl in_X8 (by decide) w_37 rfl dX8_holds_15 rfl ?_
      refine x_icmp_gt C (tgt := 25) dX8_holds_18 (by decide) rfl (fun c3 => ?_) (fun c3 => ?_)
      · skip
        refine x_iconst C (v := 0) dX8_holds_25 (by decide) rfl ?_
        exact x_zret C hr hlk rfl dX8_holds_26 ⟨by first | (simp [bI, c1, c2, c3]; done) | (rw [bI, if_pos (Decidable.byContradiction (fun q => c3 ((hold4' c1 c2).mpr q)))]) | (rw [bI, if_neg ((hold4' c1 c2).mp c3)]) | (rw [bI, if_neg (fun q => by subst q; revert c3; decide)]), rfl⟩
      · skip
        refine x_iconst C (v := 1) dX8_holds_21 (by decide) rfl ?_
        refine x_goto C (tgt := 26) dX8_holds_22 (by decide) ?_
        exact x_zret C hr hlk rfl dX8_holds_26 ⟨by first | (simp [bI, c1, c2, c3]; done) | (rw [bI, if_pos (Decidable.byContradiction (fun q => c3 ((hold4' c1 c2).mpr q)))]) | (rw [bI, if_neg ((hold4' c1 c2).mp c3)]) | (rw [bI, if_neg (fun q => by subst q; revert c3; decide)]), rfl⟩
theorem dX11_check_0 : decode cX11_check 0 = .ok (.aload_n 0, 1) := by decide +kernel
theorem dX11_check_1 : decode cX11_check 1 = .ok (.getfield 10, 3) := by decide +kernel
theorem dX11_check_4 : decode cX11_check 4 = .ok (.iload_n 1, 1) := by decide +kernel
theorem dX11_check_5 : decode cX11_check 5 = .ok (.iconst 0, 1) := by decide +kernel
theorem dX11_check_6 : decode cX11_check 6 = .ok (.bipush 48, 2) := by decide +kernel
theorem dX11_check_8 : decode cX11_check 8 = .ok (.iconst 4, 1) := by decide +kernel
theorem dX11_check_9 : decode cX11_check 9 = .ok (.invokevirtual 149, 3) := by decide +kernel
theorem dX11_check_12 : decode cX11_check 12 = .ok (.ifCond .ne 6, 3) := by decide +kernel
theorem dX11_check_15 : decode cX11_check 15 = .ok (.bipush (-2), 2) := by decide +kernel
theorem dX11_check_17 : decode cX11_check 17 = .ok (.ireturn, 1) := by decide +kernel
theorem dX11_check_18 : decode cX11_check 18 = .ok (.iconst (-1), 1) := by decide +kernel
theorem dX11_check_19 : decode cX11_check 19 = .ok (.istore_n 2, 1) := by decide +kernel
theorem dX11_check_20 : decode cX11_check 20 = .ok (.iload_n 1, 1) := by decide +kernel
theorem dX11_check_21 : decode cX11_check 21 = .ok (.iconst 1, 1) := by decide +kernel
theorem dX11_check_22 : decode cX11_check 22 = .ok (.isub, 1) := by decide +kernel
theorem dX11_check_23 : decode cX11_check 23 = .ok (.istore_n 3, 1) := by decide +kernel
theorem dX11_check_24 : decode cX11_check 24 = .ok (.iload_n 3, 1) := by decide +kernel
theorem dX11_check_25 : decode cX11_check 25 = .ok (.ifCond .lt 39, 3) := by decide +kernel
theorem dX11_check_64 : decode cX11_check 64 = .ok (.aload_n 0, 1) := by decide +kernel
theorem dX11_check_65 : decode cX11_check 65 = .ok (.getfield 10, 3) := by decide +kernel
theorem dX11_check_68 : decode cX11_check 68 = .ok (.iconst 0, 1) := by decide +kernel
theorem dX11_check_69 : decode cX11_check 69 = .ok (.putfield 142, 3) := by decide +kernel
theorem dX11_check_72 : decode cX11_check 72 = .ok (.iload_n 2, 1) := by decide +kernel
theorem dX11_check_73 : decode cX11_check 73 = .ok (.ireturn, 1) := by decide +kernel
set_option maxRecDepth 20000 in
set_option maxHeartbeats 4000000 in
theorem t_check (E : xE) (l : Launch) (ws : va_W) {x xt xk xn xp xtr xr xs xl xpl xse ah ald arm ahr ash arw abr aw tb : Nat} (p_0 : Nat) (k_0 : ws[0]? = some (ob x 10 [.ref xt, .ref xk, .ref xn, .ref xp, .ref xtr, .int 0, .ref xr, .ref xs, .ref xl, .ref xpl, .ref xse, .ref ah, .ref ald, .ref arm, .ref ahr, .ref ash, .ref arw, .ref abr, .ref aw])) (p_1 : Nat) (k_1 : ws[1]? = some (ob xt 7 [.ref tb, .int 0, .int 0, .int 0, .int 0])) (n : Int32) : xI E l yX11_check cX11_check 4 (some .int) 1 [.ref x, .int n] ws (fun r w => r = if n = 0 then -1 else -2) := by
  refine xI_start (lv := [(0, .ref x), (1, .int n)]) RX11 (by decide) rfl (Nat.le_of_ble_eq_true rfl) rfl (fun p e s m below meth c A C hr hlk => ?_)
  refine x_aload_n C dX11_check_0 rfl 0 rfl rfl ?_
  refine x_get C (ci := 10) (k := 0) 0 k_0 rfl in_X11 (by decide) w_385 rfl dX11_check_1 rfl ?_
  refine x_iload_n C dX11_check_4 rfl 1 rfl rfl ?_
  refine x_iconst C (v := 0) dX11_check_5 (by decide) rfl ?_
  refine x_bipush C (v := 48) dX11_check_6 (by decide) rfl ?_
  refine x_iconst C (v := 4) dX11_check_8 (by decide) rfl ?_
  refine x_vi C (As := [.int n, .int 0, .int 48, .int 4]) (rest := []) (t_holds4 E l ws 1 k_1 n) mf_X8_holds w_507 1 k_1 rfl rfl rfl (Nat.le_of_ble_eq_true rfl) ⟨(Nat.le_of_ble_eq_true rfl), (Nat.le_of_ble_eq_true rfl)⟩ ⟨(Nat.le_of_ble_eq_true rfl), (Nat.le_of_ble_eq_true rfl)⟩ dX11_check_9 rfl (fun r2 w3 h1 => ?_)
  obtain ⟨e4, g5⟩ := h1
  refine x_top e4 ?_
  refine x_ws g5 ?_
  refine x_if_ne C (tgt := 18) dX11_check_12 (by decide) rfl (fun c6 => ?_) (fun c6 => ?_)
  · skip
    have b7 := bI_n0 c6
    refine x_iconst C (v := (-1)) dX11_check_18 (by decide) rfl ?_
    refine x_istore_n C (lv' := [(2, .int (-1)), (0, .ref x), (1, .int n)]) dX11_check_19 rfl (by decide) rfl rfl ?_
    refine x_iload_n C dX11_check_20 rfl 2 rfl rfl ?_
    refine x_iconst C (v := 1) dX11_check_21 (by decide) rfl ?_
    refine x_isub C (v := (n - (1 : Int32))) dX11_check_22 rfl rfl ?_
    refine x_istore_n C (lv' := [(3, .int (n - (1 : Int32))), (2, .int (-1)), (0, .ref x), (1, .int n)]) dX11_check_23 rfl (by decide) rfl rfl ?_
    refine x_iload_n C dX11_check_24 rfl 0 rfl rfl ?_
    refine x_if_lt C (tgt := 64) dX11_check_25 (by decide) rfl (fun _ => ?_) (fun h => absurd (by rw [b7]; decide) h)
    refine x_aload_n C dX11_check_64 rfl 2 rfl rfl ?_
    refine x_get C (ci := 10) (k := 0) 0 k_0 rfl in_X11 (by decide) w_385 rfl dX11_check_65 rfl ?_
    refine x_iconst C (v := 0) dX11_check_68 (by decide) rfl ?_
    obtain ⟨w8, hw9⟩ : ∃ w : va_W, w = List.set ws 1 (ob xt 7 [.ref tb, .int 0, .int 0, .int 0, .int 0]) := ⟨_, rfl⟩
    refine x_put C (ci := 7) (k := 1) (ty := .int) 1 k_1 rfl in_X8 tyX8 tyX8_ok nmX8 (by decide) w_38 rfl rfl rfl rfl (Nat.le_of_ble_eq_true rfl) hw9.symm dX11_check_69 rfl ?_
    have k10 : w8[0]? = some (ob x 10 [.ref xt, .ref xk, .ref xn, .ref xp, .ref xtr, .int 0, .ref xr, .ref xs, .ref xl, .ref xpl, .ref xse, .ref ah, .ref ald, .ref arm, .ref ahr, .ref ash, .ref arw, .ref abr, .ref aw]) := by rw [hw9]; exact set_ne k_0 (by decide)
    have k11 : w8[1]? = some (ob xt 7 [.ref tb, .int 0, .int 0, .int 0, .int 0]) := by rw [hw9]; exact set_eq k_1
    refine x_iload_n C dX11_check_72 rfl 1 rfl rfl ?_
    exact x_zret C hr hlk rfl dX11_check_73 (by simp [b7])
  · skip
    have b12 := bI_e0 c6
    refine x_bipush C (v := (-2)) dX11_check_15 (by decide) rfl ?_
    exact x_zret C hr hlk rfl dX11_check_17 (by simp [b12])
theorem dX11_count_0 : decode cX11_count 0 = .ok (.iload_n 1, 1) := by decide +kernel
theorem dX11_count_1 : decode cX11_count 1 = .ok (.bipush 20, 2) := by decide +kernel
theorem dX11_count_3 : decode cX11_count 3 = .ok (.bipush 27, 2) := by decide +kernel
theorem dX11_count_5 : decode cX11_count 5 = .ok (.invokestatic 102, 3) := by decide +kernel
theorem dX11_count_8 : decode cX11_count 8 = .ok (.ifCond .eq 40, 3) := by decide +kernel
theorem dX11_count_11 : decode cX11_count 11 = .ok (.aload_n 0, 1) := by decide +kernel
theorem dX11_count_12 : decode cX11_count 12 = .ok (.getfield 22, 3) := by decide +kernel
theorem dX11_count_15 : decode cX11_count 15 = .ok (.getfield 109, 3) := by decide +kernel
theorem dX11_count_18 : decode cX11_count 18 = .ok (.iload_n 1, 1) := by decide +kernel
theorem dX11_count_19 : decode cX11_count 19 = .ok (.bipush 20, 2) := by decide +kernel
theorem dX11_count_21 : decode cX11_count 21 = .ok (.isub, 1) := by decide +kernel
theorem dX11_count_22 : decode cX11_count 22 = .ok (.invokevirtual 118, 3) := by decide +kernel
theorem dX11_count_25 : decode cX11_count 25 = .ok (.ifCond .eq 21, 3) := by decide +kernel
theorem dX11_count_46 : decode cX11_count 46 = .ok (.iconst (-1), 1) := by decide +kernel
theorem dX11_count_47 : decode cX11_count 47 = .ok (.ireturn, 1) := by decide +kernel
theorem dX11_count_48 : decode cX11_count 48 = .ok (.iload_n 1, 1) := by decide +kernel
theorem dX11_count_49 : decode cX11_count 49 = .ok (.bipush 30, 2) := by decide +kernel
theorem dX11_count_51 : decode cX11_count 51 = .ok (.bipush 37, 2) := by decide +kernel
theorem dX11_count_53 : decode cX11_count 53 = .ok (.invokestatic 102, 3) := by decide +kernel
theorem dX11_count_56 : decode cX11_count 56 = .ok (.ifCond .eq 40, 3) := by decide +kernel
theorem dX11_count_59 : decode cX11_count 59 = .ok (.aload_n 0, 1) := by decide +kernel
theorem dX11_count_60 : decode cX11_count 60 = .ok (.getfield 22, 3) := by decide +kernel
theorem dX11_count_63 : decode cX11_count 63 = .ok (.getfield 109, 3) := by decide +kernel
theorem dX11_count_66 : decode cX11_count 66 = .ok (.iload_n 1, 1) := by decide +kernel
theorem dX11_count_67 : decode cX11_count 67 = .ok (.bipush 30, 2) := by decide +kernel
theorem dX11_count_69 : decode cX11_count 69 = .ok (.isub, 1) := by decide +kernel
theorem dX11_count_70 : decode cX11_count 70 = .ok (.invokevirtual 118, 3) := by decide +kernel
theorem dX11_count_73 : decode cX11_count 73 = .ok (.ifCond .eq 21, 3) := by decide +kernel
theorem dX11_count_94 : decode cX11_count 94 = .ok (.iconst (-1), 1) := by decide +kernel
theorem dX11_count_95 : decode cX11_count 95 = .ok (.ireturn, 1) := by decide +kernel
theorem dX11_count_96 : decode cX11_count 96 = .ok (.iload_n 1, 1) := by decide +kernel
theorem dX11_count_97 : decode cX11_count 97 = .ok (.tableswitch 171 0 10 #[59, 67, 78, 90, 102, 114, 122, 130, 138, 149, 160], 59) := by decide +kernel
theorem dX11_count_156 : decode cX11_count 156 = .ok (.aload_n 0, 1) := by decide +kernel
theorem dX11_count_157 : decode cX11_count 157 = .ok (.getfield 22, 3) := by decide +kernel
theorem dX11_count_160 : decode cX11_count 160 = .ok (.getfield 273, 3) := by decide +kernel
theorem dX11_count_163 : decode cX11_count 163 = .ok (.ireturn, 1) := by decide +kernel
theorem dX11_count_164 : decode cX11_count 164 = .ok (.aload_n 0, 1) := by decide +kernel
theorem dX11_count_165 : decode cX11_count 165 = .ok (.getfield 22, 3) := by decide +kernel
theorem dX11_count_168 : decode cX11_count 168 = .ok (.getfield 132, 3) := by decide +kernel
theorem dX11_count_171 : decode cX11_count 171 = .ok (.getfield 383, 3) := by decide +kernel
theorem dX11_count_174 : decode cX11_count 174 = .ok (.ireturn, 1) := by decide +kernel
theorem dX11_count_175 : decode cX11_count 175 = .ok (.aload_n 0, 1) := by decide +kernel
theorem dX11_count_176 : decode cX11_count 176 = .ok (.getfield 22, 3) := by decide +kernel
theorem dX11_count_179 : decode cX11_count 179 = .ok (.getfield 132, 3) := by decide +kernel
theorem dX11_count_182 : decode cX11_count 182 = .ok (.iconst 0, 1) := by decide +kernel
theorem dX11_count_183 : decode cX11_count 183 = .ok (.invokevirtual 203, 3) := by decide +kernel
theorem dX11_count_186 : decode cX11_count 186 = .ok (.ireturn, 1) := by decide +kernel
theorem dX11_count_187 : decode cX11_count 187 = .ok (.aload_n 0, 1) := by decide +kernel
theorem dX11_count_188 : decode cX11_count 188 = .ok (.getfield 22, 3) := by decide +kernel
theorem dX11_count_191 : decode cX11_count 191 = .ok (.getfield 132, 3) := by decide +kernel
theorem dX11_count_194 : decode cX11_count 194 = .ok (.iconst 1, 1) := by decide +kernel
theorem dX11_count_195 : decode cX11_count 195 = .ok (.invokevirtual 203, 3) := by decide +kernel
theorem dX11_count_198 : decode cX11_count 198 = .ok (.ireturn, 1) := by decide +kernel
theorem dX11_count_199 : decode cX11_count 199 = .ok (.aload_n 0, 1) := by decide +kernel
theorem dX11_count_200 : decode cX11_count 200 = .ok (.getfield 22, 3) := by decide +kernel
theorem dX11_count_203 : decode cX11_count 203 = .ok (.getfield 132, 3) := by decide +kernel
theorem dX11_count_206 : decode cX11_count 206 = .ok (.iconst 2, 1) := by decide +kernel
theorem dX11_count_207 : decode cX11_count 207 = .ok (.invokevirtual 203, 3) := by decide +kernel
theorem dX11_count_210 : decode cX11_count 210 = .ok (.ireturn, 1) := by decide +kernel
theorem dX11_count_211 : decode cX11_count 211 = .ok (.aload_n 0, 1) := by decide +kernel
theorem dX11_count_212 : decode cX11_count 212 = .ok (.getfield 39, 3) := by decide +kernel
theorem dX11_count_215 : decode cX11_count 215 = .ok (.getfield 165, 3) := by decide +kernel
theorem dX11_count_218 : decode cX11_count 218 = .ok (.ireturn, 1) := by decide +kernel
theorem dX11_count_219 : decode cX11_count 219 = .ok (.aload_n 0, 1) := by decide +kernel
theorem dX11_count_220 : decode cX11_count 220 = .ok (.getfield 10, 3) := by decide +kernel
theorem dX11_count_223 : decode cX11_count 223 = .ok (.getfield 142, 3) := by decide +kernel
theorem dX11_count_226 : decode cX11_count 226 = .ok (.ireturn, 1) := by decide +kernel
theorem dX11_count_227 : decode cX11_count 227 = .ok (.aload_n 0, 1) := by decide +kernel
theorem dX11_count_228 : decode cX11_count 228 = .ok (.getfield 22, 3) := by decide +kernel
theorem dX11_count_231 : decode cX11_count 231 = .ok (.getfield 394, 3) := by decide +kernel
theorem dX11_count_234 : decode cX11_count 234 = .ok (.ireturn, 1) := by decide +kernel
theorem dX11_count_235 : decode cX11_count 235 = .ok (.aload_n 0, 1) := by decide +kernel
theorem dX11_count_236 : decode cX11_count 236 = .ok (.getfield 22, 3) := by decide +kernel
theorem dX11_count_239 : decode cX11_count 239 = .ok (.getfield 92, 3) := by decide +kernel
theorem dX11_count_242 : decode cX11_count 242 = .ok (.getfield 407, 3) := by decide +kernel
theorem dX11_count_245 : decode cX11_count 245 = .ok (.ireturn, 1) := by decide +kernel
theorem dX11_count_246 : decode cX11_count 246 = .ok (.aload_n 0, 1) := by decide +kernel
theorem dX11_count_247 : decode cX11_count 247 = .ok (.getfield 22, 3) := by decide +kernel
theorem dX11_count_250 : decode cX11_count 250 = .ok (.getfield 109, 3) := by decide +kernel
theorem dX11_count_253 : decode cX11_count 253 = .ok (.getfield 119, 3) := by decide +kernel
theorem dX11_count_256 : decode cX11_count 256 = .ok (.ireturn, 1) := by decide +kernel
theorem dX11_count_257 : decode cX11_count 257 = .ok (.aload_n 0, 1) := by decide +kernel
theorem dX11_count_258 : decode cX11_count 258 = .ok (.getfield 22, 3) := by decide +kernel
theorem dX11_count_261 : decode cX11_count 261 = .ok (.getfield 123, 3) := by decide +kernel
theorem dX11_count_264 : decode cX11_count 264 = .ok (.getfield 280, 3) := by decide +kernel
theorem dX11_count_267 : decode cX11_count 267 = .ok (.ireturn, 1) := by decide +kernel
theorem dX11_count_268 : decode cX11_count 268 = .ok (.iconst (-1), 1) := by decide +kernel
theorem dX11_count_269 : decode cX11_count 269 = .ok (.ireturn, 1) := by decide +kernel
set_option maxRecDepth 20000 in
set_option maxHeartbeats 4000000 in
theorem t_count (E : xE) (l : Launch) (ws : va_W) {x xt xk xn xp xtr xr xs xl xpl xse ah ald arm ahr ash arw abr aw th tp te tw hk ho pl pa pt pb em el ey eo eb es wn wd ww wb wo l1 l2 l3 l4 l5 l6 l7 tb : Nat} (p_0 : Nat) (k_0 : ws[0]? = some (ob x 10 [.ref xt, .ref xk, .ref xn, .ref xp, .ref xtr, .int 0, .ref xr, .ref xs, .ref xl, .ref xpl, .ref xse, .ref ah, .ref ald, .ref arm, .ref ahr, .ref ash, .ref arw, .ref abr, .ref aw])) (p_1 : Nat) (k_1 : ws[5]? = some (ob xn 8 [.int 0, .int 1, .ref th, .ref tp, .ref te, .ref tw, .int 0, .int 0, .int 0, .int 0])) (p_2 : Nat) (k_2 : ws[6]? = some (ob th 2 [.int 0, .ref hk, .ref ho])) (p_3 : Nat) (k_3 : ws[9]? = some (ob tp 4 [.int 0, .ref pl, .ref pa, .ref pt, .ref pb])) (p_4 : Nat) (k_4 : ws[14]? = some (ob te 1 [.int 0, .ref em, .ref el, .ref ey, .ref eo, .ref eb, .ref es])) (p_5 : Nat) (k_5 : ws[21]? = some (ob tw 9 [.int 0, .ref wn, .ref wd, .ref ww, .ref wb, .ref wo])) (p_6 : Nat) (k_6 : ws[71]? = some (ob xr 3 [.int 0, .ref l1, .ref l2, .ref l3, .ref l4, .int 0, .ref l5, .ref l6, .ref l7, .int 0])) (p_7 : Nat) (k_7 : ws[1]? = some (ob xt 7 [.ref tb, .int 0, .int 0, .int 0, .int 0])) (wh : Int32) : xI E l yX11_count cX11_count 2 (some .int) 2 [.ref x, .int wh] ws (fun r w => r = cnt wh) := by
  refine xI_start (lv := [(0, .ref x), (1, .int wh)]) RX11 (by decide) rfl (Nat.le_of_ble_eq_true rfl) rfl (fun p e s m below meth c A C hr hlk => ?_)
  refine x_iload_n C dX11_count_0 rfl 1 rfl rfl ?_
  refine x_bipush C (v := 20) dX11_count_1 (by decide) rfl ?_
  refine x_bipush C (v := 27) dX11_count_3 (by decide) rfl ?_
  refine x_si C (As := [.int wh, .int 20, .int 27]) (rest := []) (t_isWithin E l ws wh 20 27) mf_X11_isWithin w_462 rfl rfl (Nat.le_of_ble_eq_true rfl) ⟨(Nat.le_of_ble_eq_true rfl), (Nat.le_of_ble_eq_true rfl)⟩ ⟨(Nat.le_of_ble_eq_true rfl), (Nat.le_of_ble_eq_true rfl)⟩ dX11_count_5 rfl (fun r2 w3 h1 => ?_)
  obtain ⟨e4, g5⟩ := h1
  refine x_top e4 ?_
  refine x_ws g5 ?_
  refine x_if_eq C (tgt := 48) dX11_count_8 (by decide) rfl (fun c6 => ?_) (fun c6 => ?_)
  · skip
    have b7 := bI_e0 c6
    refine x_iload_n C dX11_count_48 rfl 1 rfl rfl ?_
    refine x_bipush C (v := 30) dX11_count_49 (by decide) rfl ?_
    refine x_bipush C (v := 37) dX11_count_51 (by decide) rfl ?_
    refine x_si C (As := [.int wh, .int 30, .int 37]) (rest := []) (t_isWithin E l ws wh 30 37) mf_X11_isWithin w_462 rfl rfl (Nat.le_of_ble_eq_true rfl) ⟨(Nat.le_of_ble_eq_true rfl), (Nat.le_of_ble_eq_true rfl)⟩ ⟨(Nat.le_of_ble_eq_true rfl), (Nat.le_of_ble_eq_true rfl)⟩ dX11_count_53 rfl (fun r9 w10 h8 => ?_)
    obtain ⟨e11, g12⟩ := h8
    refine x_top e11 ?_
    refine x_ws g12 ?_
    refine x_if_eq C (tgt := 96) dX11_count_56 (by decide) rfl (fun c13 => ?_) (fun c13 => ?_)
    · skip
      have b14 := bI_e0 c13
      refine x_iload_n C dX11_count_96 rfl 1 rfl rfl ?_
      by_cases s15 : (wh).toInt < 0
      · refine x_tabOut C (tgt := 268) dX11_count_97 (Or.inl s15) (by decide) ?_
        have b17 : wh < 0 := sw_lo (by decide) s15
        refine x_iconst C (v := (-1)) dX11_count_268 (by decide) rfl ?_
        exact x_zret C hr hlk rfl dX11_count_269 (by first | (rw [b17]; decide) | (exact (cnt_out (Or.inl b17)).symm) | (exact (cnt_out (Or.inr b17)).symm) | (exact (cnt_out (Or.inr (lt_tr (by decide) b17.1))).symm))
      by_cases s16 : 10 < (wh).toInt
      · refine x_tabOut C (tgt := 268) dX11_count_97 (Or.inr s16) (by decide) ?_
        have b18 : 10 < wh := sw_hi (by decide) s16
        refine x_iconst C (v := (-1)) dX11_count_268 (by decide) rfl ?_
        exact x_zret C hr hlk rfl dX11_count_269 (by first | (rw [b18]; decide) | (exact (cnt_out (Or.inl b18)).symm) | (exact (cnt_out (Or.inr b18)).symm) | (exact (cnt_out (Or.inr (lt_tr (by decide) b18.1))).symm))
      by_cases s19 : wh = 0
      · refine x_tabIn C (tgt := 156) dX11_count_97 (by rw [s19]; decide) (by rw [s19]; decide) (by rw [s19]; rfl) (by decide) ?_
        have zs19 := sw_eq (by decide : (0 : Int32).toInt = 0) s19
        refine x_aload_n C dX11_count_156 rfl 0 rfl rfl ?_
        refine x_get C (ci := 10) (k := 2) 0 k_0 rfl in_X11 (by decide) w_387 rfl dX11_count_157 rfl ?_
        refine x_get C (ci := 8) (k := 0) 5 k_1 rfl in_X9 (by decide) w_197 rfl dX11_count_160 rfl ?_
        exact x_zret C hr hlk rfl dX11_count_163 (by first | (rw [s19]; decide) | (exact (cnt_out (Or.inl s19)).symm) | (exact (cnt_out (Or.inr s19)).symm) | (exact (cnt_out (Or.inr (lt_tr (by decide) s19.1))).symm))
      have zs19 := sw_ne (by decide : (0 : Int32).toInt = 0) s19
      by_cases s20 : wh = 1
      · refine x_tabIn C (tgt := 164) dX11_count_97 (by rw [s20]; decide) (by rw [s20]; decide) (by rw [s20]; rfl) (by decide) ?_
        have zs20 := sw_eq (by decide : (1 : Int32).toInt = 1) s20
        refine x_aload_n C dX11_count_164 rfl 0 rfl rfl ?_
        refine x_get C (ci := 10) (k := 2) 0 k_0 rfl in_X11 (by decide) w_387 rfl dX11_count_165 rfl ?_
        refine x_get C (ci := 8) (k := 4) 5 k_1 rfl in_X9 (by decide) w_209 rfl dX11_count_168 rfl ?_
        refine x_get C (ci := 1) (k := 0) 14 k_4 rfl in_X1 (by decide) w_122 rfl dX11_count_171 rfl ?_
        exact x_zret C hr hlk rfl dX11_count_174 (by first | (rw [s20]; decide) | (exact (cnt_out (Or.inl s20)).symm) | (exact (cnt_out (Or.inr s20)).symm) | (exact (cnt_out (Or.inr (lt_tr (by decide) s20.1))).symm))
      have zs20 := sw_ne (by decide : (1 : Int32).toInt = 1) s20
      by_cases s21 : wh = 2
      · refine x_tabIn C (tgt := 175) dX11_count_97 (by rw [s21]; decide) (by rw [s21]; decide) (by rw [s21]; rfl) (by decide) ?_
        have zs21 := sw_eq (by decide : (2 : Int32).toInt = 2) s21
        refine x_aload_n C dX11_count_175 rfl 0 rfl rfl ?_
        refine x_get C (ci := 10) (k := 2) 0 k_0 rfl in_X11 (by decide) w_387 rfl dX11_count_176 rfl ?_
        refine x_get C (ci := 8) (k := 4) 5 k_1 rfl in_X9 (by decide) w_209 rfl dX11_count_179 rfl ?_
        refine x_iconst C (v := 0) dX11_count_182 (by decide) rfl ?_
        refine x_vi C (As := [.int 0]) (rest := []) (t_Eggs_howMany0 E l ws 14 k_4 0) mf_X1_howMany w_853 14 k_4 rfl rfl rfl (Nat.le_of_ble_eq_true rfl) ⟨(Nat.le_of_ble_eq_true rfl), (Nat.le_of_ble_eq_true rfl)⟩ ⟨(Nat.le_of_ble_eq_true rfl), (Nat.le_of_ble_eq_true rfl)⟩ dX11_count_183 rfl (fun r23 w24 h22 => ?_)
        obtain ⟨e25, g26⟩ := h22
        refine x_top e25 ?_
        refine x_ws g26 ?_
        exact x_zret C hr hlk rfl dX11_count_186 (by first | (rw [s21]; decide) | (exact (cnt_out (Or.inl s21)).symm) | (exact (cnt_out (Or.inr s21)).symm) | (exact (cnt_out (Or.inr (lt_tr (by decide) s21.1))).symm))
      have zs21 := sw_ne (by decide : (2 : Int32).toInt = 2) s21
      by_cases s27 : wh = 3
      · refine x_tabIn C (tgt := 187) dX11_count_97 (by rw [s27]; decide) (by rw [s27]; decide) (by rw [s27]; rfl) (by decide) ?_
        have zs27 := sw_eq (by decide : (3 : Int32).toInt = 3) s27
        refine x_aload_n C dX11_count_187 rfl 0 rfl rfl ?_
        refine x_get C (ci := 10) (k := 2) 0 k_0 rfl in_X11 (by decide) w_387 rfl dX11_count_188 rfl ?_
        refine x_get C (ci := 8) (k := 4) 5 k_1 rfl in_X9 (by decide) w_209 rfl dX11_count_191 rfl ?_
        refine x_iconst C (v := 1) dX11_count_194 (by decide) rfl ?_
        refine x_vi C (As := [.int 1]) (rest := []) (t_Eggs_howMany0 E l ws 14 k_4 1) mf_X1_howMany w_853 14 k_4 rfl rfl rfl (Nat.le_of_ble_eq_true rfl) ⟨(Nat.le_of_ble_eq_true rfl), (Nat.le_of_ble_eq_true rfl)⟩ ⟨(Nat.le_of_ble_eq_true rfl), (Nat.le_of_ble_eq_true rfl)⟩ dX11_count_195 rfl (fun r29 w30 h28 => ?_)
        obtain ⟨e31, g32⟩ := h28
        refine x_top e31 ?_
        refine x_ws g32 ?_
        exact x_zret C hr hlk rfl dX11_count_198 (by first | (rw [s27]; decide) | (exact (cnt_out (Or.inl s27)).symm) | (exact (cnt_out (Or.inr s27)).symm) | (exact (cnt_out (Or.inr (lt_tr (by decide) s27.1))).symm))
      have zs27 := sw_ne (by decide : (3 : Int32).toInt = 3) s27
      by_cases s33 : wh = 4
      · refine x_tabIn C (tgt := 199) dX11_count_97 (by rw [s33]; decide) (by rw [s33]; decide) (by rw [s33]; rfl) (by decide) ?_
        have zs33 := sw_eq (by decide : (4 : Int32).toInt = 4) s33
        refine x_aload_n C dX11_count_199 rfl 0 rfl rfl ?_
        refine x_get C (ci := 10) (k := 2) 0 k_0 rfl in_X11 (by decide) w_387 rfl dX11_count_200 rfl ?_
        refine x_get C (ci := 8) (k := 4) 5 k_1 rfl in_X9 (by decide) w_209 rfl dX11_count_203 rfl ?_
        refine x_iconst C (v := 2) dX11_count_206 (by decide) rfl ?_
        refine x_vi C (As := [.int 2]) (rest := []) (t_Eggs_howMany0 E l ws 14 k_4 2) mf_X1_howMany w_853 14 k_4 rfl rfl rfl (Nat.le_of_ble_eq_true rfl) ⟨(Nat.le_of_ble_eq_true rfl), (Nat.le_of_ble_eq_true rfl)⟩ ⟨(Nat.le_of_ble_eq_true rfl), (Nat.le_of_ble_eq_true rfl)⟩ dX11_count_207 rfl (fun r35 w36 h34 => ?_)
        obtain ⟨e37, g38⟩ := h34
        refine x_top e37 ?_
        refine x_ws g38 ?_
        exact x_zret C hr hlk rfl dX11_count_210 (by first | (rw [s33]; decide) | (exact (cnt_out (Or.inl s33)).symm) | (exact (cnt_out (Or.inr s33)).symm) | (exact (cnt_out (Or.inr (lt_tr (by decide) s33.1))).symm))
      have zs33 := sw_ne (by decide : (4 : Int32).toInt = 4) s33
      by_cases s39 : wh = 5
      · refine x_tabIn C (tgt := 211) dX11_count_97 (by rw [s39]; decide) (by rw [s39]; decide) (by rw [s39]; rfl) (by decide) ?_
        have zs39 := sw_eq (by decide : (5 : Int32).toInt = 5) s39
        refine x_aload_n C dX11_count_211 rfl 0 rfl rfl ?_
        refine x_get C (ci := 10) (k := 6) 0 k_0 rfl in_X11 (by decide) w_391 rfl dX11_count_212 rfl ?_
        refine x_get C (ci := 3) (k := 0) 71 k_6 rfl in_X3 (by decide) w_252 rfl dX11_count_215 rfl ?_
        exact x_zret C hr hlk rfl dX11_count_218 (by first | (rw [s39]; decide) | (exact (cnt_out (Or.inl s39)).symm) | (exact (cnt_out (Or.inr s39)).symm) | (exact (cnt_out (Or.inr (lt_tr (by decide) s39.1))).symm))
      have zs39 := sw_ne (by decide : (5 : Int32).toInt = 5) s39
      by_cases s40 : wh = 6
      · refine x_tabIn C (tgt := 219) dX11_count_97 (by rw [s40]; decide) (by rw [s40]; decide) (by rw [s40]; rfl) (by decide) ?_
        have zs40 := sw_eq (by decide : (6 : Int32).toInt = 6) s40
        refine x_aload_n C dX11_count_219 rfl 0 rfl rfl ?_
        refine x_get C (ci := 10) (k := 0) 0 k_0 rfl in_X11 (by decide) w_385 rfl dX11_count_220 rfl ?_
        refine x_get C (ci := 7) (k := 1) 1 k_7 rfl in_X8 (by decide) w_38 rfl dX11_count_223 rfl ?_
        exact x_zret C hr hlk rfl dX11_count_226 (by first | (rw [s40]; decide) | (exact (cnt_out (Or.inl s40)).symm) | (exact (cnt_out (Or.inr s40)).symm) | (exact (cnt_out (Or.inr (lt_tr (by decide) s40.1))).symm))
      have zs40 := sw_ne (by decide : (6 : Int32).toInt = 6) s40
      by_cases s41 : wh = 7
      · refine x_tabIn C (tgt := 227) dX11_count_97 (by rw [s41]; decide) (by rw [s41]; decide) (by rw [s41]; rfl) (by decide) ?_
        have zs41 := sw_eq (by decide : (7 : Int32).toInt = 7) s41
        refine x_aload_n C dX11_count_227 rfl 0 rfl rfl ?_
        refine x_get C (ci := 10) (k := 2) 0 k_0 rfl in_X11 (by decide) w_387 rfl dX11_count_228 rfl ?_
        refine x_get C (ci := 8) (k := 1) 5 k_1 rfl in_X9 (by decide) w_199 rfl dX11_count_231 rfl ?_
        exact x_zret C hr hlk rfl dX11_count_234 (by first | (rw [s41]; decide) | (exact (cnt_out (Or.inl s41)).symm) | (exact (cnt_out (Or.inr s41)).symm) | (exact (cnt_out (Or.inr (lt_tr (by decide) s41.1))).symm))
      have zs41 := sw_ne (by decide : (7 : Int32).toInt = 7) s41
      by_cases s42 : wh = 8
      · refine x_tabIn C (tgt := 235) dX11_count_97 (by rw [s42]; decide) (by rw [s42]; decide) (by rw [s42]; rfl) (by decide) ?_
        have zs42 := sw_eq (by decide : (8 : Int32).toInt = 8) s42
        refine x_aload_n C dX11_count_235 rfl 0 rfl rfl ?_
        refine x_get C (ci := 10) (k := 2) 0 k_0 rfl in_X11 (by decide) w_387 rfl dX11_count_236 rfl ?_
        refine x_get C (ci := 8) (k := 3) 5 k_1 rfl in_X9 (by decide) w_204 rfl dX11_count_239 rfl ?_
        refine x_get C (ci := 4) (k := 0) 9 k_3 rfl in_X5 (by decide) w_91 rfl dX11_count_242 rfl ?_
        exact x_zret C hr hlk rfl dX11_count_245 (by first | (rw [s42]; decide) | (exact (cnt_out (Or.inl s42)).symm) | (exact (cnt_out (Or.inr s42)).symm) | (exact (cnt_out (Or.inr (lt_tr (by decide) s42.1))).symm))
      have zs42 := sw_ne (by decide : (8 : Int32).toInt = 8) s42
      by_cases s43 : wh = 9
      · refine x_tabIn C (tgt := 246) dX11_count_97 (by rw [s43]; decide) (by rw [s43]; decide) (by rw [s43]; rfl) (by decide) ?_
        have zs43 := sw_eq (by decide : (9 : Int32).toInt = 9) s43
        refine x_aload_n C dX11_count_246 rfl 0 rfl rfl ?_
        refine x_get C (ci := 10) (k := 2) 0 k_0 rfl in_X11 (by decide) w_387 rfl dX11_count_247 rfl ?_
        refine x_get C (ci := 8) (k := 2) 5 k_1 rfl in_X9 (by decide) w_201 rfl dX11_count_250 rfl ?_
        refine x_get C (ci := 2) (k := 0) 6 k_2 rfl in_X2 (by decide) w_69 rfl dX11_count_253 rfl ?_
        exact x_zret C hr hlk rfl dX11_count_256 (by first | (rw [s43]; decide) | (exact (cnt_out (Or.inl s43)).symm) | (exact (cnt_out (Or.inr s43)).symm) | (exact (cnt_out (Or.inr (lt_tr (by decide) s43.1))).symm))
      have zs43 := sw_ne (by decide : (9 : Int32).toInt = 9) s43
      have s44 : wh = 10 := sw_last (n := 10) (by decide) s15 s16 (by omega)
      refine x_tabIn C (tgt := 257) dX11_count_97 (by rw [s44]; decide) (by rw [s44]; decide) (by rw [s44]; rfl) (by decide) ?_
      refine x_aload_n C dX11_count_257 rfl 0 rfl rfl ?_
      refine x_get C (ci := 10) (k := 2) 0 k_0 rfl in_X11 (by decide) w_387 rfl dX11_count_258 rfl ?_
      refine x_get C (ci := 8) (k := 5) 5 k_1 rfl in_X9 (by decide) w_213 rfl dX11_count_261 rfl ?_
      refine x_get C (ci := 9) (k := 0) 21 k_5 rfl in_X10 (by decide) w_169 rfl dX11_count_264 rfl ?_
      exact x_zret C hr hlk rfl dX11_count_267 (by first | (rw [s44]; decide) | (exact (cnt_out (Or.inl s44)).symm) | (exact (cnt_out (Or.inr s44)).symm) | (exact (cnt_out (Or.inr (lt_tr (by decide) s44.1))).symm))
    · skip
      have b45 := bI_n0 c13
      refine x_aload_n C dX11_count_59 rfl 0 rfl rfl ?_
      refine x_get C (ci := 10) (k := 2) 0 k_0 rfl in_X11 (by decide) w_387 rfl dX11_count_60 rfl ?_
      refine x_get C (ci := 8) (k := 2) 5 k_1 rfl in_X9 (by decide) w_201 rfl dX11_count_63 rfl ?_
      refine x_iload_n C dX11_count_66 rfl 1 rfl rfl ?_
      refine x_bipush C (v := 30) dX11_count_67 (by decide) rfl ?_
      refine x_isub C (v := (wh - (30 : Int32))) dX11_count_69 rfl rfl ?_
      refine x_vi C (As := [.int (wh - (30 : Int32))]) (rest := []) (t_Hens_isTold0 E l ws 6 k_2 ((wh - (30 : Int32)))) mf_X2_isTold w_474 6 k_2 rfl rfl rfl (Nat.le_of_ble_eq_true rfl) ⟨(Nat.le_of_ble_eq_true rfl), (Nat.le_of_ble_eq_true rfl)⟩ ⟨(Nat.le_of_ble_eq_true rfl), (Nat.le_of_ble_eq_true rfl)⟩ dX11_count_70 rfl (fun r47 w48 h46 => ?_)
      obtain ⟨e49, g50⟩ := h46
      refine x_top e49 ?_
      refine x_ws g50 ?_
      refine x_if_eq C (tgt := 94) dX11_count_73 (by decide) rfl (fun _ => ?_) (fun h => absurd h (by decide))
      refine x_iconst C (v := (-1)) dX11_count_94 (by decide) rfl ?_
      exact x_zret C hr hlk rfl dX11_count_95 (by first | (rw [b45]; decide) | (exact (cnt_out (Or.inl b45)).symm) | (exact (cnt_out (Or.inr b45)).symm) | (exact (cnt_out (Or.inr (lt_tr (by decide) b45.1))).symm))
  · skip
    have b51 := bI_n0 c6
    refine x_aload_n C dX11_count_11 rfl 0 rfl rfl ?_
    refine x_get C (ci := 10) (k := 2) 0 k_0 rfl in_X11 (by decide) w_387 rfl dX11_count_12 rfl ?_
    refine x_get C (ci := 8) (k := 2) 5 k_1 rfl in_X9 (by decide) w_201 rfl dX11_count_15 rfl ?_
    refine x_iload_n C dX11_count_18 rfl 1 rfl rfl ?_
    refine x_bipush C (v := 20) dX11_count_19 (by decide) rfl ?_
    refine x_isub C (v := (wh - (20 : Int32))) dX11_count_21 rfl rfl ?_
    refine x_vi C (As := [.int (wh - (20 : Int32))]) (rest := []) (t_Hens_isTold0 E l ws 6 k_2 ((wh - (20 : Int32)))) mf_X2_isTold w_474 6 k_2 rfl rfl rfl (Nat.le_of_ble_eq_true rfl) ⟨(Nat.le_of_ble_eq_true rfl), (Nat.le_of_ble_eq_true rfl)⟩ ⟨(Nat.le_of_ble_eq_true rfl), (Nat.le_of_ble_eq_true rfl)⟩ dX11_count_22 rfl (fun r53 w54 h52 => ?_)
    obtain ⟨e55, g56⟩ := h52
    refine x_top e55 ?_
    refine x_ws g56 ?_
    refine x_if_eq C (tgt := 46) dX11_count_25 (by decide) rfl (fun _ => ?_) (fun h => absurd h (by decide))
    refine x_iconst C (v := (-1)) dX11_count_46 (by decide) rfl ?_
    exact x_zret C hr hlk rfl dX11_count_47 (by first | (rw [b51]; decide) | (exact (cnt_out (Or.inl b51)).symm) | (exact (cnt_out (Or.inr b51)).symm) | (exact (cnt_out (Or.inr (lt_tr (by decide) b51.1))).symm))
end
section
theorem dX8_addWord_0 : decode cX8_addWord 0 = .ok (.bipush 24, 2) := by decide +kernel
theorem dX8_addWord_2 : decode cX8_addWord 2 = .ok (.istore_n 2, 1) := by decide +kernel
theorem dX8_addWord_3 : decode cX8_addWord 3 = .ok (.iload_n 2, 1) := by decide +kernel
theorem dX8_addWord_4 : decode cX8_addWord 4 = .ok (.ifCond .lt 45, 3) := by decide +kernel
theorem dX8_addWord_7 : decode cX8_addWord 7 = .ok (.aload_n 0, 1) := by decide +kernel
theorem dX8_addWord_8 : decode cX8_addWord 8 = .ok (.getfield 15, 3) := by decide +kernel
theorem dX8_addWord_11 : decode cX8_addWord 11 = .ok (.sipush 260, 3) := by decide +kernel
theorem dX8_addWord_14 : decode cX8_addWord 14 = .ok (.if_icmp .ge 35, 3) := by decide +kernel
theorem dX8_addWord_17 : decode cX8_addWord 17 = .ok (.aload_n 0, 1) := by decide +kernel
theorem dX8_addWord_18 : decode cX8_addWord 18 = .ok (.getfield 9, 3) := by decide +kernel
theorem dX8_addWord_21 : decode cX8_addWord 21 = .ok (.aload_n 0, 1) := by decide +kernel
theorem dX8_addWord_22 : decode cX8_addWord 22 = .ok (.getfield 15, 3) := by decide +kernel
theorem dX8_addWord_25 : decode cX8_addWord 25 = .ok (.iload_n 1, 1) := by decide +kernel
theorem dX8_addWord_26 : decode cX8_addWord 26 = .ok (.iload_n 2, 1) := by decide +kernel
theorem dX8_addWord_27 : decode cX8_addWord 27 = .ok (.iushr, 1) := by decide +kernel
theorem dX8_addWord_28 : decode cX8_addWord 28 = .ok (.sipush 255, 3) := by decide +kernel
theorem dX8_addWord_31 : decode cX8_addWord 31 = .ok (.iand, 1) := by decide +kernel
theorem dX8_addWord_32 : decode cX8_addWord 32 = .ok (.iastore, 1) := by decide +kernel
theorem dX8_addWord_33 : decode cX8_addWord 33 = .ok (.aload_n 0, 1) := by decide +kernel
theorem dX8_addWord_34 : decode cX8_addWord 34 = .ok (.dup, 1) := by decide +kernel
theorem dX8_addWord_35 : decode cX8_addWord 35 = .ok (.getfield 15, 3) := by decide +kernel
theorem dX8_addWord_38 : decode cX8_addWord 38 = .ok (.iconst 1, 1) := by decide +kernel
theorem dX8_addWord_39 : decode cX8_addWord 39 = .ok (.iadd, 1) := by decide +kernel
theorem dX8_addWord_40 : decode cX8_addWord 40 = .ok (.putfield 15, 3) := by decide +kernel
theorem dX8_addWord_43 : decode cX8_addWord 43 = .ok (.iinc 2 (-8), 3) := by decide +kernel
theorem dX8_addWord_46 : decode cX8_addWord 46 = .ok (.goto (-43), 3) := by decide +kernel
theorem dX8_addWord_49 : decode cX8_addWord 49 = .ok (.return_, 1) := by decide +kernel
set_option maxRecDepth 20000 in
set_option maxHeartbeats 4000000 in
theorem t_addWord_0 (E : xE) (l : Launch) (ws : va_W) {xt tb : Nat} {fb : Nat → Int32} (p_0 : Nat) (k_0 : ws[1]? = some (ob xt 7 [.ref tb, .int 0, .int 0, .int 0, .int 0])) (p_1 : Nat) (k_1 : ws[2]? = some (iA E tb 260 fb)) (v : Int32) : xV E l yX8_addWord cX8_addWord 3 0 0 0 [.ref xt, .int v] ws (fun w => keeps ws w (fun q => q = 1 ∨ q = 2) ∧ w[1]? = some (ob xt 7 [.ref tb, .int 4, .int 0, .int 0, .int 0]) ∧ (∃ fg : Nat → Int32, w[2]? = some (iA E tb 260 fg))) := by
  refine xV_start (lv := [(0, .ref xt), (1, .int v)]) RX8 (by decide) rfl (Nat.le_of_ble_eq_true rfl) rfl (fun p e s m below meth c A C hr hlk hin => ?_)
  have kp0 : keeps ws ws (fun q => q = 1 ∨ q = 2) := keeps_rf
  refine x_bipush C (v := 24) dX8_addWord_0 (by decide) rfl ?_
  refine x_istore_n C (lv' := [(2, .int 24), (0, .ref xt), (1, .int v)]) dX8_addWord_2 rfl (by decide) rfl rfl ?_
  refine x_iload_n C dX8_addWord_3 rfl 0 rfl rfl ?_
  refine x_if_lt C (tgt := 49) dX8_addWord_4 (by decide) rfl (fun h => absurd h (by decide)) (fun _ => ?_)
  refine x_aload_n C dX8_addWord_7 rfl 1 rfl rfl ?_
  refine x_get C (ci := 7) (k := 1) 1 k_0 rfl in_X8 (by decide) w_37 rfl dX8_addWord_8 rfl ?_
  refine x_sipush C (v := 260) dX8_addWord_11 (by decide) rfl ?_
  refine x_icmp_ge C (tgt := 49) dX8_addWord_14 (by decide) rfl (fun h => absurd h (by decide)) (fun _ => ?_)
  refine x_aload_n C dX8_addWord_17 rfl 1 rfl rfl ?_
  refine x_get C (ci := 7) (k := 0) 1 k_0 rfl in_X8 (by decide) w_36 rfl dX8_addWord_18 rfl ?_
  refine x_aload_n C dX8_addWord_21 rfl 1 rfl rfl ?_
  refine x_get C (ci := 7) (k := 1) 1 k_0 rfl in_X8 (by decide) w_37 rfl dX8_addWord_22 rfl ?_
  refine x_iload_n C dX8_addWord_25 rfl 2 rfl rfl ?_
  refine x_iload_n C dX8_addWord_26 rfl 0 rfl rfl ?_
  refine x_iushr C (v := (v.toUInt32 >>> ((24 : Int32).toUInt32 &&& Int32.toUInt32 31)).toInt32) dX8_addWord_27 rfl rfl ?_
  refine x_sipush C (v := 255) dX8_addWord_28 (by decide) rfl ?_
  refine x_iand C (v := ((v.toUInt32 >>> ((24 : Int32).toUInt32 &&& Int32.toUInt32 31)).toInt32 &&& (255 : Int32))) dX8_addWord_31 rfl rfl ?_
  obtain ⟨w1, hw2⟩ : ∃ w : va_W, w = List.set ws 2 (iA E tb 260 (upd fb 0 ((v.toUInt32 >>> ((24 : Int32).toUInt32 &&& Int32.toUInt32 31)).toInt32 &&& (255 : Int32)))) := ⟨_, rfl⟩
  refine x_iask C 0 (by decide) (by decide) (by decide) 2 k_1 hw2.symm dX8_addWord_32 rfl ?_
  have k3 : w1[1]? = some (ob xt 7 [.ref tb, .int 0, .int 0, .int 0, .int 0]) := by rw [hw2]; exact set_ne k_0 (by decide)
  have k4 : w1[2]? = some (iA E tb 260 (upd fb 0 ((v.toUInt32 >>> ((24 : Int32).toUInt32 &&& Int32.toUInt32 31)).toInt32 &&& (255 : Int32)))) := by rw [hw2]; exact set_eq k_1
  have kp5 := keeps_set kp0 hw2 (by first | exact rfl | decide | omega | (dsimp only; omega))
  refine x_aload_n C dX8_addWord_33 rfl 1 rfl rfl ?_
  refine x_dup C dX8_addWord_34 rfl rfl ?_
  refine x_get C (ci := 7) (k := 1) 1 k3 rfl in_X8 (by decide) w_37 rfl dX8_addWord_35 rfl ?_
  refine x_iconst C (v := 1) dX8_addWord_38 (by decide) rfl ?_
  refine x_iadd C (v := 1) dX8_addWord_39 (by decide) rfl ?_
  obtain ⟨w6, hw7⟩ : ∃ w : va_W, w = List.set w1 1 (ob xt 7 [.ref tb, .int 1, .int 0, .int 0, .int 0]) := ⟨_, rfl⟩
  refine x_put C (ci := 7) (k := 1) (ty := .int) 1 k3 rfl in_X8 tyX8 tyX8_ok nmX8 (by decide) w_37 rfl rfl rfl rfl (Nat.le_of_ble_eq_true rfl) hw7.symm dX8_addWord_40 rfl ?_
  have k8 : w6[1]? = some (ob xt 7 [.ref tb, .int 1, .int 0, .int 0, .int 0]) := by rw [hw7]; exact set_eq k3
  have k9 : w6[2]? = some (iA E tb 260 (upd fb 0 ((v.toUInt32 >>> ((24 : Int32).toUInt32 &&& Int32.toUInt32 31)).toInt32 &&& (255 : Int32)))) := by rw [hw7]; exact set_ne k4 (by decide)
  have kp10 := keeps_set kp5 hw7 (by first | exact rfl | decide | omega | (dsimp only; omega))
  refine x_iinc C (v := 16) (lv' := [(2, .int 16), (0, .ref xt), (1, .int v)]) dX8_addWord_43 0 rfl (by decide) (by decide) rfl rfl ?_
  refine x_goto C (tgt := 3) dX8_addWord_46 (by decide) ?_
  refine x_iload_n C dX8_addWord_3 rfl 0 rfl rfl ?_
  refine x_if_lt C (tgt := 49) dX8_addWord_4 (by decide) rfl (fun h => absurd h (by decide)) (fun _ => ?_)
  refine x_aload_n C dX8_addWord_7 rfl 1 rfl rfl ?_
  refine x_get C (ci := 7) (k := 1) 1 k8 rfl in_X8 (by decide) w_37 rfl dX8_addWord_8 rfl ?_
  refine x_sipush C (v := 260) dX8_addWord_11 (by decide) rfl ?_
  refine x_icmp_ge C (tgt := 49) dX8_addWord_14 (by decide) rfl (fun h => absurd h (by decide)) (fun _ => ?_)
  refine x_aload_n C dX8_addWord_17 rfl 1 rfl rfl ?_
  refine x_get C (ci := 7) (k := 0) 1 k8 rfl in_X8 (by decide) w_36 rfl dX8_addWord_18 rfl ?_
  refine x_aload_n C dX8_addWord_21 rfl 1 rfl rfl ?_
  refine x_get C (ci := 7) (k := 1) 1 k8 rfl in_X8 (by decide) w_37 rfl dX8_addWord_22 rfl ?_
  refine x_iload_n C dX8_addWord_25 rfl 2 rfl rfl ?_
  refine x_iload_n C dX8_addWord_26 rfl 0 rfl rfl ?_
  refine x_iushr C (v := (v.toUInt32 >>> ((16 : Int32).toUInt32 &&& Int32.toUInt32 31)).toInt32) dX8_addWord_27 rfl rfl ?_
  refine x_sipush C (v := 255) dX8_addWord_28 (by decide) rfl ?_
  refine x_iand C (v := ((v.toUInt32 >>> ((16 : Int32).toUInt32 &&& Int32.toUInt32 31)).toInt32 &&& (255 : Int32))) dX8_addWord_31 rfl rfl ?_
  obtain ⟨w11, hw12⟩ : ∃ w : va_W, w = List.set w6 2 (iA E tb 260 (upd (upd fb 0 ((v.toUInt32 >>> ((24 : Int32).toUInt32 &&& Int32.toUInt32 31)).toInt32 &&& (255 : Int32))) 1 ((v.toUInt32 >>> ((16 : Int32).toUInt32 &&& Int32.toUInt32 31)).toInt32 &&& (255 : Int32)))) := ⟨_, rfl⟩
  refine x_iask C 1 (by decide) (by decide) (by decide) 2 k9 hw12.symm dX8_addWord_32 rfl ?_
  have k13 : w11[1]? = some (ob xt 7 [.ref tb, .int 1, .int 0, .int 0, .int 0]) := by rw [hw12]; exact set_ne k8 (by decide)
  have k14 : w11[2]? = some (iA E tb 260 (upd (upd fb 0 ((v.toUInt32 >>> ((24 : Int32).toUInt32 &&& Int32.toUInt32 31)).toInt32 &&& (255 : Int32))) 1 ((v.toUInt32 >>> ((16 : Int32).toUInt32 &&& Int32.toUInt32 31)).toInt32 &&& (255 : Int32)))) := by rw [hw12]; exact set_eq k9
  have kp15 := keeps_set kp10 hw12 (by first | exact rfl | decide | omega | (dsimp only; omega))
  refine x_aload_n C dX8_addWord_33 rfl 1 rfl rfl ?_
  refine x_dup C dX8_addWord_34 rfl rfl ?_
  refine x_get C (ci := 7) (k := 1) 1 k13 rfl in_X8 (by decide) w_37 rfl dX8_addWord_35 rfl ?_
  refine x_iconst C (v := 1) dX8_addWord_38 (by decide) rfl ?_
  refine x_iadd C (v := 2) dX8_addWord_39 (by decide) rfl ?_
  obtain ⟨w16, hw17⟩ : ∃ w : va_W, w = List.set w11 1 (ob xt 7 [.ref tb, .int 2, .int 0, .int 0, .int 0]) := ⟨_, rfl⟩
  refine x_put C (ci := 7) (k := 1) (ty := .int) 1 k13 rfl in_X8 tyX8 tyX8_ok nmX8 (by decide) w_37 rfl rfl rfl rfl (Nat.le_of_ble_eq_true rfl) hw17.symm dX8_addWord_40 rfl ?_
  have k18 : w16[1]? = some (ob xt 7 [.ref tb, .int 2, .int 0, .int 0, .int 0]) := by rw [hw17]; exact set_eq k13
  have k19 : w16[2]? = some (iA E tb 260 (upd (upd fb 0 ((v.toUInt32 >>> ((24 : Int32).toUInt32 &&& Int32.toUInt32 31)).toInt32 &&& (255 : Int32))) 1 ((v.toUInt32 >>> ((16 : Int32).toUInt32 &&& Int32.toUInt32 31)).toInt32 &&& (255 : Int32)))) := by rw [hw17]; exact set_ne k14 (by decide)
  have kp20 := keeps_set kp15 hw17 (by first | exact rfl | decide | omega | (dsimp only; omega))
  refine x_iinc C (v := 8) (lv' := [(2, .int 8), (0, .ref xt), (1, .int v)]) dX8_addWord_43 0 rfl (by decide) (by decide) rfl rfl ?_
  refine x_goto C (tgt := 3) dX8_addWord_46 (by decide) ?_
  refine x_iload_n C dX8_addWord_3 rfl 0 rfl rfl ?_
  refine x_if_lt C (tgt := 49) dX8_addWord_4 (by decide) rfl (fun h => absurd h (by decide)) (fun _ => ?_)
  refine x_aload_n C dX8_addWord_7 rfl 1 rfl rfl ?_
  refine x_get C (ci := 7) (k := 1) 1 k18 rfl in_X8 (by decide) w_37 rfl dX8_addWord_8 rfl ?_
  refine x_sipush C (v := 260) dX8_addWord_11 (by decide) rfl ?_
  refine x_icmp_ge C (tgt := 49) dX8_addWord_14 (by decide) rfl (fun h => absurd h (by decide)) (fun _ => ?_)
  refine x_aload_n C dX8_addWord_17 rfl 1 rfl rfl ?_
  refine x_get C (ci := 7) (k := 0) 1 k18 rfl in_X8 (by decide) w_36 rfl dX8_addWord_18 rfl ?_
  refine x_aload_n C dX8_addWord_21 rfl 1 rfl rfl ?_
  refine x_get C (ci := 7) (k := 1) 1 k18 rfl in_X8 (by decide) w_37 rfl dX8_addWord_22 rfl ?_
  refine x_iload_n C dX8_addWord_25 rfl 2 rfl rfl ?_
  refine x_iload_n C dX8_addWord_26 rfl 0 rfl rfl ?_
  refine x_iushr C (v := (v.toUInt32 >>> ((8 : Int32).toUInt32 &&& Int32.toUInt32 31)).toInt32) dX8_addWord_27 rfl rfl ?_
  refine x_sipush C (v := 255) dX8_addWord_28 (by decide) rfl ?_
  refine x_iand C (v := ((v.toUInt32 >>> ((8 : Int32).toUInt32 &&& Int32.toUInt32 31)).toInt32 &&& (255 : Int32))) dX8_addWord_31 rfl rfl ?_
  obtain ⟨w21, hw22⟩ : ∃ w : va_W, w = List.set w16 2 (iA E tb 260 (upd (upd (upd fb 0 ((v.toUInt32 >>> ((24 : Int32).toUInt32 &&& Int32.toUInt32 31)).toInt32 &&& (255 : Int32))) 1 ((v.toUInt32 >>> ((16 : Int32).toUInt32 &&& Int32.toUInt32 31)).toInt32 &&& (255 : Int32))) 2 ((v.toUInt32 >>> ((8 : Int32).toUInt32 &&& Int32.toUInt32 31)).toInt32 &&& (255 : Int32)))) := ⟨_, rfl⟩
  refine x_iask C 2 (by decide) (by decide) (by decide) 2 k19 hw22.symm dX8_addWord_32 rfl ?_
  have k23 : w21[1]? = some (ob xt 7 [.ref tb, .int 2, .int 0, .int 0, .int 0]) := by rw [hw22]; exact set_ne k18 (by decide)
  have k24 : w21[2]? = some (iA E tb 260 (upd (upd (upd fb 0 ((v.toUInt32 >>> ((24 : Int32).toUInt32 &&& Int32.toUInt32 31)).toInt32 &&& (255 : Int32))) 1 ((v.toUInt32 >>> ((16 : Int32).toUInt32 &&& Int32.toUInt32 31)).toInt32 &&& (255 : Int32))) 2 ((v.toUInt32 >>> ((8 : Int32).toUInt32 &&& Int32.toUInt32 31)).toInt32 &&& (255 : Int32)))) := by rw [hw22]; exact set_eq k19
  have kp25 := keeps_set kp20 hw22 (by first | exact rfl | decide | omega | (dsimp only; omega))
  refine x_aload_n C dX8_addWord_33 rfl 1 rfl rfl ?_
  refine x_dup C dX8_addWord_34 rfl rfl ?_
  refine x_get C (ci := 7) (k := 1) 1 k23 rfl in_X8 (by decide) w_37 rfl dX8_addWord_35 rfl ?_
  refine x_iconst C (v := 1) dX8_addWord_38 (by decide) rfl ?_
  refine x_iadd C (v := 3) dX8_addWord_39 (by decide) rfl ?_
  obtain ⟨w26, hw27⟩ : ∃ w : va_W, w = List.set w21 1 (ob xt 7 [.ref tb, .int 3, .int 0, .int 0, .int 0]) := ⟨_, rfl⟩
  refine x_put C (ci := 7) (k := 1) (ty := .int) 1 k23 rfl in_X8 tyX8 tyX8_ok nmX8 (by decide) w_37 rfl rfl rfl rfl (Nat.le_of_ble_eq_true rfl) hw27.symm dX8_addWord_40 rfl ?_
  have k28 : w26[1]? = some (ob xt 7 [.ref tb, .int 3, .int 0, .int 0, .int 0]) := by rw [hw27]; exact set_eq k23
  have k29 : w26[2]? = some (iA E tb 260 (upd (upd (upd fb 0 ((v.toUInt32 >>> ((24 : Int32).toUInt32 &&& Int32.toUInt32 31)).toInt32 &&& (255 : Int32))) 1 ((v.toUInt32 >>> ((16 : Int32).toUInt32 &&& Int32.toUInt32 31)).toInt32 &&& (255 : Int32))) 2 ((v.toUInt32 >>> ((8 : Int32).toUInt32 &&& Int32.toUInt32 31)).toInt32 &&& (255 : Int32)))) := by rw [hw27]; exact set_ne k24 (by decide)
  have kp30 := keeps_set kp25 hw27 (by first | exact rfl | decide | omega | (dsimp only; omega))
  refine x_iinc C (v := 0) (lv' := [(2, .int 0), (0, .ref xt), (1, .int v)]) dX8_addWord_43 0 rfl (by decide) (by decide) rfl rfl ?_
  refine x_goto C (tgt := 3) dX8_addWord_46 (by decide) ?_
  refine x_iload_n C dX8_addWord_3 rfl 0 rfl rfl ?_
  refine x_if_lt C (tgt := 49) dX8_addWord_4 (by decide) rfl (fun h => absurd h (by decide)) (fun _ => ?_)
  refine x_aload_n C dX8_addWord_7 rfl 1 rfl rfl ?_
  refine x_get C (ci := 7) (k := 1) 1 k28 rfl in_X8 (by decide) w_37 rfl dX8_addWord_8 rfl ?_
  refine x_sipush C (v := 260) dX8_addWord_11 (by decide) rfl ?_
  refine x_icmp_ge C (tgt := 49) dX8_addWord_14 (by decide) rfl (fun h => absurd h (by decide)) (fun _ => ?_)
  refine x_aload_n C dX8_addWord_17 rfl 1 rfl rfl ?_
  refine x_get C (ci := 7) (k := 0) 1 k28 rfl in_X8 (by decide) w_36 rfl dX8_addWord_18 rfl ?_
  refine x_aload_n C dX8_addWord_21 rfl 1 rfl rfl ?_
  refine x_get C (ci := 7) (k := 1) 1 k28 rfl in_X8 (by decide) w_37 rfl dX8_addWord_22 rfl ?_
  refine x_iload_n C dX8_addWord_25 rfl 2 rfl rfl ?_
  refine x_iload_n C dX8_addWord_26 rfl 0 rfl rfl ?_
  refine x_iushr C (v := (v.toUInt32 >>> ((0 : Int32).toUInt32 &&& Int32.toUInt32 31)).toInt32) dX8_addWord_27 rfl rfl ?_
  refine x_sipush C (v := 255) dX8_addWord_28 (by decide) rfl ?_
  refine x_iand C (v := ((v.toUInt32 >>> ((0 : Int32).toUInt32 &&& Int32.toUInt32 31)).toInt32 &&& (255 : Int32))) dX8_addWord_31 rfl rfl ?_
  obtain ⟨w31, hw32⟩ : ∃ w : va_W, w = List.set w26 2 (iA E tb 260 (upd (upd (upd (upd fb 0 ((v.toUInt32 >>> ((24 : Int32).toUInt32 &&& Int32.toUInt32 31)).toInt32 &&& (255 : Int32))) 1 ((v.toUInt32 >>> ((16 : Int32).toUInt32 &&& Int32.toUInt32 31)).toInt32 &&& (255 : Int32))) 2 ((v.toUInt32 >>> ((8 : Int32).toUInt32 &&& Int32.toUInt32 31)).toInt32 &&& (255 : Int32))) 3 ((v.toUInt32 >>> ((0 : Int32).toUInt32 &&& Int32.toUInt32 31)).toInt32 &&& (255 : Int32)))) := ⟨_, rfl⟩
  refine x_iask C 3 (by decide) (by decide) (by decide) 2 k29 hw32.symm dX8_addWord_32 rfl ?_
  have k33 : w31[1]? = some (ob xt 7 [.ref tb, .int 3, .int 0, .int 0, .int 0]) := by rw [hw32]; exact set_ne k28 (by decide)
  have k34 : w31[2]? = some (iA E tb 260 (upd (upd (upd (upd fb 0 ((v.toUInt32 >>> ((24 : Int32).toUInt32 &&& Int32.toUInt32 31)).toInt32 &&& (255 : Int32))) 1 ((v.toUInt32 >>> ((16 : Int32).toUInt32 &&& Int32.toUInt32 31)).toInt32 &&& (255 : Int32))) 2 ((v.toUInt32 >>> ((8 : Int32).toUInt32 &&& Int32.toUInt32 31)).toInt32 &&& (255 : Int32))) 3 ((v.toUInt32 >>> ((0 : Int32).toUInt32 &&& Int32.toUInt32 31)).toInt32 &&& (255 : Int32)))) := by rw [hw32]; exact set_eq k29
  have kp35 := keeps_set kp30 hw32 (by first | exact rfl | decide | omega | (dsimp only; omega))
  refine x_aload_n C dX8_addWord_33 rfl 1 rfl rfl ?_
  refine x_dup C dX8_addWord_34 rfl rfl ?_
  refine x_get C (ci := 7) (k := 1) 1 k33 rfl in_X8 (by decide) w_37 rfl dX8_addWord_35 rfl ?_
  refine x_iconst C (v := 1) dX8_addWord_38 (by decide) rfl ?_
  refine x_iadd C (v := 4) dX8_addWord_39 (by decide) rfl ?_
  obtain ⟨w36, hw37⟩ : ∃ w : va_W, w = List.set w31 1 (ob xt 7 [.ref tb, .int 4, .int 0, .int 0, .int 0]) := ⟨_, rfl⟩
  refine x_put C (ci := 7) (k := 1) (ty := .int) 1 k33 rfl in_X8 tyX8 tyX8_ok nmX8 (by decide) w_37 rfl rfl rfl rfl (Nat.le_of_ble_eq_true rfl) hw37.symm dX8_addWord_40 rfl ?_
  have k38 : w36[1]? = some (ob xt 7 [.ref tb, .int 4, .int 0, .int 0, .int 0]) := by rw [hw37]; exact set_eq k33
  have k39 : w36[2]? = some (iA E tb 260 (upd (upd (upd (upd fb 0 ((v.toUInt32 >>> ((24 : Int32).toUInt32 &&& Int32.toUInt32 31)).toInt32 &&& (255 : Int32))) 1 ((v.toUInt32 >>> ((16 : Int32).toUInt32 &&& Int32.toUInt32 31)).toInt32 &&& (255 : Int32))) 2 ((v.toUInt32 >>> ((8 : Int32).toUInt32 &&& Int32.toUInt32 31)).toInt32 &&& (255 : Int32))) 3 ((v.toUInt32 >>> ((0 : Int32).toUInt32 &&& Int32.toUInt32 31)).toInt32 &&& (255 : Int32)))) := by rw [hw37]; exact set_ne k34 (by decide)
  have kp40 := keeps_set kp35 hw37 (by first | exact rfl | decide | omega | (dsimp only; omega))
  refine x_iinc C (v := (-8)) (lv' := [(2, .int (-8)), (0, .ref xt), (1, .int v)]) dX8_addWord_43 0 rfl (by decide) (by decide) rfl rfl ?_
  refine x_goto C (tgt := 3) dX8_addWord_46 (by decide) ?_
  refine x_iload_n C dX8_addWord_3 rfl 0 rfl rfl ?_
  refine x_if_lt C (tgt := 49) dX8_addWord_4 (by decide) rfl (fun _ => ?_) (fun h => absurd h (by decide))
  exact x_vret C hr hlk dX8_addWord_49 ⟨kp40, k38, ⟨_, k39⟩⟩
set_option maxRecDepth 20000 in
set_option maxHeartbeats 4000000 in
theorem t_addWord_4 (E : xE) (l : Launch) (ws : va_W) {xt tb : Nat} {fb : Nat → Int32} (p_0 : Nat) (k_0 : ws[1]? = some (ob xt 7 [.ref tb, .int 4, .int 0, .int 0, .int 0])) (p_1 : Nat) (k_1 : ws[2]? = some (iA E tb 260 fb)) (v : Int32) : xV E l yX8_addWord cX8_addWord 3 0 0 0 [.ref xt, .int v] ws (fun w => keeps ws w (fun q => q = 1 ∨ q = 2) ∧ w[1]? = some (ob xt 7 [.ref tb, .int 8, .int 0, .int 0, .int 0]) ∧ (∃ fg : Nat → Int32, w[2]? = some (iA E tb 260 fg))) := by
  refine xV_start (lv := [(0, .ref xt), (1, .int v)]) RX8 (by decide) rfl (Nat.le_of_ble_eq_true rfl) rfl (fun p e s m below meth c A C hr hlk hin => ?_)
  have kp0 : keeps ws ws (fun q => q = 1 ∨ q = 2) := keeps_rf
  refine x_bipush C (v := 24) dX8_addWord_0 (by decide) rfl ?_
  refine x_istore_n C (lv' := [(2, .int 24), (0, .ref xt), (1, .int v)]) dX8_addWord_2 rfl (by decide) rfl rfl ?_
  refine x_iload_n C dX8_addWord_3 rfl 0 rfl rfl ?_
  refine x_if_lt C (tgt := 49) dX8_addWord_4 (by decide) rfl (fun h => absurd h (by decide)) (fun _ => ?_)
  refine x_aload_n C dX8_addWord_7 rfl 1 rfl rfl ?_
  refine x_get C (ci := 7) (k := 1) 1 k_0 rfl in_X8 (by decide) w_37 rfl dX8_addWord_8 rfl ?_
  refine x_sipush C (v := 260) dX8_addWord_11 (by decide) rfl ?_
  refine x_icmp_ge C (tgt := 49) dX8_addWord_14 (by decide) rfl (fun h => absurd h (by decide)) (fun _ => ?_)
  refine x_aload_n C dX8_addWord_17 rfl 1 rfl rfl ?_
  refine x_get C (ci := 7) (k := 0) 1 k_0 rfl in_X8 (by decide) w_36 rfl dX8_addWord_18 rfl ?_
  refine x_aload_n C dX8_addWord_21 rfl 1 rfl rfl ?_
  refine x_get C (ci := 7) (k := 1) 1 k_0 rfl in_X8 (by decide) w_37 rfl dX8_addWord_22 rfl ?_
  refine x_iload_n C dX8_addWord_25 rfl 2 rfl rfl ?_
  refine x_iload_n C dX8_addWord_26 rfl 0 rfl rfl ?_
  refine x_iushr C (v := (v.toUInt32 >>> ((24 : Int32).toUInt32 &&& Int32.toUInt32 31)).toInt32) dX8_addWord_27 rfl rfl ?_
  refine x_sipush C (v := 255) dX8_addWord_28 (by decide) rfl ?_
  refine x_iand C (v := ((v.toUInt32 >>> ((24 : Int32).toUInt32 &&& Int32.toUInt32 31)).toInt32 &&& (255 : Int32))) dX8_addWord_31 rfl rfl ?_
  obtain ⟨w1, hw2⟩ : ∃ w : va_W, w = List.set ws 2 (iA E tb 260 (upd fb 4 ((v.toUInt32 >>> ((24 : Int32).toUInt32 &&& Int32.toUInt32 31)).toInt32 &&& (255 : Int32)))) := ⟨_, rfl⟩
  refine x_iask C 4 (by decide) (by decide) (by decide) 2 k_1 hw2.symm dX8_addWord_32 rfl ?_
  have k3 : w1[1]? = some (ob xt 7 [.ref tb, .int 4, .int 0, .int 0, .int 0]) := by rw [hw2]; exact set_ne k_0 (by decide)
  have k4 : w1[2]? = some (iA E tb 260 (upd fb 4 ((v.toUInt32 >>> ((24 : Int32).toUInt32 &&& Int32.toUInt32 31)).toInt32 &&& (255 : Int32)))) := by rw [hw2]; exact set_eq k_1
  have kp5 := keeps_set kp0 hw2 (by first | exact rfl | decide | omega | (dsimp only; omega))
  refine x_aload_n C dX8_addWord_33 rfl 1 rfl rfl ?_
  refine x_dup C dX8_addWord_34 rfl rfl ?_
  refine x_get C (ci := 7) (k := 1) 1 k3 rfl in_X8 (by decide) w_37 rfl dX8_addWord_35 rfl ?_
  refine x_iconst C (v := 1) dX8_addWord_38 (by decide) rfl ?_
  refine x_iadd C (v := 5) dX8_addWord_39 (by decide) rfl ?_
  obtain ⟨w6, hw7⟩ : ∃ w : va_W, w = List.set w1 1 (ob xt 7 [.ref tb, .int 5, .int 0, .int 0, .int 0]) := ⟨_, rfl⟩
  refine x_put C (ci := 7) (k := 1) (ty := .int) 1 k3 rfl in_X8 tyX8 tyX8_ok nmX8 (by decide) w_37 rfl rfl rfl rfl (Nat.le_of_ble_eq_true rfl) hw7.symm dX8_addWord_40 rfl ?_
  have k8 : w6[1]? = some (ob xt 7 [.ref tb, .int 5, .int 0, .int 0, .int 0]) := by rw [hw7]; exact set_eq k3
  have k9 : w6[2]? = some (iA E tb 260 (upd fb 4 ((v.toUInt32 >>> ((24 : Int32).toUInt32 &&& Int32.toUInt32 31)).toInt32 &&& (255 : Int32)))) := by rw [hw7]; exact set_ne k4 (by decide)
  have kp10 := keeps_set kp5 hw7 (by first | exact rfl | decide | omega | (dsimp only; omega))
  refine x_iinc C (v := 16) (lv' := [(2, .int 16), (0, .ref xt), (1, .int v)]) dX8_addWord_43 0 rfl (by decide) (by decide) rfl rfl ?_
  refine x_goto C (tgt := 3) dX8_addWord_46 (by decide) ?_
  refine x_iload_n C dX8_addWord_3 rfl 0 rfl rfl ?_
  refine x_if_lt C (tgt := 49) dX8_addWord_4 (by decide) rfl (fun h => absurd h (by decide)) (fun _ => ?_)
  refine x_aload_n C dX8_addWord_7 rfl 1 rfl rfl ?_
  refine x_get C (ci := 7) (k := 1) 1 k8 rfl in_X8 (by decide) w_37 rfl dX8_addWord_8 rfl ?_
  refine x_sipush C (v := 260) dX8_addWord_11 (by decide) rfl ?_
  refine x_icmp_ge C (tgt := 49) dX8_addWord_14 (by decide) rfl (fun h => absurd h (by decide)) (fun _ => ?_)
  refine x_aload_n C dX8_addWord_17 rfl 1 rfl rfl ?_
  refine x_get C (ci := 7) (k := 0) 1 k8 rfl in_X8 (by decide) w_36 rfl dX8_addWord_18 rfl ?_
  refine x_aload_n C dX8_addWord_21 rfl 1 rfl rfl ?_
  refine x_get C (ci := 7) (k := 1) 1 k8 rfl in_X8 (by decide) w_37 rfl dX8_addWord_22 rfl ?_
  refine x_iload_n C dX8_addWord_25 rfl 2 rfl rfl ?_
  refine x_iload_n C dX8_addWord_26 rfl 0 rfl rfl ?_
  refine x_iushr C (v := (v.toUInt32 >>> ((16 : Int32).toUInt32 &&& Int32.toUInt32 31)).toInt32) dX8_addWord_27 rfl rfl ?_
  refine x_sipush C (v := 255) dX8_addWord_28 (by decide) rfl ?_
  refine x_iand C (v := ((v.toUInt32 >>> ((16 : Int32).toUInt32 &&& Int32.toUInt32 31)).toInt32 &&& (255 : Int32))) dX8_addWord_31 rfl rfl ?_
  obtain ⟨w11, hw12⟩ : ∃ w : va_W, w = List.set w6 2 (iA E tb 260 (upd (upd fb 4 ((v.toUInt32 >>> ((24 : Int32).toUInt32 &&& Int32.toUInt32 31)).toInt32 &&& (255 : Int32))) 5 ((v.toUInt32 >>> ((16 : Int32).toUInt32 &&& Int32.toUInt32 31)).toInt32 &&& (255 : Int32)))) := ⟨_, rfl⟩
  refine x_iask C 5 (by decide) (by decide) (by decide) 2 k9 hw12.symm dX8_addWord_32 rfl ?_
  have k13 : w11[1]? = some (ob xt 7 [.ref tb, .int 5, .int 0, .int 0, .int 0]) := by rw [hw12]; exact set_ne k8 (by decide)
  have k14 : w11[2]? = some (iA E tb 260 (upd (upd fb 4 ((v.toUInt32 >>> ((24 : Int32).toUInt32 &&& Int32.toUInt32 31)).toInt32 &&& (255 : Int32))) 5 ((v.toUInt32 >>> ((16 : Int32).toUInt32 &&& Int32.toUInt32 31)).toInt32 &&& (255 : Int32)))) := by rw [hw12]; exact set_eq k9
  have kp15 := keeps_set kp10 hw12 (by first | exact rfl | decide | omega | (dsimp only; omega))
  refine x_aload_n C dX8_addWord_33 rfl 1 rfl rfl ?_
  refine x_dup C dX8_addWord_34 rfl rfl ?_
  refine x_get C (ci := 7) (k := 1) 1 k13 rfl in_X8 (by decide) w_37 rfl dX8_addWord_35 rfl ?_
  refine x_iconst C (v := 1) dX8_addWord_38 (by decide) rfl ?_
  refine x_iadd C (v := 6) dX8_addWord_39 (by decide) rfl ?_
  obtain ⟨w16, hw17⟩ : ∃ w : va_W, w = List.set w11 1 (ob xt 7 [.ref tb, .int 6, .int 0, .int 0, .int 0]) := ⟨_, rfl⟩
  refine x_put C (ci := 7) (k := 1) (ty := .int) 1 k13 rfl in_X8 tyX8 tyX8_ok nmX8 (by decide) w_37 rfl rfl rfl rfl (Nat.le_of_ble_eq_true rfl) hw17.symm dX8_addWord_40 rfl ?_
  have k18 : w16[1]? = some (ob xt 7 [.ref tb, .int 6, .int 0, .int 0, .int 0]) := by rw [hw17]; exact set_eq k13
  have k19 : w16[2]? = some (iA E tb 260 (upd (upd fb 4 ((v.toUInt32 >>> ((24 : Int32).toUInt32 &&& Int32.toUInt32 31)).toInt32 &&& (255 : Int32))) 5 ((v.toUInt32 >>> ((16 : Int32).toUInt32 &&& Int32.toUInt32 31)).toInt32 &&& (255 : Int32)))) := by rw [hw17]; exact set_ne k14 (by decide)
  have kp20 := keeps_set kp15 hw17 (by first | exact rfl | decide | omega | (dsimp only; omega))
  refine x_iinc C (v := 8) (lv' := [(2, .int 8), (0, .ref xt), (1, .int v)]) dX8_addWord_43 0 rfl (by decide) (by decide) rfl rfl ?_
  refine x_goto C (tgt := 3) dX8_addWord_46 (by decide) ?_
  refine x_iload_n C dX8_addWord_3 rfl 0 rfl rfl ?_
  refine x_if_lt C (tgt := 49) dX8_addWord_4 (by decide) rfl (fun h => absurd h (by decide)) (fun _ => ?_)
  refine x_aload_n C dX8_addWord_7 rfl 1 rfl rfl ?_
  refine x_get C (ci := 7) (k := 1) 1 k18 rfl in_X8 (by decide) w_37 rfl dX8_addWord_8 rfl ?_
  refine x_sipush C (v := 260) dX8_addWord_11 (by decide) rfl ?_
  refine x_icmp_ge C (tgt := 49) dX8_addWord_14 (by decide) rfl (fun h => absurd h (by decide)) (fun _ => ?_)
  refine x_aload_n C dX8_addWord_17 rfl 1 rfl rfl ?_
  refine x_get C (ci := 7) (k := 0) 1 k18 rfl in_X8 (by decide) w_36 rfl dX8_addWord_18 rfl ?_
  refine x_aload_n C dX8_addWord_21 rfl 1 rfl rfl ?_
  refine x_get C (ci := 7) (k := 1) 1 k18 rfl in_X8 (by decide) w_37 rfl dX8_addWord_22 rfl ?_
  refine x_iload_n C dX8_addWord_25 rfl 2 rfl rfl ?_
  refine x_iload_n C dX8_addWord_26 rfl 0 rfl rfl ?_
  refine x_iushr C (v := (v.toUInt32 >>> ((8 : Int32).toUInt32 &&& Int32.toUInt32 31)).toInt32) dX8_addWord_27 rfl rfl ?_
  refine x_sipush C (v := 255) dX8_addWord_28 (by decide) rfl ?_
  refine x_iand C (v := ((v.toUInt32 >>> ((8 : Int32).toUInt32 &&& Int32.toUInt32 31)).toInt32 &&& (255 : Int32))) dX8_addWord_31 rfl rfl ?_
  obtain ⟨w21, hw22⟩ : ∃ w : va_W, w = List.set w16 2 (iA E tb 260 (upd (upd (upd fb 4 ((v.toUInt32 >>> ((24 : Int32).toUInt32 &&& Int32.toUInt32 31)).toInt32 &&& (255 : Int32))) 5 ((v.toUInt32 >>> ((16 : Int32).toUInt32 &&& Int32.toUInt32 31)).toInt32 &&& (255 : Int32))) 6 ((v.toUInt32 >>> ((8 : Int32).toUInt32 &&& Int32.toUInt32 31)).toInt32 &&& (255 : Int32)))) := ⟨_, rfl⟩
  refine x_iask C 6 (by decide) (by decide) (by decide) 2 k19 hw22.symm dX8_addWord_32 rfl ?_
  have k23 : w21[1]? = some (ob xt 7 [.ref tb, .int 6, .int 0, .int 0, .int 0]) := by rw [hw22]; exact set_ne k18 (by decide)
  have k24 : w21[2]? = some (iA E tb 260 (upd (upd (upd fb 4 ((v.toUInt32 >>> ((24 : Int32).toUInt32 &&& Int32.toUInt32 31)).toInt32 &&& (255 : Int32))) 5 ((v.toUInt32 >>> ((16 : Int32).toUInt32 &&& Int32.toUInt32 31)).toInt32 &&& (255 : Int32))) 6 ((v.toUInt32 >>> ((8 : Int32).toUInt32 &&& Int32.toUInt32 31)).toInt32 &&& (255 : Int32)))) := by rw [hw22]; exact set_eq k19
  have kp25 := keeps_set kp20 hw22 (by first | exact rfl | decide | omega | (dsimp only; omega))
  refine x_aload_n C dX8_addWord_33 rfl 1 rfl rfl ?_
  refine x_dup C dX8_addWord_34 rfl rfl ?_
  refine x_get C (ci := 7) (k := 1) 1 k23 rfl in_X8 (by decide) w_37 rfl dX8_addWord_35 rfl ?_
  refine x_iconst C (v := 1) dX8_addWord_38 (by decide) rfl ?_
  refine x_iadd C (v := 7) dX8_addWord_39 (by decide) rfl ?_
  obtain ⟨w26, hw27⟩ : ∃ w : va_W, w = List.set w21 1 (ob xt 7 [.ref tb, .int 7, .int 0, .int 0, .int 0]) := ⟨_, rfl⟩
  refine x_put C (ci := 7) (k := 1) (ty := .int) 1 k23 rfl in_X8 tyX8 tyX8_ok nmX8 (by decide) w_37 rfl rfl rfl rfl (Nat.le_of_ble_eq_true rfl) hw27.symm dX8_addWord_40 rfl ?_
  have k28 : w26[1]? = some (ob xt 7 [.ref tb, .int 7, .int 0, .int 0, .int 0]) := by rw [hw27]; exact set_eq k23
  have k29 : w26[2]? = some (iA E tb 260 (upd (upd (upd fb 4 ((v.toUInt32 >>> ((24 : Int32).toUInt32 &&& Int32.toUInt32 31)).toInt32 &&& (255 : Int32))) 5 ((v.toUInt32 >>> ((16 : Int32).toUInt32 &&& Int32.toUInt32 31)).toInt32 &&& (255 : Int32))) 6 ((v.toUInt32 >>> ((8 : Int32).toUInt32 &&& Int32.toUInt32 31)).toInt32 &&& (255 : Int32)))) := by rw [hw27]; exact set_ne k24 (by decide)
  have kp30 := keeps_set kp25 hw27 (by first | exact rfl | decide | omega | (dsimp only; omega))
  refine x_iinc C (v := 0) (lv' := [(2, .int 0), (0, .ref xt), (1, .int v)]) dX8_addWord_43 0 rfl (by decide) (by decide) rfl rfl ?_
  refine x_goto C (tgt := 3) dX8_addWord_46 (by decide) ?_
  refine x_iload_n C dX8_addWord_3 rfl 0 rfl rfl ?_
  refine x_if_lt C (tgt := 49) dX8_addWord_4 (by decide) rfl (fun h => absurd h (by decide)) (fun _ => ?_)
  refine x_aload_n C dX8_addWord_7 rfl 1 rfl rfl ?_
  refine x_get C (ci := 7) (k := 1) 1 k28 rfl in_X8 (by decide) w_37 rfl dX8_addWord_8 rfl ?_
  refine x_sipush C (v := 260) dX8_addWord_11 (by decide) rfl ?_
  refine x_icmp_ge C (tgt := 49) dX8_addWord_14 (by decide) rfl (fun h => absurd h (by decide)) (fun _ => ?_)
  refine x_aload_n C dX8_addWord_17 rfl 1 rfl rfl ?_
  refine x_get C (ci := 7) (k := 0) 1 k28 rfl in_X8 (by decide) w_36 rfl dX8_addWord_18 rfl ?_
  refine x_aload_n C dX8_addWord_21 rfl 1 rfl rfl ?_
  refine x_get C (ci := 7) (k := 1) 1 k28 rfl in_X8 (by decide) w_37 rfl dX8_addWord_22 rfl ?_
  refine x_iload_n C dX8_addWord_25 rfl 2 rfl rfl ?_
  refine x_iload_n C dX8_addWord_26 rfl 0 rfl rfl ?_
  refine x_iushr C (v := (v.toUInt32 >>> ((0 : Int32).toUInt32 &&& Int32.toUInt32 31)).toInt32) dX8_addWord_27 rfl rfl ?_
  refine x_sipush C (v := 255) dX8_addWord_28 (by decide) rfl ?_
  refine x_iand C (v := ((v.toUInt32 >>> ((0 : Int32).toUInt32 &&& Int32.toUInt32 31)).toInt32 &&& (255 : Int32))) dX8_addWord_31 rfl rfl ?_
  obtain ⟨w31, hw32⟩ : ∃ w : va_W, w = List.set w26 2 (iA E tb 260 (upd (upd (upd (upd fb 4 ((v.toUInt32 >>> ((24 : Int32).toUInt32 &&& Int32.toUInt32 31)).toInt32 &&& (255 : Int32))) 5 ((v.toUInt32 >>> ((16 : Int32).toUInt32 &&& Int32.toUInt32 31)).toInt32 &&& (255 : Int32))) 6 ((v.toUInt32 >>> ((8 : Int32).toUInt32 &&& Int32.toUInt32 31)).toInt32 &&& (255 : Int32))) 7 ((v.toUInt32 >>> ((0 : Int32).toUInt32 &&& Int32.toUInt32 31)).toInt32 &&& (255 : Int32)))) := ⟨_, rfl⟩
  refine x_iask C 7 (by decide) (by decide) (by decide) 2 k29 hw32.symm dX8_addWord_32 rfl ?_
  have k33 : w31[1]? = some (ob xt 7 [.ref tb, .int 7, .int 0, .int 0, .int 0]) := by rw [hw32]; exact set_ne k28 (by decide)
  have k34 : w31[2]? = some (iA E tb 260 (upd (upd (upd (upd fb 4 ((v.toUInt32 >>> ((24 : Int32).toUInt32 &&& Int32.toUInt32 31)).toInt32 &&& (255 : Int32))) 5 ((v.toUInt32 >>> ((16 : Int32).toUInt32 &&& Int32.toUInt32 31)).toInt32 &&& (255 : Int32))) 6 ((v.toUInt32 >>> ((8 : Int32).toUInt32 &&& Int32.toUInt32 31)).toInt32 &&& (255 : Int32))) 7 ((v.toUInt32 >>> ((0 : Int32).toUInt32 &&& Int32.toUInt32 31)).toInt32 &&& (255 : Int32)))) := by rw [hw32]; exact set_eq k29
  have kp35 := keeps_set kp30 hw32 (by first | exact rfl | decide | omega | (dsimp only; omega))
  refine x_aload_n C dX8_addWord_33 rfl 1 rfl rfl ?_
  refine x_dup C dX8_addWord_34 rfl rfl ?_
  refine x_get C (ci := 7) (k := 1) 1 k33 rfl in_X8 (by decide) w_37 rfl dX8_addWord_35 rfl ?_
  refine x_iconst C (v := 1) dX8_addWord_38 (by decide) rfl ?_
  refine x_iadd C (v := 8) dX8_addWord_39 (by decide) rfl ?_
  obtain ⟨w36, hw37⟩ : ∃ w : va_W, w = List.set w31 1 (ob xt 7 [.ref tb, .int 8, .int 0, .int 0, .int 0]) := ⟨_, rfl⟩
  refine x_put C (ci := 7) (k := 1) (ty := .int) 1 k33 rfl in_X8 tyX8 tyX8_ok nmX8 (by decide) w_37 rfl rfl rfl rfl (Nat.le_of_ble_eq_true rfl) hw37.symm dX8_addWord_40 rfl ?_
  have k38 : w36[1]? = some (ob xt 7 [.ref tb, .int 8, .int 0, .int 0, .int 0]) := by rw [hw37]; exact set_eq k33
  have k39 : w36[2]? = some (iA E tb 260 (upd (upd (upd (upd fb 4 ((v.toUInt32 >>> ((24 : Int32).toUInt32 &&& Int32.toUInt32 31)).toInt32 &&& (255 : Int32))) 5 ((v.toUInt32 >>> ((16 : Int32).toUInt32 &&& Int32.toUInt32 31)).toInt32 &&& (255 : Int32))) 6 ((v.toUInt32 >>> ((8 : Int32).toUInt32 &&& Int32.toUInt32 31)).toInt32 &&& (255 : Int32))) 7 ((v.toUInt32 >>> ((0 : Int32).toUInt32 &&& Int32.toUInt32 31)).toInt32 &&& (255 : Int32)))) := by rw [hw37]; exact set_ne k34 (by decide)
  have kp40 := keeps_set kp35 hw37 (by first | exact rfl | decide | omega | (dsimp only; omega))
  refine x_iinc C (v := (-8)) (lv' := [(2, .int (-8)), (0, .ref xt), (1, .int v)]) dX8_addWord_43 0 rfl (by decide) (by decide) rfl rfl ?_
  refine x_goto C (tgt := 3) dX8_addWord_46 (by decide) ?_
  refine x_iload_n C dX8_addWord_3 rfl 0 rfl rfl ?_
  refine x_if_lt C (tgt := 49) dX8_addWord_4 (by decide) rfl (fun _ => ?_) (fun h => absurd h (by decide))
  exact x_vret C hr hlk dX8_addWord_49 ⟨kp40, k38, ⟨_, k39⟩⟩
set_option maxRecDepth 20000 in
set_option maxHeartbeats 4000000 in
theorem t_addWord_8 (E : xE) (l : Launch) (ws : va_W) {xt tb : Nat} {fb : Nat → Int32} (p_0 : Nat) (k_0 : ws[1]? = some (ob xt 7 [.ref tb, .int 8, .int 0, .int 0, .int 0])) (p_1 : Nat) (k_1 : ws[2]? = some (iA E tb 260 fb)) (v : Int32) : xV E l yX8_addWord cX8_addWord 3 0 0 0 [.ref xt, .int v] ws (fun w => keeps ws w (fun q => q = 1 ∨ q = 2) ∧ w[1]? = some (ob xt 7 [.ref tb, .int 12, .int 0, .int 0, .int 0]) ∧ (∃ fg : Nat → Int32, w[2]? = some (iA E tb 260 fg))) := by
  refine xV_start (lv := [(0, .ref xt), (1, .int v)]) RX8 (by decide) rfl (Nat.le_of_ble_eq_true rfl) rfl (fun p e s m below meth c A C hr hlk hin => ?_)
  have kp0 : keeps ws ws (fun q => q = 1 ∨ q = 2) := keeps_rf
  refine x_bipush C (v := 24) dX8_addWord_0 (by decide) rfl ?_
  refine x_istore_n C (lv' := [(2, .int 24), (0, .ref xt), (1, .int v)]) dX8_addWord_2 rfl (by decide) rfl rfl ?_
  refine x_iload_n C dX8_addWord_3 rfl 0 rfl rfl ?_
  refine x_if_lt C (tgt := 49) dX8_addWord_4 (by decide) rfl (fun h => absurd h (by decide)) (fun _ => ?_)
  refine x_aload_n C dX8_addWord_7 rfl 1 rfl rfl ?_
  refine x_get C (ci := 7) (k := 1) 1 k_0 rfl in_X8 (by decide) w_37 rfl dX8_addWord_8 rfl ?_
  refine x_sipush C (v := 260) dX8_addWord_11 (by decide) rfl ?_
  refine x_icmp_ge C (tgt := 49) dX8_addWord_14 (by decide) rfl (fun h => absurd h (by decide)) (fun _ => ?_)
  refine x_aload_n C dX8_addWord_17 rfl 1 rfl rfl ?_
  refine x_get C (ci := 7) (k := 0) 1 k_0 rfl in_X8 (by decide) w_36 rfl dX8_addWord_18 rfl ?_
  refine x_aload_n C dX8_addWord_21 rfl 1 rfl rfl ?_
  refine x_get C (ci := 7) (k := 1) 1 k_0 rfl in_X8 (by decide) w_37 rfl dX8_addWord_22 rfl ?_
  refine x_iload_n C dX8_addWord_25 rfl 2 rfl rfl ?_
  refine x_iload_n C dX8_addWord_26 rfl 0 rfl rfl ?_
  refine x_iushr C (v := (v.toUInt32 >>> ((24 : Int32).toUInt32 &&& Int32.toUInt32 31)).toInt32) dX8_addWord_27 rfl rfl ?_
  refine x_sipush C (v := 255) dX8_addWord_28 (by decide) rfl ?_
  refine x_iand C (v := ((v.toUInt32 >>> ((24 : Int32).toUInt32 &&& Int32.toUInt32 31)).toInt32 &&& (255 : Int32))) dX8_addWord_31 rfl rfl ?_
  obtain ⟨w1, hw2⟩ : ∃ w : va_W, w = List.set ws 2 (iA E tb 260 (upd fb 8 ((v.toUInt32 >>> ((24 : Int32).toUInt32 &&& Int32.toUInt32 31)).toInt32 &&& (255 : Int32)))) := ⟨_, rfl⟩
  refine x_iask C 8 (by decide) (by decide) (by decide) 2 k_1 hw2.symm dX8_addWord_32 rfl ?_
  have k3 : w1[1]? = some (ob xt 7 [.ref tb, .int 8, .int 0, .int 0, .int 0]) := by rw [hw2]; exact set_ne k_0 (by decide)
  have k4 : w1[2]? = some (iA E tb 260 (upd fb 8 ((v.toUInt32 >>> ((24 : Int32).toUInt32 &&& Int32.toUInt32 31)).toInt32 &&& (255 : Int32)))) := by rw [hw2]; exact set_eq k_1
  have kp5 := keeps_set kp0 hw2 (by first | exact rfl | decide | omega | (dsimp only; omega))
  refine x_aload_n C dX8_addWord_33 rfl 1 rfl rfl ?_
  refine x_dup C dX8_addWord_34 rfl rfl ?_
  refine x_get C (ci := 7) (k := 1) 1 k3 rfl in_X8 (by decide) w_37 rfl dX8_addWord_35 rfl ?_
  refine x_iconst C (v := 1) dX8_addWord_38 (by decide) rfl ?_
  refine x_iadd C (v := 9) dX8_addWord_39 (by decide) rfl ?_
  obtain ⟨w6, hw7⟩ : ∃ w : va_W, w = List.set w1 1 (ob xt 7 [.ref tb, .int 9, .int 0, .int 0, .int 0]) := ⟨_, rfl⟩
  refine x_put C (ci := 7) (k := 1) (ty := .int) 1 k3 rfl in_X8 tyX8 tyX8_ok nmX8 (by decide) w_37 rfl rfl rfl rfl (Nat.le_of_ble_eq_true rfl) hw7.symm dX8_addWord_40 rfl ?_
  have k8 : w6[1]? = some (ob xt 7 [.ref tb, .int 9, .int 0, .int 0, .int 0]) := by rw [hw7]; exact set_eq k3
  have k9 : w6[2]? = some (iA E tb 260 (upd fb 8 ((v.toUInt32 >>> ((24 : Int32).toUInt32 &&& Int32.toUInt32 31)).toInt32 &&& (255 : Int32)))) := by rw [hw7]; exact set_ne k4 (by decide)
  have kp10 := keeps_set kp5 hw7 (by first | exact rfl | decide | omega | (dsimp only; omega))
  refine x_iinc C (v := 16) (lv' := [(2, .int 16), (0, .ref xt), (1, .int v)]) dX8_addWord_43 0 rfl (by decide) (by decide) rfl rfl ?_
  refine x_goto C (tgt := 3) dX8_addWord_46 (by decide) ?_
  refine x_iload_n C dX8_addWord_3 rfl 0 rfl rfl ?_
  refine x_if_lt C (tgt := 49) dX8_addWord_4 (by decide) rfl (fun h => absurd h (by decide)) (fun _ => ?_)
  refine x_aload_n C dX8_addWord_7 rfl 1 rfl rfl ?_
  refine x_get C (ci := 7) (k := 1) 1 k8 rfl in_X8 (by decide) w_37 rfl dX8_addWord_8 rfl ?_
  refine x_sipush C (v := 260) dX8_addWord_11 (by decide) rfl ?_
  refine x_icmp_ge C (tgt := 49) dX8_addWord_14 (by decide) rfl (fun h => absurd h (by decide)) (fun _ => ?_)
  refine x_aload_n C dX8_addWord_17 rfl 1 rfl rfl ?_
  refine x_get C (ci := 7) (k := 0) 1 k8 rfl in_X8 (by decide) w_36 rfl dX8_addWord_18 rfl ?_
  refine x_aload_n C dX8_addWord_21 rfl 1 rfl rfl ?_
  refine x_get C (ci := 7) (k := 1) 1 k8 rfl in_X8 (by decide) w_37 rfl dX8_addWord_22 rfl ?_
  refine x_iload_n C dX8_addWord_25 rfl 2 rfl rfl ?_
  refine x_iload_n C dX8_addWord_26 rfl 0 rfl rfl ?_
  refine x_iushr C (v := (v.toUInt32 >>> ((16 : Int32).toUInt32 &&& Int32.toUInt32 31)).toInt32) dX8_addWord_27 rfl rfl ?_
  refine x_sipush C (v := 255) dX8_addWord_28 (by decide) rfl ?_
  refine x_iand C (v := ((v.toUInt32 >>> ((16 : Int32).toUInt32 &&& Int32.toUInt32 31)).toInt32 &&& (255 : Int32))) dX8_addWord_31 rfl rfl ?_
  obtain ⟨w11, hw12⟩ : ∃ w : va_W, w = List.set w6 2 (iA E tb 260 (upd (upd fb 8 ((v.toUInt32 >>> ((24 : Int32).toUInt32 &&& Int32.toUInt32 31)).toInt32 &&& (255 : Int32))) 9 ((v.toUInt32 >>> ((16 : Int32).toUInt32 &&& Int32.toUInt32 31)).toInt32 &&& (255 : Int32)))) := ⟨_, rfl⟩
  refine x_iask C 9 (by decide) (by decide) (by decide) 2 k9 hw12.symm dX8_addWord_32 rfl ?_
  have k13 : w11[1]? = some (ob xt 7 [.ref tb, .int 9, .int 0, .int 0, .int 0]) := by rw [hw12]; exact set_ne k8 (by decide)
  have k14 : w11[2]? = some (iA E tb 260 (upd (upd fb 8 ((v.toUInt32 >>> ((24 : Int32).toUInt32 &&& Int32.toUInt32 31)).toInt32 &&& (255 : Int32))) 9 ((v.toUInt32 >>> ((16 : Int32).toUInt32 &&& Int32.toUInt32 31)).toInt32 &&& (255 : Int32)))) := by rw [hw12]; exact set_eq k9
  have kp15 := keeps_set kp10 hw12 (by first | exact rfl | decide | omega | (dsimp only; omega))
  refine x_aload_n C dX8_addWord_33 rfl 1 rfl rfl ?_
  refine x_dup C dX8_addWord_34 rfl rfl ?_
  refine x_get C (ci := 7) (k := 1) 1 k13 rfl in_X8 (by decide) w_37 rfl dX8_addWord_35 rfl ?_
  refine x_iconst C (v := 1) dX8_addWord_38 (by decide) rfl ?_
  refine x_iadd C (v := 10) dX8_addWord_39 (by decide) rfl ?_
  obtain ⟨w16, hw17⟩ : ∃ w : va_W, w = List.set w11 1 (ob xt 7 [.ref tb, .int 10, .int 0, .int 0, .int 0]) := ⟨_, rfl⟩
  refine x_put C (ci := 7) (k := 1) (ty := .int) 1 k13 rfl in_X8 tyX8 tyX8_ok nmX8 (by decide) w_37 rfl rfl rfl rfl (Nat.le_of_ble_eq_true rfl) hw17.symm dX8_addWord_40 rfl ?_
  have k18 : w16[1]? = some (ob xt 7 [.ref tb, .int 10, .int 0, .int 0, .int 0]) := by rw [hw17]; exact set_eq k13
  have k19 : w16[2]? = some (iA E tb 260 (upd (upd fb 8 ((v.toUInt32 >>> ((24 : Int32).toUInt32 &&& Int32.toUInt32 31)).toInt32 &&& (255 : Int32))) 9 ((v.toUInt32 >>> ((16 : Int32).toUInt32 &&& Int32.toUInt32 31)).toInt32 &&& (255 : Int32)))) := by rw [hw17]; exact set_ne k14 (by decide)
  have kp20 := keeps_set kp15 hw17 (by first | exact rfl | decide | omega | (dsimp only; omega))
  refine x_iinc C (v := 8) (lv' := [(2, .int 8), (0, .ref xt), (1, .int v)]) dX8_addWord_43 0 rfl (by decide) (by decide) rfl rfl ?_
  refine x_goto C (tgt := 3) dX8_addWord_46 (by decide) ?_
  refine x_iload_n C dX8_addWord_3 rfl 0 rfl rfl ?_
  refine x_if_lt C (tgt := 49) dX8_addWord_4 (by decide) rfl (fun h => absurd h (by decide)) (fun _ => ?_)
  refine x_aload_n C dX8_addWord_7 rfl 1 rfl rfl ?_
  refine x_get C (ci := 7) (k := 1) 1 k18 rfl in_X8 (by decide) w_37 rfl dX8_addWord_8 rfl ?_
  refine x_sipush C (v := 260) dX8_addWord_11 (by decide) rfl ?_
  refine x_icmp_ge C (tgt := 49) dX8_addWord_14 (by decide) rfl (fun h => absurd h (by decide)) (fun _ => ?_)
  refine x_aload_n C dX8_addWord_17 rfl 1 rfl rfl ?_
  refine x_get C (ci := 7) (k := 0) 1 k18 rfl in_X8 (by decide) w_36 rfl dX8_addWord_18 rfl ?_
  refine x_aload_n C dX8_addWord_21 rfl 1 rfl rfl ?_
  refine x_get C (ci := 7) (k := 1) 1 k18 rfl in_X8 (by decide) w_37 rfl dX8_addWord_22 rfl ?_
  refine x_iload_n C dX8_addWord_25 rfl 2 rfl rfl ?_
  refine x_iload_n C dX8_addWord_26 rfl 0 rfl rfl ?_
  refine x_iushr C (v := (v.toUInt32 >>> ((8 : Int32).toUInt32 &&& Int32.toUInt32 31)).toInt32) dX8_addWord_27 rfl rfl ?_
  refine x_sipush C (v := 255) dX8_addWord_28 (by decide) rfl ?_
  refine x_iand C (v := ((v.toUInt32 >>> ((8 : Int32).toUInt32 &&& Int32.toUInt32 31)).toInt32 &&& (255 : Int32))) dX8_addWord_31 rfl rfl ?_
  obtain ⟨w21, hw22⟩ : ∃ w : va_W, w = List.set w16 2 (iA E tb 260 (upd (upd (upd fb 8 ((v.toUInt32 >>> ((24 : Int32).toUInt32 &&& Int32.toUInt32 31)).toInt32 &&& (255 : Int32))) 9 ((v.toUInt32 >>> ((16 : Int32).toUInt32 &&& Int32.toUInt32 31)).toInt32 &&& (255 : Int32))) 10 ((v.toUInt32 >>> ((8 : Int32).toUInt32 &&& Int32.toUInt32 31)).toInt32 &&& (255 : Int32)))) := ⟨_, rfl⟩
  refine x_iask C 10 (by decide) (by decide) (by decide) 2 k19 hw22.symm dX8_addWord_32 rfl ?_
  have k23 : w21[1]? = some (ob xt 7 [.ref tb, .int 10, .int 0, .int 0, .int 0]) := by rw [hw22]; exact set_ne k18 (by decide)
  have k24 : w21[2]? = some (iA E tb 260 (upd (upd (upd fb 8 ((v.toUInt32 >>> ((24 : Int32).toUInt32 &&& Int32.toUInt32 31)).toInt32 &&& (255 : Int32))) 9 ((v.toUInt32 >>> ((16 : Int32).toUInt32 &&& Int32.toUInt32 31)).toInt32 &&& (255 : Int32))) 10 ((v.toUInt32 >>> ((8 : Int32).toUInt32 &&& Int32.toUInt32 31)).toInt32 &&& (255 : Int32)))) := by rw [hw22]; exact set_eq k19
  have kp25 := keeps_set kp20 hw22 (by first | exact rfl | decide | omega | (dsimp only; omega))
  refine x_aload_n C dX8_addWord_33 rfl 1 rfl rfl ?_
  refine x_dup C dX8_addWord_34 rfl rfl ?_
  refine x_get C (ci := 7) (k := 1) 1 k23 rfl in_X8 (by decide) w_37 rfl dX8_addWord_35 rfl ?_
  refine x_iconst C (v := 1) dX8_addWord_38 (by decide) rfl ?_
  refine x_iadd C (v := 11) dX8_addWord_39 (by decide) rfl ?_
  obtain ⟨w26, hw27⟩ : ∃ w : va_W, w = List.set w21 1 (ob xt 7 [.ref tb, .int 11, .int 0, .int 0, .int 0]) := ⟨_, rfl⟩
  refine x_put C (ci := 7) (k := 1) (ty := .int) 1 k23 rfl in_X8 tyX8 tyX8_ok nmX8 (by decide) w_37 rfl rfl rfl rfl (Nat.le_of_ble_eq_true rfl) hw27.symm dX8_addWord_40 rfl ?_
  have k28 : w26[1]? = some (ob xt 7 [.ref tb, .int 11, .int 0, .int 0, .int 0]) := by rw [hw27]; exact set_eq k23
  have k29 : w26[2]? = some (iA E tb 260 (upd (upd (upd fb 8 ((v.toUInt32 >>> ((24 : Int32).toUInt32 &&& Int32.toUInt32 31)).toInt32 &&& (255 : Int32))) 9 ((v.toUInt32 >>> ((16 : Int32).toUInt32 &&& Int32.toUInt32 31)).toInt32 &&& (255 : Int32))) 10 ((v.toUInt32 >>> ((8 : Int32).toUInt32 &&& Int32.toUInt32 31)).toInt32 &&& (255 : Int32)))) := by rw [hw27]; exact set_ne k24 (by decide)
  have kp30 := keeps_set kp25 hw27 (by first | exact rfl | decide | omega | (dsimp only; omega))
  refine x_iinc C (v := 0) (lv' := [(2, .int 0), (0, .ref xt), (1, .int v)]) dX8_addWord_43 0 rfl (by decide) (by decide) rfl rfl ?_
  refine x_goto C (tgt := 3) dX8_addWord_46 (by decide) ?_
  refine x_iload_n C dX8_addWord_3 rfl 0 rfl rfl ?_
  refine x_if_lt C (tgt := 49) dX8_addWord_4 (by decide) rfl (fun h => absurd h (by decide)) (fun _ => ?_)
  refine x_aload_n C dX8_addWord_7 rfl 1 rfl rfl ?_
  refine x_get C (ci := 7) (k := 1) 1 k28 rfl in_X8 (by decide) w_37 rfl dX8_addWord_8 rfl ?_
  refine x_sipush C (v := 260) dX8_addWord_11 (by decide) rfl ?_
  refine x_icmp_ge C (tgt := 49) dX8_addWord_14 (by decide) rfl (fun h => absurd h (by decide)) (fun _ => ?_)
  refine x_aload_n C dX8_addWord_17 rfl 1 rfl rfl ?_
  refine x_get C (ci := 7) (k := 0) 1 k28 rfl in_X8 (by decide) w_36 rfl dX8_addWord_18 rfl ?_
  refine x_aload_n C dX8_addWord_21 rfl 1 rfl rfl ?_
  refine x_get C (ci := 7) (k := 1) 1 k28 rfl in_X8 (by decide) w_37 rfl dX8_addWord_22 rfl ?_
  refine x_iload_n C dX8_addWord_25 rfl 2 rfl rfl ?_
  refine x_iload_n C dX8_addWord_26 rfl 0 rfl rfl ?_
  refine x_iushr C (v := (v.toUInt32 >>> ((0 : Int32).toUInt32 &&& Int32.toUInt32 31)).toInt32) dX8_addWord_27 rfl rfl ?_
  refine x_sipush C (v := 255) dX8_addWord_28 (by decide) rfl ?_
  refine x_iand C (v := ((v.toUInt32 >>> ((0 : Int32).toUInt32 &&& Int32.toUInt32 31)).toInt32 &&& (255 : Int32))) dX8_addWord_31 rfl rfl ?_
  obtain ⟨w31, hw32⟩ : ∃ w : va_W, w = List.set w26 2 (iA E tb 260 (upd (upd (upd (upd fb 8 ((v.toUInt32 >>> ((24 : Int32).toUInt32 &&& Int32.toUInt32 31)).toInt32 &&& (255 : Int32))) 9 ((v.toUInt32 >>> ((16 : Int32).toUInt32 &&& Int32.toUInt32 31)).toInt32 &&& (255 : Int32))) 10 ((v.toUInt32 >>> ((8 : Int32).toUInt32 &&& Int32.toUInt32 31)).toInt32 &&& (255 : Int32))) 11 ((v.toUInt32 >>> ((0 : Int32).toUInt32 &&& Int32.toUInt32 31)).toInt32 &&& (255 : Int32)))) := ⟨_, rfl⟩
  refine x_iask C 11 (by decide) (by decide) (by decide) 2 k29 hw32.symm dX8_addWord_32 rfl ?_
  have k33 : w31[1]? = some (ob xt 7 [.ref tb, .int 11, .int 0, .int 0, .int 0]) := by rw [hw32]; exact set_ne k28 (by decide)
  have k34 : w31[2]? = some (iA E tb 260 (upd (upd (upd (upd fb 8 ((v.toUInt32 >>> ((24 : Int32).toUInt32 &&& Int32.toUInt32 31)).toInt32 &&& (255 : Int32))) 9 ((v.toUInt32 >>> ((16 : Int32).toUInt32 &&& Int32.toUInt32 31)).toInt32 &&& (255 : Int32))) 10 ((v.toUInt32 >>> ((8 : Int32).toUInt32 &&& Int32.toUInt32 31)).toInt32 &&& (255 : Int32))) 11 ((v.toUInt32 >>> ((0 : Int32).toUInt32 &&& Int32.toUInt32 31)).toInt32 &&& (255 : Int32)))) := by rw [hw32]; exact set_eq k29
  have kp35 := keeps_set kp30 hw32 (by first | exact rfl | decide | omega | (dsimp only; omega))
  refine x_aload_n C dX8_addWord_33 rfl 1 rfl rfl ?_
  refine x_dup C dX8_addWord_34 rfl rfl ?_
  refine x_get C (ci := 7) (k := 1) 1 k33 rfl in_X8 (by decide) w_37 rfl dX8_addWord_35 rfl ?_
  refine x_iconst C (v := 1) dX8_addWord_38 (by decide) rfl ?_
  refine x_iadd C (v := 12) dX8_addWord_39 (by decide) rfl ?_
  obtain ⟨w36, hw37⟩ : ∃ w : va_W, w = List.set w31 1 (ob xt 7 [.ref tb, .int 12, .int 0, .int 0, .int 0]) := ⟨_, rfl⟩
  refine x_put C (ci := 7) (k := 1) (ty := .int) 1 k33 rfl in_X8 tyX8 tyX8_ok nmX8 (by decide) w_37 rfl rfl rfl rfl (Nat.le_of_ble_eq_true rfl) hw37.symm dX8_addWord_40 rfl ?_
  have k38 : w36[1]? = some (ob xt 7 [.ref tb, .int 12, .int 0, .int 0, .int 0]) := by rw [hw37]; exact set_eq k33
  have k39 : w36[2]? = some (iA E tb 260 (upd (upd (upd (upd fb 8 ((v.toUInt32 >>> ((24 : Int32).toUInt32 &&& Int32.toUInt32 31)).toInt32 &&& (255 : Int32))) 9 ((v.toUInt32 >>> ((16 : Int32).toUInt32 &&& Int32.toUInt32 31)).toInt32 &&& (255 : Int32))) 10 ((v.toUInt32 >>> ((8 : Int32).toUInt32 &&& Int32.toUInt32 31)).toInt32 &&& (255 : Int32))) 11 ((v.toUInt32 >>> ((0 : Int32).toUInt32 &&& Int32.toUInt32 31)).toInt32 &&& (255 : Int32)))) := by rw [hw37]; exact set_ne k34 (by decide)
  have kp40 := keeps_set kp35 hw37 (by first | exact rfl | decide | omega | (dsimp only; omega))
  refine x_iinc C (v := (-8)) (lv' := [(2, .int (-8)), (0, .ref xt), (1, .int v)]) dX8_addWord_43 0 rfl (by decide) (by decide) rfl rfl ?_
  refine x_goto C (tgt := 3) dX8_addWord_46 (by decide) ?_
  refine x_iload_n C dX8_addWord_3 rfl 0 rfl rfl ?_
  refine x_if_lt C (tgt := 49) dX8_addWord_4 (by decide) rfl (fun _ => ?_) (fun h => absurd h (by decide))
  exact x_vret C hr hlk dX8_addWord_49 ⟨kp40, k38, ⟨_, k39⟩⟩
set_option maxRecDepth 20000 in
set_option maxHeartbeats 4000000 in
theorem t_addWord_12 (E : xE) (l : Launch) (ws : va_W) {xt tb : Nat} {fb : Nat → Int32} (p_0 : Nat) (k_0 : ws[1]? = some (ob xt 7 [.ref tb, .int 12, .int 0, .int 0, .int 0])) (p_1 : Nat) (k_1 : ws[2]? = some (iA E tb 260 fb)) (v : Int32) : xV E l yX8_addWord cX8_addWord 3 0 0 0 [.ref xt, .int v] ws (fun w => keeps ws w (fun q => q = 1 ∨ q = 2) ∧ w[1]? = some (ob xt 7 [.ref tb, .int 16, .int 0, .int 0, .int 0]) ∧ (∃ fg : Nat → Int32, w[2]? = some (iA E tb 260 fg))) := by
  refine xV_start (lv := [(0, .ref xt), (1, .int v)]) RX8 (by decide) rfl (Nat.le_of_ble_eq_true rfl) rfl (fun p e s m below meth c A C hr hlk hin => ?_)
  have kp0 : keeps ws ws (fun q => q = 1 ∨ q = 2) := keeps_rf
  refine x_bipush C (v := 24) dX8_addWord_0 (by decide) rfl ?_
  refine x_istore_n C (lv' := [(2, .int 24), (0, .ref xt), (1, .int v)]) dX8_addWord_2 rfl (by decide) rfl rfl ?_
  refine x_iload_n C dX8_addWord_3 rfl 0 rfl rfl ?_
  refine x_if_lt C (tgt := 49) dX8_addWord_4 (by decide) rfl (fun h => absurd h (by decide)) (fun _ => ?_)
  refine x_aload_n C dX8_addWord_7 rfl 1 rfl rfl ?_
  refine x_get C (ci := 7) (k := 1) 1 k_0 rfl in_X8 (by decide) w_37 rfl dX8_addWord_8 rfl ?_
  refine x_sipush C (v := 260) dX8_addWord_11 (by decide) rfl ?_
  refine x_icmp_ge C (tgt := 49) dX8_addWord_14 (by decide) rfl (fun h => absurd h (by decide)) (fun _ => ?_)
  refine x_aload_n C dX8_addWord_17 rfl 1 rfl rfl ?_
  refine x_get C (ci := 7) (k := 0) 1 k_0 rfl in_X8 (by decide) w_36 rfl dX8_addWord_18 rfl ?_
  refine x_aload_n C dX8_addWord_21 rfl 1 rfl rfl ?_
  refine x_get C (ci := 7) (k := 1) 1 k_0 rfl in_X8 (by decide) w_37 rfl dX8_addWord_22 rfl ?_
  refine x_iload_n C dX8_addWord_25 rfl 2 rfl rfl ?_
  refine x_iload_n C dX8_addWord_26 rfl 0 rfl rfl ?_
  refine x_iushr C (v := (v.toUInt32 >>> ((24 : Int32).toUInt32 &&& Int32.toUInt32 31)).toInt32) dX8_addWord_27 rfl rfl ?_
  refine x_sipush C (v := 255) dX8_addWord_28 (by decide) rfl ?_
  refine x_iand C (v := ((v.toUInt32 >>> ((24 : Int32).toUInt32 &&& Int32.toUInt32 31)).toInt32 &&& (255 : Int32))) dX8_addWord_31 rfl rfl ?_
  obtain ⟨w1, hw2⟩ : ∃ w : va_W, w = List.set ws 2 (iA E tb 260 (upd fb 12 ((v.toUInt32 >>> ((24 : Int32).toUInt32 &&& Int32.toUInt32 31)).toInt32 &&& (255 : Int32)))) := ⟨_, rfl⟩
  refine x_iask C 12 (by decide) (by decide) (by decide) 2 k_1 hw2.symm dX8_addWord_32 rfl ?_
  have k3 : w1[1]? = some (ob xt 7 [.ref tb, .int 12, .int 0, .int 0, .int 0]) := by rw [hw2]; exact set_ne k_0 (by decide)
  have k4 : w1[2]? = some (iA E tb 260 (upd fb 12 ((v.toUInt32 >>> ((24 : Int32).toUInt32 &&& Int32.toUInt32 31)).toInt32 &&& (255 : Int32)))) := by rw [hw2]; exact set_eq k_1
  have kp5 := keeps_set kp0 hw2 (by first | exact rfl | decide | omega | (dsimp only; omega))
  refine x_aload_n C dX8_addWord_33 rfl 1 rfl rfl ?_
  refine x_dup C dX8_addWord_34 rfl rfl ?_
  refine x_get C (ci := 7) (k := 1) 1 k3 rfl in_X8 (by decide) w_37 rfl dX8_addWord_35 rfl ?_
  refine x_iconst C (v := 1) dX8_addWord_38 (by decide) rfl ?_
  refine x_iadd C (v := 13) dX8_addWord_39 (by decide) rfl ?_
  obtain ⟨w6, hw7⟩ : ∃ w : va_W, w = List.set w1 1 (ob xt 7 [.ref tb, .int 13, .int 0, .int 0, .int 0]) := ⟨_, rfl⟩
  refine x_put C (ci := 7) (k := 1) (ty := .int) 1 k3 rfl in_X8 tyX8 tyX8_ok nmX8 (by decide) w_37 rfl rfl rfl rfl (Nat.le_of_ble_eq_true rfl) hw7.symm dX8_addWord_40 rfl ?_
  have k8 : w6[1]? = some (ob xt 7 [.ref tb, .int 13, .int 0, .int 0, .int 0]) := by rw [hw7]; exact set_eq k3
  have k9 : w6[2]? = some (iA E tb 260 (upd fb 12 ((v.toUInt32 >>> ((24 : Int32).toUInt32 &&& Int32.toUInt32 31)).toInt32 &&& (255 : Int32)))) := by rw [hw7]; exact set_ne k4 (by decide)
  have kp10 := keeps_set kp5 hw7 (by first | exact rfl | decide | omega | (dsimp only; omega))
  refine x_iinc C (v := 16) (lv' := [(2, .int 16), (0, .ref xt), (1, .int v)]) dX8_addWord_43 0 rfl (by decide) (by decide) rfl rfl ?_
  refine x_goto C (tgt := 3) dX8_addWord_46 (by decide) ?_
  refine x_iload_n C dX8_addWord_3 rfl 0 rfl rfl ?_
  refine x_if_lt C (tgt := 49) dX8_addWord_4 (by decide) rfl (fun h => absurd h (by decide)) (fun _ => ?_)
  refine x_aload_n C dX8_addWord_7 rfl 1 rfl rfl ?_
  refine x_get C (ci := 7) (k := 1) 1 k8 rfl in_X8 (by decide) w_37 rfl dX8_addWord_8 rfl ?_
  refine x_sipush C (v := 260) dX8_addWord_11 (by decide) rfl ?_
  refine x_icmp_ge C (tgt := 49) dX8_addWord_14 (by decide) rfl (fun h => absurd h (by decide)) (fun _ => ?_)
  refine x_aload_n C dX8_addWord_17 rfl 1 rfl rfl ?_
  refine x_get C (ci := 7) (k := 0) 1 k8 rfl in_X8 (by decide) w_36 rfl dX8_addWord_18 rfl ?_
  refine x_aload_n C dX8_addWord_21 rfl 1 rfl rfl ?_
  refine x_get C (ci := 7) (k := 1) 1 k8 rfl in_X8 (by decide) w_37 rfl dX8_addWord_22 rfl ?_
  refine x_iload_n C dX8_addWord_25 rfl 2 rfl rfl ?_
  refine x_iload_n C dX8_addWord_26 rfl 0 rfl rfl ?_
  refine x_iushr C (v := (v.toUInt32 >>> ((16 : Int32).toUInt32 &&& Int32.toUInt32 31)).toInt32) dX8_addWord_27 rfl rfl ?_
  refine x_sipush C (v := 255) dX8_addWord_28 (by decide) rfl ?_
  refine x_iand C (v := ((v.toUInt32 >>> ((16 : Int32).toUInt32 &&& Int32.toUInt32 31)).toInt32 &&& (255 : Int32))) dX8_addWord_31 rfl rfl ?_
  obtain ⟨w11, hw12⟩ : ∃ w : va_W, w = List.set w6 2 (iA E tb 260 (upd (upd fb 12 ((v.toUInt32 >>> ((24 : Int32).toUInt32 &&& Int32.toUInt32 31)).toInt32 &&& (255 : Int32))) 13 ((v.toUInt32 >>> ((16 : Int32).toUInt32 &&& Int32.toUInt32 31)).toInt32 &&& (255 : Int32)))) := ⟨_, rfl⟩
  refine x_iask C 13 (by decide) (by decide) (by decide) 2 k9 hw12.symm dX8_addWord_32 rfl ?_
  have k13 : w11[1]? = some (ob xt 7 [.ref tb, .int 13, .int 0, .int 0, .int 0]) := by rw [hw12]; exact set_ne k8 (by decide)
  have k14 : w11[2]? = some (iA E tb 260 (upd (upd fb 12 ((v.toUInt32 >>> ((24 : Int32).toUInt32 &&& Int32.toUInt32 31)).toInt32 &&& (255 : Int32))) 13 ((v.toUInt32 >>> ((16 : Int32).toUInt32 &&& Int32.toUInt32 31)).toInt32 &&& (255 : Int32)))) := by rw [hw12]; exact set_eq k9
  have kp15 := keeps_set kp10 hw12 (by first | exact rfl | decide | omega | (dsimp only; omega))
  refine x_aload_n C dX8_addWord_33 rfl 1 rfl rfl ?_
  refine x_dup C dX8_addWord_34 rfl rfl ?_
  refine x_get C (ci := 7) (k := 1) 1 k13 rfl in_X8 (by decide) w_37 rfl dX8_addWord_35 rfl ?_
  refine x_iconst C (v := 1) dX8_addWord_38 (by decide) rfl ?_
  refine x_iadd C (v := 14) dX8_addWord_39 (by decide) rfl ?_
  obtain ⟨w16, hw17⟩ : ∃ w : va_W, w = List.set w11 1 (ob xt 7 [.ref tb, .int 14, .int 0, .int 0, .int 0]) := ⟨_, rfl⟩
  refine x_put C (ci := 7) (k := 1) (ty := .int) 1 k13 rfl in_X8 tyX8 tyX8_ok nmX8 (by decide) w_37 rfl rfl rfl rfl (Nat.le_of_ble_eq_true rfl) hw17.symm dX8_addWord_40 rfl ?_
  have k18 : w16[1]? = some (ob xt 7 [.ref tb, .int 14, .int 0, .int 0, .int 0]) := by rw [hw17]; exact set_eq k13
  have k19 : w16[2]? = some (iA E tb 260 (upd (upd fb 12 ((v.toUInt32 >>> ((24 : Int32).toUInt32 &&& Int32.toUInt32 31)).toInt32 &&& (255 : Int32))) 13 ((v.toUInt32 >>> ((16 : Int32).toUInt32 &&& Int32.toUInt32 31)).toInt32 &&& (255 : Int32)))) := by rw [hw17]; exact set_ne k14 (by decide)
  have kp20 := keeps_set kp15 hw17 (by first | exact rfl | decide | omega | (dsimp only; omega))
  refine x_iinc C (v := 8) (lv' := [(2, .int 8), (0, .ref xt), (1, .int v)]) dX8_addWord_43 0 rfl (by decide) (by decide) rfl rfl ?_
  refine x_goto C (tgt := 3) dX8_addWord_46 (by decide) ?_
  refine x_iload_n C dX8_addWord_3 rfl 0 rfl rfl ?_
  refine x_if_lt C (tgt := 49) dX8_addWord_4 (by decide) rfl (fun h => absurd h (by decide)) (fun _ => ?_)
  refine x_aload_n C dX8_addWord_7 rfl 1 rfl rfl ?_
  refine x_get C (ci := 7) (k := 1) 1 k18 rfl in_X8 (by decide) w_37 rfl dX8_addWord_8 rfl ?_
  refine x_sipush C (v := 260) dX8_addWord_11 (by decide) rfl ?_
  refine x_icmp_ge C (tgt := 49) dX8_addWord_14 (by decide) rfl (fun h => absurd h (by decide)) (fun _ => ?_)
  refine x_aload_n C dX8_addWord_17 rfl 1 rfl rfl ?_
  refine x_get C (ci := 7) (k := 0) 1 k18 rfl in_X8 (by decide) w_36 rfl dX8_addWord_18 rfl ?_
  refine x_aload_n C dX8_addWord_21 rfl 1 rfl rfl ?_
  refine x_get C (ci := 7) (k := 1) 1 k18 rfl in_X8 (by decide) w_37 rfl dX8_addWord_22 rfl ?_
  refine x_iload_n C dX8_addWord_25 rfl 2 rfl rfl ?_
  refine x_iload_n C dX8_addWord_26 rfl 0 rfl rfl ?_
  refine x_iushr C (v := (v.toUInt32 >>> ((8 : Int32).toUInt32 &&& Int32.toUInt32 31)).toInt32) dX8_addWord_27 rfl rfl ?_
  refine x_sipush C (v := 255) dX8_addWord_28 (by decide) rfl ?_
  refine x_iand C (v := ((v.toUInt32 >>> ((8 : Int32).toUInt32 &&& Int32.toUInt32 31)).toInt32 &&& (255 : Int32))) dX8_addWord_31 rfl rfl ?_
  obtain ⟨w21, hw22⟩ : ∃ w : va_W, w = List.set w16 2 (iA E tb 260 (upd (upd (upd fb 12 ((v.toUInt32 >>> ((24 : Int32).toUInt32 &&& Int32.toUInt32 31)).toInt32 &&& (255 : Int32))) 13 ((v.toUInt32 >>> ((16 : Int32).toUInt32 &&& Int32.toUInt32 31)).toInt32 &&& (255 : Int32))) 14 ((v.toUInt32 >>> ((8 : Int32).toUInt32 &&& Int32.toUInt32 31)).toInt32 &&& (255 : Int32)))) := ⟨_, rfl⟩
  refine x_iask C 14 (by decide) (by decide) (by decide) 2 k19 hw22.symm dX8_addWord_32 rfl ?_
  have k23 : w21[1]? = some (ob xt 7 [.ref tb, .int 14, .int 0, .int 0, .int 0]) := by rw [hw22]; exact set_ne k18 (by decide)
  have k24 : w21[2]? = some (iA E tb 260 (upd (upd (upd fb 12 ((v.toUInt32 >>> ((24 : Int32).toUInt32 &&& Int32.toUInt32 31)).toInt32 &&& (255 : Int32))) 13 ((v.toUInt32 >>> ((16 : Int32).toUInt32 &&& Int32.toUInt32 31)).toInt32 &&& (255 : Int32))) 14 ((v.toUInt32 >>> ((8 : Int32).toUInt32 &&& Int32.toUInt32 31)).toInt32 &&& (255 : Int32)))) := by rw [hw22]; exact set_eq k19
  have kp25 := keeps_set kp20 hw22 (by first | exact rfl | decide | omega | (dsimp only; omega))
  refine x_aload_n C dX8_addWord_33 rfl 1 rfl rfl ?_
  refine x_dup C dX8_addWord_34 rfl rfl ?_
  refine x_get C (ci := 7) (k := 1) 1 k23 rfl in_X8 (by decide) w_37 rfl dX8_addWord_35 rfl ?_
  refine x_iconst C (v := 1) dX8_addWord_38 (by decide) rfl ?_
  refine x_iadd C (v := 15) dX8_addWord_39 (by decide) rfl ?_
  obtain ⟨w26, hw27⟩ : ∃ w : va_W, w = List.set w21 1 (ob xt 7 [.ref tb, .int 15, .int 0, .int 0, .int 0]) := ⟨_, rfl⟩
  refine x_put C (ci := 7) (k := 1) (ty := .int) 1 k23 rfl in_X8 tyX8 tyX8_ok nmX8 (by decide) w_37 rfl rfl rfl rfl (Nat.le_of_ble_eq_true rfl) hw27.symm dX8_addWord_40 rfl ?_
  have k28 : w26[1]? = some (ob xt 7 [.ref tb, .int 15, .int 0, .int 0, .int 0]) := by rw [hw27]; exact set_eq k23
  have k29 : w26[2]? = some (iA E tb 260 (upd (upd (upd fb 12 ((v.toUInt32 >>> ((24 : Int32).toUInt32 &&& Int32.toUInt32 31)).toInt32 &&& (255 : Int32))) 13 ((v.toUInt32 >>> ((16 : Int32).toUInt32 &&& Int32.toUInt32 31)).toInt32 &&& (255 : Int32))) 14 ((v.toUInt32 >>> ((8 : Int32).toUInt32 &&& Int32.toUInt32 31)).toInt32 &&& (255 : Int32)))) := by rw [hw27]; exact set_ne k24 (by decide)
  have kp30 := keeps_set kp25 hw27 (by first | exact rfl | decide | omega | (dsimp only; omega))
  refine x_iinc C (v := 0) (lv' := [(2, .int 0), (0, .ref xt), (1, .int v)]) dX8_addWord_43 0 rfl (by decide) (by decide) rfl rfl ?_
  refine x_goto C (tgt := 3) dX8_addWord_46 (by decide) ?_
  refine x_iload_n C dX8_addWord_3 rfl 0 rfl rfl ?_
  refine x_if_lt C (tgt := 49) dX8_addWord_4 (by decide) rfl (fun h => absurd h (by decide)) (fun _ => ?_)
  refine x_aload_n C dX8_addWord_7 rfl 1 rfl rfl ?_
  refine x_get C (ci := 7) (k := 1) 1 k28 rfl in_X8 (by decide) w_37 rfl dX8_addWord_8 rfl ?_
  refine x_sipush C (v := 260) dX8_addWord_11 (by decide) rfl ?_
  refine x_icmp_ge C (tgt := 49) dX8_addWord_14 (by decide) rfl (fun h => absurd h (by decide)) (fun _ => ?_)
  refine x_aload_n C dX8_addWord_17 rfl 1 rfl rfl ?_
  refine x_get C (ci := 7) (k := 0) 1 k28 rfl in_X8 (by decide) w_36 rfl dX8_addWord_18 rfl ?_
  refine x_aload_n C dX8_addWord_21 rfl 1 rfl rfl ?_
  refine x_get C (ci := 7) (k := 1) 1 k28 rfl in_X8 (by decide) w_37 rfl dX8_addWord_22 rfl ?_
  refine x_iload_n C dX8_addWord_25 rfl 2 rfl rfl ?_
  refine x_iload_n C dX8_addWord_26 rfl 0 rfl rfl ?_
  refine x_iushr C (v := (v.toUInt32 >>> ((0 : Int32).toUInt32 &&& Int32.toUInt32 31)).toInt32) dX8_addWord_27 rfl rfl ?_
  refine x_sipush C (v := 255) dX8_addWord_28 (by decide) rfl ?_
  refine x_iand C (v := ((v.toUInt32 >>> ((0 : Int32).toUInt32 &&& Int32.toUInt32 31)).toInt32 &&& (255 : Int32))) dX8_addWord_31 rfl rfl ?_
  obtain ⟨w31, hw32⟩ : ∃ w : va_W, w = List.set w26 2 (iA E tb 260 (upd (upd (upd (upd fb 12 ((v.toUInt32 >>> ((24 : Int32).toUInt32 &&& Int32.toUInt32 31)).toInt32 &&& (255 : Int32))) 13 ((v.toUInt32 >>> ((16 : Int32).toUInt32 &&& Int32.toUInt32 31)).toInt32 &&& (255 : Int32))) 14 ((v.toUInt32 >>> ((8 : Int32).toUInt32 &&& Int32.toUInt32 31)).toInt32 &&& (255 : Int32))) 15 ((v.toUInt32 >>> ((0 : Int32).toUInt32 &&& Int32.toUInt32 31)).toInt32 &&& (255 : Int32)))) := ⟨_, rfl⟩
  refine x_iask C 15 (by decide) (by decide) (by decide) 2 k29 hw32.symm dX8_addWord_32 rfl ?_
  have k33 : w31[1]? = some (ob xt 7 [.ref tb, .int 15, .int 0, .int 0, .int 0]) := by rw [hw32]; exact set_ne k28 (by decide)
  have k34 : w31[2]? = some (iA E tb 260 (upd (upd (upd (upd fb 12 ((v.toUInt32 >>> ((24 : Int32).toUInt32 &&& Int32.toUInt32 31)).toInt32 &&& (255 : Int32))) 13 ((v.toUInt32 >>> ((16 : Int32).toUInt32 &&& Int32.toUInt32 31)).toInt32 &&& (255 : Int32))) 14 ((v.toUInt32 >>> ((8 : Int32).toUInt32 &&& Int32.toUInt32 31)).toInt32 &&& (255 : Int32))) 15 ((v.toUInt32 >>> ((0 : Int32).toUInt32 &&& Int32.toUInt32 31)).toInt32 &&& (255 : Int32)))) := by rw [hw32]; exact set_eq k29
  have kp35 := keeps_set kp30 hw32 (by first | exact rfl | decide | omega | (dsimp only; omega))
  refine x_aload_n C dX8_addWord_33 rfl 1 rfl rfl ?_
  refine x_dup C dX8_addWord_34 rfl rfl ?_
  refine x_get C (ci := 7) (k := 1) 1 k33 rfl in_X8 (by decide) w_37 rfl dX8_addWord_35 rfl ?_
  refine x_iconst C (v := 1) dX8_addWord_38 (by decide) rfl ?_
  refine x_iadd C (v := 16) dX8_addWord_39 (by decide) rfl ?_
  obtain ⟨w36, hw37⟩ : ∃ w : va_W, w = List.set w31 1 (ob xt 7 [.ref tb, .int 16, .int 0, .int 0, .int 0]) := ⟨_, rfl⟩
  refine x_put C (ci := 7) (k := 1) (ty := .int) 1 k33 rfl in_X8 tyX8 tyX8_ok nmX8 (by decide) w_37 rfl rfl rfl rfl (Nat.le_of_ble_eq_true rfl) hw37.symm dX8_addWord_40 rfl ?_
  have k38 : w36[1]? = some (ob xt 7 [.ref tb, .int 16, .int 0, .int 0, .int 0]) := by rw [hw37]; exact set_eq k33
  have k39 : w36[2]? = some (iA E tb 260 (upd (upd (upd (upd fb 12 ((v.toUInt32 >>> ((24 : Int32).toUInt32 &&& Int32.toUInt32 31)).toInt32 &&& (255 : Int32))) 13 ((v.toUInt32 >>> ((16 : Int32).toUInt32 &&& Int32.toUInt32 31)).toInt32 &&& (255 : Int32))) 14 ((v.toUInt32 >>> ((8 : Int32).toUInt32 &&& Int32.toUInt32 31)).toInt32 &&& (255 : Int32))) 15 ((v.toUInt32 >>> ((0 : Int32).toUInt32 &&& Int32.toUInt32 31)).toInt32 &&& (255 : Int32)))) := by rw [hw37]; exact set_ne k34 (by decide)
  have kp40 := keeps_set kp35 hw37 (by first | exact rfl | decide | omega | (dsimp only; omega))
  refine x_iinc C (v := (-8)) (lv' := [(2, .int (-8)), (0, .ref xt), (1, .int v)]) dX8_addWord_43 0 rfl (by decide) (by decide) rfl rfl ?_
  refine x_goto C (tgt := 3) dX8_addWord_46 (by decide) ?_
  refine x_iload_n C dX8_addWord_3 rfl 0 rfl rfl ?_
  refine x_if_lt C (tgt := 49) dX8_addWord_4 (by decide) rfl (fun _ => ?_) (fun h => absurd h (by decide))
  exact x_vret C hr hlk dX8_addWord_49 ⟨kp40, k38, ⟨_, k39⟩⟩
set_option maxRecDepth 20000 in
set_option maxHeartbeats 4000000 in
theorem t_addWord_16 (E : xE) (l : Launch) (ws : va_W) {xt tb : Nat} {fb : Nat → Int32} (p_0 : Nat) (k_0 : ws[1]? = some (ob xt 7 [.ref tb, .int 16, .int 0, .int 0, .int 0])) (p_1 : Nat) (k_1 : ws[2]? = some (iA E tb 260 fb)) (v : Int32) : xV E l yX8_addWord cX8_addWord 3 0 0 0 [.ref xt, .int v] ws (fun w => keeps ws w (fun q => q = 1 ∨ q = 2) ∧ w[1]? = some (ob xt 7 [.ref tb, .int 20, .int 0, .int 0, .int 0]) ∧ (∃ fg : Nat → Int32, w[2]? = some (iA E tb 260 fg))) := by
  refine xV_start (lv := [(0, .ref xt), (1, .int v)]) RX8 (by decide) rfl (Nat.le_of_ble_eq_true rfl) rfl (fun p e s m below meth c A C hr hlk hin => ?_)
  have kp0 : keeps ws ws (fun q => q = 1 ∨ q = 2) := keeps_rf
  refine x_bipush C (v := 24) dX8_addWord_0 (by decide) rfl ?_
  refine x_istore_n C (lv' := [(2, .int 24), (0, .ref xt), (1, .int v)]) dX8_addWord_2 rfl (by decide) rfl rfl ?_
  refine x_iload_n C dX8_addWord_3 rfl 0 rfl rfl ?_
  refine x_if_lt C (tgt := 49) dX8_addWord_4 (by decide) rfl (fun h => absurd h (by decide)) (fun _ => ?_)
  refine x_aload_n C dX8_addWord_7 rfl 1 rfl rfl ?_
  refine x_get C (ci := 7) (k := 1) 1 k_0 rfl in_X8 (by decide) w_37 rfl dX8_addWord_8 rfl ?_
  refine x_sipush C (v := 260) dX8_addWord_11 (by decide) rfl ?_
  refine x_icmp_ge C (tgt := 49) dX8_addWord_14 (by decide) rfl (fun h => absurd h (by decide)) (fun _ => ?_)
  refine x_aload_n C dX8_addWord_17 rfl 1 rfl rfl ?_
  refine x_get C (ci := 7) (k := 0) 1 k_0 rfl in_X8 (by decide) w_36 rfl dX8_addWord_18 rfl ?_
  refine x_aload_n C dX8_addWord_21 rfl 1 rfl rfl ?_
  refine x_get C (ci := 7) (k := 1) 1 k_0 rfl in_X8 (by decide) w_37 rfl dX8_addWord_22 rfl ?_
  refine x_iload_n C dX8_addWord_25 rfl 2 rfl rfl ?_
  refine x_iload_n C dX8_addWord_26 rfl 0 rfl rfl ?_
  refine x_iushr C (v := (v.toUInt32 >>> ((24 : Int32).toUInt32 &&& Int32.toUInt32 31)).toInt32) dX8_addWord_27 rfl rfl ?_
  refine x_sipush C (v := 255) dX8_addWord_28 (by decide) rfl ?_
  refine x_iand C (v := ((v.toUInt32 >>> ((24 : Int32).toUInt32 &&& Int32.toUInt32 31)).toInt32 &&& (255 : Int32))) dX8_addWord_31 rfl rfl ?_
  obtain ⟨w1, hw2⟩ : ∃ w : va_W, w = List.set ws 2 (iA E tb 260 (upd fb 16 ((v.toUInt32 >>> ((24 : Int32).toUInt32 &&& Int32.toUInt32 31)).toInt32 &&& (255 : Int32)))) := ⟨_, rfl⟩
  refine x_iask C 16 (by decide) (by decide) (by decide) 2 k_1 hw2.symm dX8_addWord_32 rfl ?_
  have k3 : w1[1]? = some (ob xt 7 [.ref tb, .int 16, .int 0, .int 0, .int 0]) := by rw [hw2]; exact set_ne k_0 (by decide)
  have k4 : w1[2]? = some (iA E tb 260 (upd fb 16 ((v.toUInt32 >>> ((24 : Int32).toUInt32 &&& Int32.toUInt32 31)).toInt32 &&& (255 : Int32)))) := by rw [hw2]; exact set_eq k_1
  have kp5 := keeps_set kp0 hw2 (by first | exact rfl | decide | omega | (dsimp only; omega))
  refine x_aload_n C dX8_addWord_33 rfl 1 rfl rfl ?_
  refine x_dup C dX8_addWord_34 rfl rfl ?_
  refine x_get C (ci := 7) (k := 1) 1 k3 rfl in_X8 (by decide) w_37 rfl dX8_addWord_35 rfl ?_
  refine x_iconst C (v := 1) dX8_addWord_38 (by decide) rfl ?_
  refine x_iadd C (v := 17) dX8_addWord_39 (by decide) rfl ?_
  obtain ⟨w6, hw7⟩ : ∃ w : va_W, w = List.set w1 1 (ob xt 7 [.ref tb, .int 17, .int 0, .int 0, .int 0]) := ⟨_, rfl⟩
  refine x_put C (ci := 7) (k := 1) (ty := .int) 1 k3 rfl in_X8 tyX8 tyX8_ok nmX8 (by decide) w_37 rfl rfl rfl rfl (Nat.le_of_ble_eq_true rfl) hw7.symm dX8_addWord_40 rfl ?_
  have k8 : w6[1]? = some (ob xt 7 [.ref tb, .int 17, .int 0, .int 0, .int 0]) := by rw [hw7]; exact set_eq k3
  have k9 : w6[2]? = some (iA E tb 260 (upd fb 16 ((v.toUInt32 >>> ((24 : Int32).toUInt32 &&& Int32.toUInt32 31)).toInt32 &&& (255 : Int32)))) := by rw [hw7]; exact set_ne k4 (by decide)
  have kp10 := keeps_set kp5 hw7 (by first | exact rfl | decide | omega | (dsimp only; omega))
  refine x_iinc C (v := 16) (lv' := [(2, .int 16), (0, .ref xt), (1, .int v)]) dX8_addWord_43 0 rfl (by decide) (by decide) rfl rfl ?_
  refine x_goto C (tgt := 3) dX8_addWord_46 (by decide) ?_
  refine x_iload_n C dX8_addWord_3 rfl 0 rfl rfl ?_
  refine x_if_lt C (tgt := 49) dX8_addWord_4 (by decide) rfl (fun h => absurd h (by decide)) (fun _ => ?_)
  refine x_aload_n C dX8_addWord_7 rfl 1 rfl rfl ?_
  refine x_get C (ci := 7) (k := 1) 1 k8 rfl in_X8 (by decide) w_37 rfl dX8_addWord_8 rfl ?_
  refine x_sipush C (v := 260) dX8_addWord_11 (by decide) rfl ?_
  refine x_icmp_ge C (tgt := 49) dX8_addWord_14 (by decide) rfl (fun h => absurd h (by decide)) (fun _ => ?_)
  refine x_aload_n C dX8_addWord_17 rfl 1 rfl rfl ?_
  refine x_get C (ci := 7) (k := 0) 1 k8 rfl in_X8 (by decide) w_36 rfl dX8_addWord_18 rfl ?_
  refine x_aload_n C dX8_addWord_21 rfl 1 rfl rfl ?_
  refine x_get C (ci := 7) (k := 1) 1 k8 rfl in_X8 (by decide) w_37 rfl dX8_addWord_22 rfl ?_
  refine x_iload_n C dX8_addWord_25 rfl 2 rfl rfl ?_
  refine x_iload_n C dX8_addWord_26 rfl 0 rfl rfl ?_
  refine x_iushr C (v := (v.toUInt32 >>> ((16 : Int32).toUInt32 &&& Int32.toUInt32 31)).toInt32) dX8_addWord_27 rfl rfl ?_
  refine x_sipush C (v := 255) dX8_addWord_28 (by decide) rfl ?_
  refine x_iand C (v := ((v.toUInt32 >>> ((16 : Int32).toUInt32 &&& Int32.toUInt32 31)).toInt32 &&& (255 : Int32))) dX8_addWord_31 rfl rfl ?_
  obtain ⟨w11, hw12⟩ : ∃ w : va_W, w = List.set w6 2 (iA E tb 260 (upd (upd fb 16 ((v.toUInt32 >>> ((24 : Int32).toUInt32 &&& Int32.toUInt32 31)).toInt32 &&& (255 : Int32))) 17 ((v.toUInt32 >>> ((16 : Int32).toUInt32 &&& Int32.toUInt32 31)).toInt32 &&& (255 : Int32)))) := ⟨_, rfl⟩
  refine x_iask C 17 (by decide) (by decide) (by decide) 2 k9 hw12.symm dX8_addWord_32 rfl ?_
  have k13 : w11[1]? = some (ob xt 7 [.ref tb, .int 17, .int 0, .int 0, .int 0]) := by rw [hw12]; exact set_ne k8 (by decide)
  have k14 : w11[2]? = some (iA E tb 260 (upd (upd fb 16 ((v.toUInt32 >>> ((24 : Int32).toUInt32 &&& Int32.toUInt32 31)).toInt32 &&& (255 : Int32))) 17 ((v.toUInt32 >>> ((16 : Int32).toUInt32 &&& Int32.toUInt32 31)).toInt32 &&& (255 : Int32)))) := by rw [hw12]; exact set_eq k9
  have kp15 := keeps_set kp10 hw12 (by first | exact rfl | decide | omega | (dsimp only; omega))
  refine x_aload_n C dX8_addWord_33 rfl 1 rfl rfl ?_
  refine x_dup C dX8_addWord_34 rfl rfl ?_
  refine x_get C (ci := 7) (k := 1) 1 k13 rfl in_X8 (by decide) w_37 rfl dX8_addWord_35 rfl ?_
  refine x_iconst C (v := 1) dX8_addWord_38 (by decide) rfl ?_
  refine x_iadd C (v := 18) dX8_addWord_39 (by decide) rfl ?_
  obtain ⟨w16, hw17⟩ : ∃ w : va_W, w = List.set w11 1 (ob xt 7 [.ref tb, .int 18, .int 0, .int 0, .int 0]) := ⟨_, rfl⟩
  refine x_put C (ci := 7) (k := 1) (ty := .int) 1 k13 rfl in_X8 tyX8 tyX8_ok nmX8 (by decide) w_37 rfl rfl rfl rfl (Nat.le_of_ble_eq_true rfl) hw17.symm dX8_addWord_40 rfl ?_
  have k18 : w16[1]? = some (ob xt 7 [.ref tb, .int 18, .int 0, .int 0, .int 0]) := by rw [hw17]; exact set_eq k13
  have k19 : w16[2]? = some (iA E tb 260 (upd (upd fb 16 ((v.toUInt32 >>> ((24 : Int32).toUInt32 &&& Int32.toUInt32 31)).toInt32 &&& (255 : Int32))) 17 ((v.toUInt32 >>> ((16 : Int32).toUInt32 &&& Int32.toUInt32 31)).toInt32 &&& (255 : Int32)))) := by rw [hw17]; exact set_ne k14 (by decide)
  have kp20 := keeps_set kp15 hw17 (by first | exact rfl | decide | omega | (dsimp only; omega))
  refine x_iinc C (v := 8) (lv' := [(2, .int 8), (0, .ref xt), (1, .int v)]) dX8_addWord_43 0 rfl (by decide) (by decide) rfl rfl ?_
  refine x_goto C (tgt := 3) dX8_addWord_46 (by decide) ?_
  refine x_iload_n C dX8_addWord_3 rfl 0 rfl rfl ?_
  refine x_if_lt C (tgt := 49) dX8_addWord_4 (by decide) rfl (fun h => absurd h (by decide)) (fun _ => ?_)
  refine x_aload_n C dX8_addWord_7 rfl 1 rfl rfl ?_
  refine x_get C (ci := 7) (k := 1) 1 k18 rfl in_X8 (by decide) w_37 rfl dX8_addWord_8 rfl ?_
  refine x_sipush C (v := 260) dX8_addWord_11 (by decide) rfl ?_
  refine x_icmp_ge C (tgt := 49) dX8_addWord_14 (by decide) rfl (fun h => absurd h (by decide)) (fun _ => ?_)
  refine x_aload_n C dX8_addWord_17 rfl 1 rfl rfl ?_
  refine x_get C (ci := 7) (k := 0) 1 k18 rfl in_X8 (by decide) w_36 rfl dX8_addWord_18 rfl ?_
  refine x_aload_n C dX8_addWord_21 rfl 1 rfl rfl ?_
  refine x_get C (ci := 7) (k := 1) 1 k18 rfl in_X8 (by decide) w_37 rfl dX8_addWord_22 rfl ?_
  refine x_iload_n C dX8_addWord_25 rfl 2 rfl rfl ?_
  refine x_iload_n C dX8_addWord_26 rfl 0 rfl rfl ?_
  refine x_iushr C (v := (v.toUInt32 >>> ((8 : Int32).toUInt32 &&& Int32.toUInt32 31)).toInt32) dX8_addWord_27 rfl rfl ?_
  refine x_sipush C (v := 255) dX8_addWord_28 (by decide) rfl ?_
  refine x_iand C (v := ((v.toUInt32 >>> ((8 : Int32).toUInt32 &&& Int32.toUInt32 31)).toInt32 &&& (255 : Int32))) dX8_addWord_31 rfl rfl ?_
  obtain ⟨w21, hw22⟩ : ∃ w : va_W, w = List.set w16 2 (iA E tb 260 (upd (upd (upd fb 16 ((v.toUInt32 >>> ((24 : Int32).toUInt32 &&& Int32.toUInt32 31)).toInt32 &&& (255 : Int32))) 17 ((v.toUInt32 >>> ((16 : Int32).toUInt32 &&& Int32.toUInt32 31)).toInt32 &&& (255 : Int32))) 18 ((v.toUInt32 >>> ((8 : Int32).toUInt32 &&& Int32.toUInt32 31)).toInt32 &&& (255 : Int32)))) := ⟨_, rfl⟩
  refine x_iask C 18 (by decide) (by decide) (by decide) 2 k19 hw22.symm dX8_addWord_32 rfl ?_
  have k23 : w21[1]? = some (ob xt 7 [.ref tb, .int 18, .int 0, .int 0, .int 0]) := by rw [hw22]; exact set_ne k18 (by decide)
  have k24 : w21[2]? = some (iA E tb 260 (upd (upd (upd fb 16 ((v.toUInt32 >>> ((24 : Int32).toUInt32 &&& Int32.toUInt32 31)).toInt32 &&& (255 : Int32))) 17 ((v.toUInt32 >>> ((16 : Int32).toUInt32 &&& Int32.toUInt32 31)).toInt32 &&& (255 : Int32))) 18 ((v.toUInt32 >>> ((8 : Int32).toUInt32 &&& Int32.toUInt32 31)).toInt32 &&& (255 : Int32)))) := by rw [hw22]; exact set_eq k19
  have kp25 := keeps_set kp20 hw22 (by first | exact rfl | decide | omega | (dsimp only; omega))
  refine x_aload_n C dX8_addWord_33 rfl 1 rfl rfl ?_
  refine x_dup C dX8_addWord_34 rfl rfl ?_
  refine x_get C (ci := 7) (k := 1) 1 k23 rfl in_X8 (by decide) w_37 rfl dX8_addWord_35 rfl ?_
  refine x_iconst C (v := 1) dX8_addWord_38 (by decide) rfl ?_
  refine x_iadd C (v := 19) dX8_addWord_39 (by decide) rfl ?_
  obtain ⟨w26, hw27⟩ : ∃ w : va_W, w = List.set w21 1 (ob xt 7 [.ref tb, .int 19, .int 0, .int 0, .int 0]) := ⟨_, rfl⟩
  refine x_put C (ci := 7) (k := 1) (ty := .int) 1 k23 rfl in_X8 tyX8 tyX8_ok nmX8 (by decide) w_37 rfl rfl rfl rfl (Nat.le_of_ble_eq_true rfl) hw27.symm dX8_addWord_40 rfl ?_
  have k28 : w26[1]? = some (ob xt 7 [.ref tb, .int 19, .int 0, .int 0, .int 0]) := by rw [hw27]; exact set_eq k23
  have k29 : w26[2]? = some (iA E tb 260 (upd (upd (upd fb 16 ((v.toUInt32 >>> ((24 : Int32).toUInt32 &&& Int32.toUInt32 31)).toInt32 &&& (255 : Int32))) 17 ((v.toUInt32 >>> ((16 : Int32).toUInt32 &&& Int32.toUInt32 31)).toInt32 &&& (255 : Int32))) 18 ((v.toUInt32 >>> ((8 : Int32).toUInt32 &&& Int32.toUInt32 31)).toInt32 &&& (255 : Int32)))) := by rw [hw27]; exact set_ne k24 (by decide)
  have kp30 := keeps_set kp25 hw27 (by first | exact rfl | decide | omega | (dsimp only; omega))
  refine x_iinc C (v := 0) (lv' := [(2, .int 0), (0, .ref xt), (1, .int v)]) dX8_addWord_43 0 rfl (by decide) (by decide) rfl rfl ?_
  refine x_goto C (tgt := 3) dX8_addWord_46 (by decide) ?_
  refine x_iload_n C dX8_addWord_3 rfl 0 rfl rfl ?_
  refine x_if_lt C (tgt := 49) dX8_addWord_4 (by decide) rfl (fun h => absurd h (by decide)) (fun _ => ?_)
  refine x_aload_n C dX8_addWord_7 rfl 1 rfl rfl ?_
  refine x_get C (ci := 7) (k := 1) 1 k28 rfl in_X8 (by decide) w_37 rfl dX8_addWord_8 rfl ?_
  refine x_sipush C (v := 260) dX8_addWord_11 (by decide) rfl ?_
  refine x_icmp_ge C (tgt := 49) dX8_addWord_14 (by decide) rfl (fun h => absurd h (by decide)) (fun _ => ?_)
  refine x_aload_n C dX8_addWord_17 rfl 1 rfl rfl ?_
  refine x_get C (ci := 7) (k := 0) 1 k28 rfl in_X8 (by decide) w_36 rfl dX8_addWord_18 rfl ?_
  refine x_aload_n C dX8_addWord_21 rfl 1 rfl rfl ?_
  refine x_get C (ci := 7) (k := 1) 1 k28 rfl in_X8 (by decide) w_37 rfl dX8_addWord_22 rfl ?_
  refine x_iload_n C dX8_addWord_25 rfl 2 rfl rfl ?_
  refine x_iload_n C dX8_addWord_26 rfl 0 rfl rfl ?_
  refine x_iushr C (v := (v.toUInt32 >>> ((0 : Int32).toUInt32 &&& Int32.toUInt32 31)).toInt32) dX8_addWord_27 rfl rfl ?_
  refine x_sipush C (v := 255) dX8_addWord_28 (by decide) rfl ?_
  refine x_iand C (v := ((v.toUInt32 >>> ((0 : Int32).toUInt32 &&& Int32.toUInt32 31)).toInt32 &&& (255 : Int32))) dX8_addWord_31 rfl rfl ?_
  obtain ⟨w31, hw32⟩ : ∃ w : va_W, w = List.set w26 2 (iA E tb 260 (upd (upd (upd (upd fb 16 ((v.toUInt32 >>> ((24 : Int32).toUInt32 &&& Int32.toUInt32 31)).toInt32 &&& (255 : Int32))) 17 ((v.toUInt32 >>> ((16 : Int32).toUInt32 &&& Int32.toUInt32 31)).toInt32 &&& (255 : Int32))) 18 ((v.toUInt32 >>> ((8 : Int32).toUInt32 &&& Int32.toUInt32 31)).toInt32 &&& (255 : Int32))) 19 ((v.toUInt32 >>> ((0 : Int32).toUInt32 &&& Int32.toUInt32 31)).toInt32 &&& (255 : Int32)))) := ⟨_, rfl⟩
  refine x_iask C 19 (by decide) (by decide) (by decide) 2 k29 hw32.symm dX8_addWord_32 rfl ?_
  have k33 : w31[1]? = some (ob xt 7 [.ref tb, .int 19, .int 0, .int 0, .int 0]) := by rw [hw32]; exact set_ne k28 (by decide)
  have k34 : w31[2]? = some (iA E tb 260 (upd (upd (upd (upd fb 16 ((v.toUInt32 >>> ((24 : Int32).toUInt32 &&& Int32.toUInt32 31)).toInt32 &&& (255 : Int32))) 17 ((v.toUInt32 >>> ((16 : Int32).toUInt32 &&& Int32.toUInt32 31)).toInt32 &&& (255 : Int32))) 18 ((v.toUInt32 >>> ((8 : Int32).toUInt32 &&& Int32.toUInt32 31)).toInt32 &&& (255 : Int32))) 19 ((v.toUInt32 >>> ((0 : Int32).toUInt32 &&& Int32.toUInt32 31)).toInt32 &&& (255 : Int32)))) := by rw [hw32]; exact set_eq k29
  have kp35 := keeps_set kp30 hw32 (by first | exact rfl | decide | omega | (dsimp only; omega))
  refine x_aload_n C dX8_addWord_33 rfl 1 rfl rfl ?_
  refine x_dup C dX8_addWord_34 rfl rfl ?_
  refine x_get C (ci := 7) (k := 1) 1 k33 rfl in_X8 (by decide) w_37 rfl dX8_addWord_35 rfl ?_
  refine x_iconst C (v := 1) dX8_addWord_38 (by decide) rfl ?_
  refine x_iadd C (v := 20) dX8_addWord_39 (by decide) rfl ?_
  obtain ⟨w36, hw37⟩ : ∃ w : va_W, w = List.set w31 1 (ob xt 7 [.ref tb, .int 20, .int 0, .int 0, .int 0]) := ⟨_, rfl⟩
  refine x_put C (ci := 7) (k := 1) (ty := .int) 1 k33 rfl in_X8 tyX8 tyX8_ok nmX8 (by decide) w_37 rfl rfl rfl rfl (Nat.le_of_ble_eq_true rfl) hw37.symm dX8_addWord_40 rfl ?_
  have k38 : w36[1]? = some (ob xt 7 [.ref tb, .int 20, .int 0, .int 0, .int 0]) := by rw [hw37]; exact set_eq k33
  have k39 : w36[2]? = some (iA E tb 260 (upd (upd (upd (upd fb 16 ((v.toUInt32 >>> ((24 : Int32).toUInt32 &&& Int32.toUInt32 31)).toInt32 &&& (255 : Int32))) 17 ((v.toUInt32 >>> ((16 : Int32).toUInt32 &&& Int32.toUInt32 31)).toInt32 &&& (255 : Int32))) 18 ((v.toUInt32 >>> ((8 : Int32).toUInt32 &&& Int32.toUInt32 31)).toInt32 &&& (255 : Int32))) 19 ((v.toUInt32 >>> ((0 : Int32).toUInt32 &&& Int32.toUInt32 31)).toInt32 &&& (255 : Int32)))) := by rw [hw37]; exact set_ne k34 (by decide)
  have kp40 := keeps_set kp35 hw37 (by first | exact rfl | decide | omega | (dsimp only; omega))
  refine x_iinc C (v := (-8)) (lv' := [(2, .int (-8)), (0, .ref xt), (1, .int v)]) dX8_addWord_43 0 rfl (by decide) (by decide) rfl rfl ?_
  refine x_goto C (tgt := 3) dX8_addWord_46 (by decide) ?_
  refine x_iload_n C dX8_addWord_3 rfl 0 rfl rfl ?_
  refine x_if_lt C (tgt := 49) dX8_addWord_4 (by decide) rfl (fun _ => ?_) (fun h => absurd h (by decide))
  exact x_vret C hr hlk dX8_addWord_49 ⟨kp40, k38, ⟨_, k39⟩⟩
theorem dX11_feed_0 : decode cX11_feed 0 = .ok (.aload_n 0, 1) := by decide +kernel
theorem dX11_feed_1 : decode cX11_feed 1 = .ok (.getfield 10, 3) := by decide +kernel
theorem dX11_feed_4 : decode cX11_feed 4 = .ok (.getfield 142, 3) := by decide +kernel
theorem dX11_feed_7 : decode cX11_feed 7 = .ok (.bipush 20, 2) := by decide +kernel
theorem dX11_feed_9 : decode cX11_feed 9 = .ok (.iadd, 1) := by decide +kernel
theorem dX11_feed_10 : decode cX11_feed 10 = .ok (.sipush 260, 3) := by decide +kernel
theorem dX11_feed_13 : decode cX11_feed 13 = .ok (.if_icmp .le 5, 3) := by decide +kernel
theorem dX11_feed_18 : decode cX11_feed 18 = .ok (.aload_n 0, 1) := by decide +kernel
theorem dX11_feed_19 : decode cX11_feed 19 = .ok (.getfield 10, 3) := by decide +kernel
theorem dX11_feed_22 : decode cX11_feed 22 = .ok (.iload_n 1, 1) := by decide +kernel
theorem dX11_feed_23 : decode cX11_feed 23 = .ok (.invokevirtual 145, 3) := by decide +kernel
theorem dX11_feed_26 : decode cX11_feed 26 = .ok (.aload_n 0, 1) := by decide +kernel
theorem dX11_feed_27 : decode cX11_feed 27 = .ok (.getfield 10, 3) := by decide +kernel
theorem dX11_feed_30 : decode cX11_feed 30 = .ok (.iload_n 2, 1) := by decide +kernel
theorem dX11_feed_31 : decode cX11_feed 31 = .ok (.invokevirtual 145, 3) := by decide +kernel
theorem dX11_feed_34 : decode cX11_feed 34 = .ok (.aload_n 0, 1) := by decide +kernel
theorem dX11_feed_35 : decode cX11_feed 35 = .ok (.getfield 10, 3) := by decide +kernel
theorem dX11_feed_38 : decode cX11_feed 38 = .ok (.iload_n 3, 1) := by decide +kernel
theorem dX11_feed_39 : decode cX11_feed 39 = .ok (.invokevirtual 145, 3) := by decide +kernel
theorem dX11_feed_42 : decode cX11_feed 42 = .ok (.aload_n 0, 1) := by decide +kernel
theorem dX11_feed_43 : decode cX11_feed 43 = .ok (.getfield 10, 3) := by decide +kernel
theorem dX11_feed_46 : decode cX11_feed 46 = .ok (.iload 4, 2) := by decide +kernel
theorem dX11_feed_48 : decode cX11_feed 48 = .ok (.invokevirtual 145, 3) := by decide +kernel
theorem dX11_feed_51 : decode cX11_feed 51 = .ok (.aload_n 0, 1) := by decide +kernel
theorem dX11_feed_52 : decode cX11_feed 52 = .ok (.getfield 10, 3) := by decide +kernel
theorem dX11_feed_55 : decode cX11_feed 55 = .ok (.iload 5, 2) := by decide +kernel
theorem dX11_feed_57 : decode cX11_feed 57 = .ok (.invokevirtual 145, 3) := by decide +kernel
theorem dX11_feed_60 : decode cX11_feed 60 = .ok (.aload_n 0, 1) := by decide +kernel
theorem dX11_feed_61 : decode cX11_feed 61 = .ok (.getfield 10, 3) := by decide +kernel
theorem dX11_feed_64 : decode cX11_feed 64 = .ok (.getfield 142, 3) := by decide +kernel
theorem dX11_feed_67 : decode cX11_feed 67 = .ok (.ireturn, 1) := by decide +kernel
set_option maxRecDepth 20000 in
set_option maxHeartbeats 4000000 in
theorem t_feed (E : xE) (l : Launch) (ws : va_W) {x xt xk xn xp xtr xr xs xl xpl xse ah ald arm ahr ash arw abr aw tb : Nat} {fb : Nat → Int32} (p_0 : Nat) (k_0 : ws[0]? = some (ob x 10 [.ref xt, .ref xk, .ref xn, .ref xp, .ref xtr, .int 0, .ref xr, .ref xs, .ref xl, .ref xpl, .ref xse, .ref ah, .ref ald, .ref arm, .ref ahr, .ref ash, .ref arw, .ref abr, .ref aw])) (p_1 : Nat) (k_1 : ws[1]? = some (ob xt 7 [.ref tb, .int 0, .int 0, .int 0, .int 0])) (p_2 : Nat) (k_2 : ws[2]? = some (iA E tb 260 fb)) (a b c0 d e0 : Int32) : xI E l yX11_feed cX11_feed 6 (some .int) 1 [.ref x, .int a, .int b, .int c0, .int d, .int e0] ws (fun r w => r = 20) := by
  refine xI_start (lv := [(0, .ref x), (1, .int a), (2, .int b), (3, .int c0), (4, .int d), (5, .int e0)]) RX11 (by decide) rfl (Nat.le_of_ble_eq_true rfl) rfl (fun p e s m below meth c A C hr hlk => ?_)
  refine x_aload_n C dX11_feed_0 rfl 0 rfl rfl ?_
  refine x_get C (ci := 10) (k := 0) 0 k_0 rfl in_X11 (by decide) w_385 rfl dX11_feed_1 rfl ?_
  refine x_get C (ci := 7) (k := 1) 1 k_1 rfl in_X8 (by decide) w_38 rfl dX11_feed_4 rfl ?_
  refine x_bipush C (v := 20) dX11_feed_7 (by decide) rfl ?_
  refine x_iadd C (v := 20) dX11_feed_9 (by decide) rfl ?_
  refine x_sipush C (v := 260) dX11_feed_10 (by decide) rfl ?_
  refine x_icmp_le C (tgt := 18) dX11_feed_13 (by decide) rfl (fun _ => ?_) (fun h => absurd h (by decide))
  refine x_aload_n C dX11_feed_18 rfl 0 rfl rfl ?_
  refine x_get C (ci := 10) (k := 0) 0 k_0 rfl in_X11 (by decide) w_385 rfl dX11_feed_19 rfl ?_
  refine x_iload_n C dX11_feed_22 rfl 1 rfl rfl ?_
  refine x_vv C (As := [.int a]) (rest := []) (t_addWord_0 E l ws 1 k_1 2 k_2 a) mf_X8_addWord w_499 1 k_1 rfl rfl rfl (Nat.le_of_ble_eq_true rfl) ⟨(Nat.le_of_ble_eq_true rfl), (Nat.le_of_ble_eq_true rfl)⟩ ⟨(Nat.le_of_ble_eq_true rfl), (Nat.le_of_ble_eq_true rfl)⟩ dX11_feed_23 rfl (fun w3 h1 => ?_)
  obtain ⟨g4, g5, ⟨fx8, g6⟩⟩ := h1
  have k9 : w3[0]? = some (ob x 10 [.ref xt, .ref xk, .ref xn, .ref xp, .ref xtr, .int 0, .ref xr, .ref xs, .ref xl, .ref xpl, .ref xse, .ref ah, .ref ald, .ref arm, .ref ahr, .ref ash, .ref arw, .ref abr, .ref aw]) := keeps_at g4 k_0 (by first | decide | omega | (dsimp only; omega))
  refine x_aload_n C dX11_feed_26 rfl 0 rfl rfl ?_
  refine x_get C (ci := 10) (k := 0) 0 k9 rfl in_X11 (by decide) w_385 rfl dX11_feed_27 rfl ?_
  refine x_iload_n C dX11_feed_30 rfl 2 rfl rfl ?_
  refine x_vv C (As := [.int b]) (rest := []) (t_addWord_4 E l w3 1 g5 2 g6 b) mf_X8_addWord w_499 1 g5 rfl rfl rfl (Nat.le_of_ble_eq_true rfl) ⟨(Nat.le_of_ble_eq_true rfl), (Nat.le_of_ble_eq_true rfl)⟩ ⟨(Nat.le_of_ble_eq_true rfl), (Nat.le_of_ble_eq_true rfl)⟩ dX11_feed_31 rfl (fun w12 h10 => ?_)
  obtain ⟨g13, g14, ⟨fx17, g15⟩⟩ := h10
  have k18 : w12[0]? = some (ob x 10 [.ref xt, .ref xk, .ref xn, .ref xp, .ref xtr, .int 0, .ref xr, .ref xs, .ref xl, .ref xpl, .ref xse, .ref ah, .ref ald, .ref arm, .ref ahr, .ref ash, .ref arw, .ref abr, .ref aw]) := keeps_at g13 k9 (by first | decide | omega | (dsimp only; omega))
  refine x_aload_n C dX11_feed_34 rfl 0 rfl rfl ?_
  refine x_get C (ci := 10) (k := 0) 0 k18 rfl in_X11 (by decide) w_385 rfl dX11_feed_35 rfl ?_
  refine x_iload_n C dX11_feed_38 rfl 3 rfl rfl ?_
  refine x_vv C (As := [.int c0]) (rest := []) (t_addWord_8 E l w12 1 g14 2 g15 c0) mf_X8_addWord w_499 1 g14 rfl rfl rfl (Nat.le_of_ble_eq_true rfl) ⟨(Nat.le_of_ble_eq_true rfl), (Nat.le_of_ble_eq_true rfl)⟩ ⟨(Nat.le_of_ble_eq_true rfl), (Nat.le_of_ble_eq_true rfl)⟩ dX11_feed_39 rfl (fun w21 h19 => ?_)
  obtain ⟨g22, g23, ⟨fx26, g24⟩⟩ := h19
  have k27 : w21[0]? = some (ob x 10 [.ref xt, .ref xk, .ref xn, .ref xp, .ref xtr, .int 0, .ref xr, .ref xs, .ref xl, .ref xpl, .ref xse, .ref ah, .ref ald, .ref arm, .ref ahr, .ref ash, .ref arw, .ref abr, .ref aw]) := keeps_at g22 k18 (by first | decide | omega | (dsimp only; omega))
  refine x_aload_n C dX11_feed_42 rfl 0 rfl rfl ?_
  refine x_get C (ci := 10) (k := 0) 0 k27 rfl in_X11 (by decide) w_385 rfl dX11_feed_43 rfl ?_
  refine x_iload C dX11_feed_46 4 rfl rfl ?_
  refine x_vv C (As := [.int d]) (rest := []) (t_addWord_12 E l w21 1 g23 2 g24 d) mf_X8_addWord w_499 1 g23 rfl rfl rfl (Nat.le_of_ble_eq_true rfl) ⟨(Nat.le_of_ble_eq_true rfl), (Nat.le_of_ble_eq_true rfl)⟩ ⟨(Nat.le_of_ble_eq_true rfl), (Nat.le_of_ble_eq_true rfl)⟩ dX11_feed_48 rfl (fun w30 h28 => ?_)
  obtain ⟨g31, g32, ⟨fx35, g33⟩⟩ := h28
  have k36 : w30[0]? = some (ob x 10 [.ref xt, .ref xk, .ref xn, .ref xp, .ref xtr, .int 0, .ref xr, .ref xs, .ref xl, .ref xpl, .ref xse, .ref ah, .ref ald, .ref arm, .ref ahr, .ref ash, .ref arw, .ref abr, .ref aw]) := keeps_at g31 k27 (by first | decide | omega | (dsimp only; omega))
  refine x_aload_n C dX11_feed_51 rfl 0 rfl rfl ?_
  refine x_get C (ci := 10) (k := 0) 0 k36 rfl in_X11 (by decide) w_385 rfl dX11_feed_52 rfl ?_
  refine x_iload C dX11_feed_55 5 rfl rfl ?_
  refine x_vv C (As := [.int e0]) (rest := []) (t_addWord_16 E l w30 1 g32 2 g33 e0) mf_X8_addWord w_499 1 g32 rfl rfl rfl (Nat.le_of_ble_eq_true rfl) ⟨(Nat.le_of_ble_eq_true rfl), (Nat.le_of_ble_eq_true rfl)⟩ ⟨(Nat.le_of_ble_eq_true rfl), (Nat.le_of_ble_eq_true rfl)⟩ dX11_feed_57 rfl (fun w39 h37 => ?_)
  obtain ⟨g40, g41, ⟨fx44, g42⟩⟩ := h37
  have k45 : w39[0]? = some (ob x 10 [.ref xt, .ref xk, .ref xn, .ref xp, .ref xtr, .int 0, .ref xr, .ref xs, .ref xl, .ref xpl, .ref xse, .ref ah, .ref ald, .ref arm, .ref ahr, .ref ash, .ref arw, .ref abr, .ref aw]) := keeps_at g40 k36 (by first | decide | omega | (dsimp only; omega))
  refine x_aload_n C dX11_feed_60 rfl 0 rfl rfl ?_
  refine x_get C (ci := 10) (k := 0) 0 k45 rfl in_X11 (by decide) w_385 rfl dX11_feed_61 rfl ?_
  refine x_get C (ci := 7) (k := 1) 1 g41 rfl in_X8 (by decide) w_38 rfl dX11_feed_64 rfl ?_
  exact x_zret C hr hlk rfl dX11_feed_67 (by first | rfl | trivial | (simp [bI]; done) | (simp_all [bI]; done))
theorem dX2_copyFrom_0 : decode cX2_copyFrom 0 = .ok (.aload_n 0, 1) := by decide +kernel
theorem dX2_copyFrom_1 : decode cX2_copyFrom 1 = .ok (.aload_n 1, 1) := by decide +kernel
theorem dX2_copyFrom_2 : decode cX2_copyFrom 2 = .ok (.getfield 9, 3) := by decide +kernel
theorem dX2_copyFrom_5 : decode cX2_copyFrom 5 = .ok (.putfield 9, 3) := by decide +kernel
theorem dX2_copyFrom_8 : decode cX2_copyFrom 8 = .ok (.aload_n 1, 1) := by decide +kernel
theorem dX2_copyFrom_9 : decode cX2_copyFrom 9 = .ok (.getfield 15, 3) := by decide +kernel
theorem dX2_copyFrom_12 : decode cX2_copyFrom 12 = .ok (.iconst 0, 1) := by decide +kernel
theorem dX2_copyFrom_13 : decode cX2_copyFrom 13 = .ok (.aload_n 0, 1) := by decide +kernel
theorem dX2_copyFrom_14 : decode cX2_copyFrom 14 = .ok (.getfield 15, 3) := by decide +kernel
theorem dX2_copyFrom_17 : decode cX2_copyFrom 17 = .ok (.iconst 0, 1) := by decide +kernel
theorem dX2_copyFrom_18 : decode cX2_copyFrom 18 = .ok (.bipush 8, 2) := by decide +kernel
theorem dX2_copyFrom_20 : decode cX2_copyFrom 20 = .ok (.invokestatic 30, 3) := by decide +kernel
theorem dX2_copyFrom_23 : decode cX2_copyFrom 23 = .ok (.aload_n 1, 1) := by decide +kernel
theorem dX2_copyFrom_24 : decode cX2_copyFrom 24 = .ok (.getfield 19, 3) := by decide +kernel
theorem dX2_copyFrom_27 : decode cX2_copyFrom 27 = .ok (.iconst 0, 1) := by decide +kernel
theorem dX2_copyFrom_28 : decode cX2_copyFrom 28 = .ok (.aload_n 0, 1) := by decide +kernel
theorem dX2_copyFrom_29 : decode cX2_copyFrom 29 = .ok (.getfield 19, 3) := by decide +kernel
theorem dX2_copyFrom_32 : decode cX2_copyFrom 32 = .ok (.iconst 0, 1) := by decide +kernel
theorem dX2_copyFrom_33 : decode cX2_copyFrom 33 = .ok (.bipush 8, 2) := by decide +kernel
theorem dX2_copyFrom_35 : decode cX2_copyFrom 35 = .ok (.invokestatic 30, 3) := by decide +kernel
theorem dX2_copyFrom_38 : decode cX2_copyFrom 38 = .ok (.return_, 1) := by decide +kernel
set_option maxRecDepth 20000 in
set_option maxHeartbeats 4000000 in
theorem t_Hens_copy (E : xE) (l : Launch) (ws : va_W) {h h1 h2 o o1 o2 : Nat} {i1 i2 : Int32} {f1 f2 g1 g2 : Nat → Int32} (a : Nat) (k_0 : ws[a]? = some (ob h 2 [.int i1, .ref h1, .ref h2])) (p_1 : Nat) (k_1 : ws[a + 1]? = some (iA E h1 8 f1)) (p_2 : Nat) (k_2 : ws[a + 2]? = some (iA E h2 8 f2)) (b : Nat) (k_3 : ws[b]? = some (ob o 2 [.int i2, .ref o1, .ref o2])) (p_4 : Nat) (k_4 : ws[b + 1]? = some (iA E o1 8 g1)) (p_5 : Nat) (k_5 : ws[b + 2]? = some (iA E o2 8 g2)) (hab : b + 3 ≤ a) : xV E l yX2_copyFrom cX2_copyFrom 2 1 0 0 [.ref h, .ref o] ws (fun w => keeps ws w (fun q => a ≤ q ∧ q < a + 3) ∧ w[a]? = some (ob h 2 [.int i2, .ref h1, .ref h2])) := by
  refine xV_start (lv := [(0, .ref h), (1, .ref o)]) RX2 (by decide) rfl (Nat.le_of_ble_eq_true rfl) rfl (fun p e s m below meth c A C hr hlk hin => ?_)
  have kp0 : keeps ws ws (fun q => a ≤ q ∧ q < a + 3) := keeps_rf
  refine x_aload_n C dX2_copyFrom_0 rfl 0 rfl rfl ?_
  refine x_aload_n C dX2_copyFrom_1 rfl 1 rfl rfl ?_
  refine x_get C (ci := 2) (k := 0) b k_3 rfl in_X2 (by decide) w_68 rfl dX2_copyFrom_2 rfl ?_
  obtain ⟨w1, hw2⟩ : ∃ w : va_W, w = List.set ws a (ob h 2 [.int i2, .ref h1, .ref h2]) := ⟨_, rfl⟩
  refine x_put C (ci := 2) (k := 0) (ty := .int) a k_0 rfl in_X2 tyX2 tyX2_ok nmX2 (by decide) w_68 rfl rfl rfl rfl (Nat.le_of_ble_eq_true rfl) hw2.symm dX2_copyFrom_5 rfl ?_
  have k3 : w1[a]? = some (ob h 2 [.int i2, .ref h1, .ref h2]) := by rw [hw2]; exact set_eq k_0
  have k4 : w1[a + 1]? = some (iA E h1 8 f1) := by rw [hw2]; exact set_ne k_1 (by omega)
  have k5 : w1[a + 2]? = some (iA E h2 8 f2) := by rw [hw2]; exact set_ne k_2 (by omega)
  have k6 : w1[b]? = some (ob o 2 [.int i2, .ref o1, .ref o2]) := by rw [hw2]; exact set_ne k_3 (by omega)
  have k7 : w1[b + 1]? = some (iA E o1 8 g1) := by rw [hw2]; exact set_ne k_4 (by omega)
  have k8 : w1[b + 2]? = some (iA E o2 8 g2) := by rw [hw2]; exact set_ne k_5 (by omega)
  have kp9 := keeps_set kp0 hw2 (by first | exact rfl | decide | omega | (dsimp only; omega))
  refine x_aload_n C dX2_copyFrom_8 rfl 1 rfl rfl ?_
  refine x_get C (ci := 2) (k := 1) b k6 rfl in_X2 (by decide) w_70 rfl dX2_copyFrom_9 rfl ?_
  refine x_iconst C (v := 0) dX2_copyFrom_12 (by decide) rfl ?_
  refine x_aload_n C dX2_copyFrom_13 rfl 0 rfl rfl ?_
  refine x_get C (ci := 2) (k := 1) a k3 rfl in_X2 (by decide) w_70 rfl dX2_copyFrom_14 rfl ?_
  refine x_iconst C (v := 0) dX2_copyFrom_17 (by decide) rfl ?_
  refine x_bipush C (v := 8) dX2_copyFrom_18 (by decide) rfl ?_
  obtain ⟨w10, hw11⟩ : ∃ w : va_W, w = List.set w1 (a + 1) (iA E h1 8 (va_cpy g1 f1 0 0 8)) := ⟨_, rfl⟩
  refine x_copy C (b + 1) (a + 1) k7 k4 w_796 w_798 w_797 w_20 (by decide) (by decide) (by decide) (by decide) (by decide) (Nat.le_of_ble_eq_true rfl) (Nat.le_of_ble_eq_true rfl) hw11.symm dX2_copyFrom_20 rfl ?_
  have k12 : w10[a]? = some (ob h 2 [.int i2, .ref h1, .ref h2]) := by rw [hw11]; exact set_ne k3 (by omega)
  have k13 : w10[a + 1]? = some (iA E h1 8 (va_cpy g1 f1 0 0 8)) := by rw [hw11]; exact set_eq k4
  have k14 : w10[a + 2]? = some (iA E h2 8 f2) := by rw [hw11]; exact set_ne k5 (by omega)
  have k15 : w10[b]? = some (ob o 2 [.int i2, .ref o1, .ref o2]) := by rw [hw11]; exact set_ne k6 (by omega)
  have k16 : w10[b + 1]? = some (iA E o1 8 g1) := by rw [hw11]; exact set_ne k7 (by omega)
  have k17 : w10[b + 2]? = some (iA E o2 8 g2) := by rw [hw11]; exact set_ne k8 (by omega)
  have kp18 := keeps_set kp9 hw11 (by first | exact rfl | decide | omega | (dsimp only; omega))
  refine x_aload_n C dX2_copyFrom_23 rfl 1 rfl rfl ?_
  refine x_get C (ci := 2) (k := 2) b k15 rfl in_X2 (by decide) w_73 rfl dX2_copyFrom_24 rfl ?_
  refine x_iconst C (v := 0) dX2_copyFrom_27 (by decide) rfl ?_
  refine x_aload_n C dX2_copyFrom_28 rfl 0 rfl rfl ?_
  refine x_get C (ci := 2) (k := 2) a k12 rfl in_X2 (by decide) w_73 rfl dX2_copyFrom_29 rfl ?_
  refine x_iconst C (v := 0) dX2_copyFrom_32 (by decide) rfl ?_
  refine x_bipush C (v := 8) dX2_copyFrom_33 (by decide) rfl ?_
  obtain ⟨w19, hw20⟩ : ∃ w : va_W, w = List.set w10 (a + 2) (iA E h2 8 (va_cpy g2 f2 0 0 8)) := ⟨_, rfl⟩
  refine x_copy C (b + 2) (a + 2) k17 k14 w_796 w_798 w_797 w_20 (by decide) (by decide) (by decide) (by decide) (by decide) (Nat.le_of_ble_eq_true rfl) (Nat.le_of_ble_eq_true rfl) hw20.symm dX2_copyFrom_35 rfl ?_
  have k21 : w19[a]? = some (ob h 2 [.int i2, .ref h1, .ref h2]) := by rw [hw20]; exact set_ne k12 (by omega)
  have k22 : w19[a + 1]? = some (iA E h1 8 (va_cpy g1 f1 0 0 8)) := by rw [hw20]; exact set_ne k13 (by omega)
  have k23 : w19[a + 2]? = some (iA E h2 8 (va_cpy g2 f2 0 0 8)) := by rw [hw20]; exact set_eq k14
  have k24 : w19[b]? = some (ob o 2 [.int i2, .ref o1, .ref o2]) := by rw [hw20]; exact set_ne k15 (by omega)
  have k25 : w19[b + 1]? = some (iA E o1 8 g1) := by rw [hw20]; exact set_ne k16 (by omega)
  have k26 : w19[b + 2]? = some (iA E o2 8 g2) := by rw [hw20]; exact set_ne k17 (by omega)
  have kp27 := keeps_set kp18 hw20 (by first | exact rfl | decide | omega | (dsimp only; omega))
  exact x_vret C hr hlk dX2_copyFrom_38 ⟨kp27, k21⟩
theorem dX5_copyFrom_0 : decode cX5_copyFrom 0 = .ok (.aload_n 0, 1) := by decide +kernel
theorem dX5_copyFrom_1 : decode cX5_copyFrom 1 = .ok (.aload_n 1, 1) := by decide +kernel
theorem dX5_copyFrom_2 : decode cX5_copyFrom 2 = .ok (.getfield 9, 3) := by decide +kernel
theorem dX5_copyFrom_5 : decode cX5_copyFrom 5 = .ok (.putfield 9, 3) := by decide +kernel
theorem dX5_copyFrom_8 : decode cX5_copyFrom 8 = .ok (.aload_n 1, 1) := by decide +kernel
theorem dX5_copyFrom_9 : decode cX5_copyFrom 9 = .ok (.getfield 15, 3) := by decide +kernel
theorem dX5_copyFrom_12 : decode cX5_copyFrom 12 = .ok (.iconst 0, 1) := by decide +kernel
theorem dX5_copyFrom_13 : decode cX5_copyFrom 13 = .ok (.aload_n 0, 1) := by decide +kernel
theorem dX5_copyFrom_14 : decode cX5_copyFrom 14 = .ok (.getfield 15, 3) := by decide +kernel
theorem dX5_copyFrom_17 : decode cX5_copyFrom 17 = .ok (.iconst 0, 1) := by decide +kernel
theorem dX5_copyFrom_18 : decode cX5_copyFrom 18 = .ok (.bipush 8, 2) := by decide +kernel
theorem dX5_copyFrom_20 : decode cX5_copyFrom 20 = .ok (.invokestatic 43, 3) := by decide +kernel
theorem dX5_copyFrom_23 : decode cX5_copyFrom 23 = .ok (.aload_n 1, 1) := by decide +kernel
theorem dX5_copyFrom_24 : decode cX5_copyFrom 24 = .ok (.getfield 19, 3) := by decide +kernel
theorem dX5_copyFrom_27 : decode cX5_copyFrom 27 = .ok (.iconst 0, 1) := by decide +kernel
theorem dX5_copyFrom_28 : decode cX5_copyFrom 28 = .ok (.aload_n 0, 1) := by decide +kernel
theorem dX5_copyFrom_29 : decode cX5_copyFrom 29 = .ok (.getfield 19, 3) := by decide +kernel
theorem dX5_copyFrom_32 : decode cX5_copyFrom 32 = .ok (.iconst 0, 1) := by decide +kernel
theorem dX5_copyFrom_33 : decode cX5_copyFrom 33 = .ok (.bipush 8, 2) := by decide +kernel
theorem dX5_copyFrom_35 : decode cX5_copyFrom 35 = .ok (.invokestatic 43, 3) := by decide +kernel
theorem dX5_copyFrom_38 : decode cX5_copyFrom 38 = .ok (.aload_n 1, 1) := by decide +kernel
theorem dX5_copyFrom_39 : decode cX5_copyFrom 39 = .ok (.getfield 22, 3) := by decide +kernel
theorem dX5_copyFrom_42 : decode cX5_copyFrom 42 = .ok (.iconst 0, 1) := by decide +kernel
theorem dX5_copyFrom_43 : decode cX5_copyFrom 43 = .ok (.aload_n 0, 1) := by decide +kernel
theorem dX5_copyFrom_44 : decode cX5_copyFrom 44 = .ok (.getfield 22, 3) := by decide +kernel
theorem dX5_copyFrom_47 : decode cX5_copyFrom 47 = .ok (.iconst 0, 1) := by decide +kernel
theorem dX5_copyFrom_48 : decode cX5_copyFrom 48 = .ok (.bipush 8, 2) := by decide +kernel
theorem dX5_copyFrom_50 : decode cX5_copyFrom 50 = .ok (.invokestatic 43, 3) := by decide +kernel
theorem dX5_copyFrom_53 : decode cX5_copyFrom 53 = .ok (.aload_n 1, 1) := by decide +kernel
theorem dX5_copyFrom_54 : decode cX5_copyFrom 54 = .ok (.getfield 25, 3) := by decide +kernel
theorem dX5_copyFrom_57 : decode cX5_copyFrom 57 = .ok (.iconst 0, 1) := by decide +kernel
theorem dX5_copyFrom_58 : decode cX5_copyFrom 58 = .ok (.aload_n 0, 1) := by decide +kernel
theorem dX5_copyFrom_59 : decode cX5_copyFrom 59 = .ok (.getfield 25, 3) := by decide +kernel
theorem dX5_copyFrom_62 : decode cX5_copyFrom 62 = .ok (.iconst 0, 1) := by decide +kernel
theorem dX5_copyFrom_63 : decode cX5_copyFrom 63 = .ok (.bipush 8, 2) := by decide +kernel
theorem dX5_copyFrom_65 : decode cX5_copyFrom 65 = .ok (.invokestatic 43, 3) := by decide +kernel
theorem dX5_copyFrom_68 : decode cX5_copyFrom 68 = .ok (.return_, 1) := by decide +kernel
set_option maxRecDepth 20000 in
set_option maxHeartbeats 4000000 in
theorem t_People_copy (E : xE) (l : Launch) (ws : va_W) {h h1 h2 h3 h4 o o1 o2 o3 o4 : Nat} {i1 i2 : Int32} {f1 f2 f3 f4 g1 g2 g3 g4 : Nat → Int32} (a : Nat) (k_0 : ws[a]? = some (ob h 4 [.int i1, .ref h1, .ref h2, .ref h3, .ref h4])) (p_1 : Nat) (k_1 : ws[a + 1]? = some (iA E h1 8 f1)) (p_2 : Nat) (k_2 : ws[a + 2]? = some (iA E h2 8 f2)) (p_3 : Nat) (k_3 : ws[a + 3]? = some (iA E h3 8 f3)) (p_4 : Nat) (k_4 : ws[a + 4]? = some (iA E h4 8 f4)) (b : Nat) (k_5 : ws[b]? = some (ob o 4 [.int i2, .ref o1, .ref o2, .ref o3, .ref o4])) (p_6 : Nat) (k_6 : ws[b + 1]? = some (iA E o1 8 g1)) (p_7 : Nat) (k_7 : ws[b + 2]? = some (iA E o2 8 g2)) (p_8 : Nat) (k_8 : ws[b + 3]? = some (iA E o3 8 g3)) (p_9 : Nat) (k_9 : ws[b + 4]? = some (iA E o4 8 g4)) (hab : b + 5 ≤ a) : xV E l yX5_copyFrom cX5_copyFrom 2 1 0 0 [.ref h, .ref o] ws (fun w => keeps ws w (fun q => a ≤ q ∧ q < a + 5) ∧ w[a]? = some (ob h 4 [.int i2, .ref h1, .ref h2, .ref h3, .ref h4])) := by
  refine xV_start (lv := [(0, .ref h), (1, .ref o)]) RX5 (by decide) rfl (Nat.le_of_ble_eq_true rfl) rfl (fun p e s m below meth c A C hr hlk hin => ?_)
  have kp0 : keeps ws ws (fun q => a ≤ q ∧ q < a + 5) := keeps_rf
  refine x_aload_n C dX5_copyFrom_0 rfl 0 rfl rfl ?_
  refine x_aload_n C dX5_copyFrom_1 rfl 1 rfl rfl ?_
  refine x_get C (ci := 4) (k := 0) b k_5 rfl in_X5 (by decide) w_90 rfl dX5_copyFrom_2 rfl ?_
  obtain ⟨w1, hw2⟩ : ∃ w : va_W, w = List.set ws a (ob h 4 [.int i2, .ref h1, .ref h2, .ref h3, .ref h4]) := ⟨_, rfl⟩
  refine x_put C (ci := 4) (k := 0) (ty := .int) a k_0 rfl in_X5 tyX5 tyX5_ok nmX5 (by decide) w_90 rfl rfl rfl rfl (Nat.le_of_ble_eq_true rfl) hw2.symm dX5_copyFrom_5 rfl ?_
  have k3 : w1[a]? = some (ob h 4 [.int i2, .ref h1, .ref h2, .ref h3, .ref h4]) := by rw [hw2]; exact set_eq k_0
  have k4 : w1[a + 1]? = some (iA E h1 8 f1) := by rw [hw2]; exact set_ne k_1 (by omega)
  have k5 : w1[a + 2]? = some (iA E h2 8 f2) := by rw [hw2]; exact set_ne k_2 (by omega)
  have k6 : w1[a + 3]? = some (iA E h3 8 f3) := by rw [hw2]; exact set_ne k_3 (by omega)
  have k7 : w1[a + 4]? = some (iA E h4 8 f4) := by rw [hw2]; exact set_ne k_4 (by omega)
  have k8 : w1[b]? = some (ob o 4 [.int i2, .ref o1, .ref o2, .ref o3, .ref o4]) := by rw [hw2]; exact set_ne k_5 (by omega)
  have k9 : w1[b + 1]? = some (iA E o1 8 g1) := by rw [hw2]; exact set_ne k_6 (by omega)
  have k10 : w1[b + 2]? = some (iA E o2 8 g2) := by rw [hw2]; exact set_ne k_7 (by omega)
  have k11 : w1[b + 3]? = some (iA E o3 8 g3) := by rw [hw2]; exact set_ne k_8 (by omega)
  have k12 : w1[b + 4]? = some (iA E o4 8 g4) := by rw [hw2]; exact set_ne k_9 (by omega)
  have kp13 := keeps_set kp0 hw2 (by first | exact rfl | decide | omega | (dsimp only; omega))
  refine x_aload_n C dX5_copyFrom_8 rfl 1 rfl rfl ?_
  refine x_get C (ci := 4) (k := 1) b k8 rfl in_X5 (by decide) w_92 rfl dX5_copyFrom_9 rfl ?_
  refine x_iconst C (v := 0) dX5_copyFrom_12 (by decide) rfl ?_
  refine x_aload_n C dX5_copyFrom_13 rfl 0 rfl rfl ?_
  refine x_get C (ci := 4) (k := 1) a k3 rfl in_X5 (by decide) w_92 rfl dX5_copyFrom_14 rfl ?_
  refine x_iconst C (v := 0) dX5_copyFrom_17 (by decide) rfl ?_
  refine x_bipush C (v := 8) dX5_copyFrom_18 (by decide) rfl ?_
  obtain ⟨w14, hw15⟩ : ∃ w : va_W, w = List.set w1 (a + 1) (iA E h1 8 (va_cpy g1 f1 0 0 8)) := ⟨_, rfl⟩
  refine x_copy C (b + 1) (a + 1) k9 k4 w_803 w_798 w_797 w_20 (by decide) (by decide) (by decide) (by decide) (by decide) (Nat.le_of_ble_eq_true rfl) (Nat.le_of_ble_eq_true rfl) hw15.symm dX5_copyFrom_20 rfl ?_
  have k16 : w14[a]? = some (ob h 4 [.int i2, .ref h1, .ref h2, .ref h3, .ref h4]) := by rw [hw15]; exact set_ne k3 (by omega)
  have k17 : w14[a + 1]? = some (iA E h1 8 (va_cpy g1 f1 0 0 8)) := by rw [hw15]; exact set_eq k4
  have k18 : w14[a + 2]? = some (iA E h2 8 f2) := by rw [hw15]; exact set_ne k5 (by omega)
  have k19 : w14[a + 3]? = some (iA E h3 8 f3) := by rw [hw15]; exact set_ne k6 (by omega)
  have k20 : w14[a + 4]? = some (iA E h4 8 f4) := by rw [hw15]; exact set_ne k7 (by omega)
  have k21 : w14[b]? = some (ob o 4 [.int i2, .ref o1, .ref o2, .ref o3, .ref o4]) := by rw [hw15]; exact set_ne k8 (by omega)
  have k22 : w14[b + 1]? = some (iA E o1 8 g1) := by rw [hw15]; exact set_ne k9 (by omega)
  have k23 : w14[b + 2]? = some (iA E o2 8 g2) := by rw [hw15]; exact set_ne k10 (by omega)
  have k24 : w14[b + 3]? = some (iA E o3 8 g3) := by rw [hw15]; exact set_ne k11 (by omega)
  have k25 : w14[b + 4]? = some (iA E o4 8 g4) := by rw [hw15]; exact set_ne k12 (by omega)
  have kp26 := keeps_set kp13 hw15 (by first | exact rfl | decide | omega | (dsimp only; omega))
  refine x_aload_n C dX5_copyFrom_23 rfl 1 rfl rfl ?_
  refine x_get C (ci := 4) (k := 2) b k21 rfl in_X5 (by decide) w_94 rfl dX5_copyFrom_24 rfl ?_
  refine x_iconst C (v := 0) dX5_copyFrom_27 (by decide) rfl ?_
  refine x_aload_n C dX5_copyFrom_28 rfl 0 rfl rfl ?_
  refine x_get C (ci := 4) (k := 2) a k16 rfl in_X5 (by decide) w_94 rfl dX5_copyFrom_29 rfl ?_
  refine x_iconst C (v := 0) dX5_copyFrom_32 (by decide) rfl ?_
  refine x_bipush C (v := 8) dX5_copyFrom_33 (by decide) rfl ?_
  obtain ⟨w27, hw28⟩ : ∃ w : va_W, w = List.set w14 (a + 2) (iA E h2 8 (va_cpy g2 f2 0 0 8)) := ⟨_, rfl⟩
  refine x_copy C (b + 2) (a + 2) k23 k18 w_803 w_798 w_797 w_20 (by decide) (by decide) (by decide) (by decide) (by decide) (Nat.le_of_ble_eq_true rfl) (Nat.le_of_ble_eq_true rfl) hw28.symm dX5_copyFrom_35 rfl ?_
  have k29 : w27[a]? = some (ob h 4 [.int i2, .ref h1, .ref h2, .ref h3, .ref h4]) := by rw [hw28]; exact set_ne k16 (by omega)
  have k30 : w27[a + 1]? = some (iA E h1 8 (va_cpy g1 f1 0 0 8)) := by rw [hw28]; exact set_ne k17 (by omega)
  have k31 : w27[a + 2]? = some (iA E h2 8 (va_cpy g2 f2 0 0 8)) := by rw [hw28]; exact set_eq k18
  have k32 : w27[a + 3]? = some (iA E h3 8 f3) := by rw [hw28]; exact set_ne k19 (by omega)
  have k33 : w27[a + 4]? = some (iA E h4 8 f4) := by rw [hw28]; exact set_ne k20 (by omega)
  have k34 : w27[b]? = some (ob o 4 [.int i2, .ref o1, .ref o2, .ref o3, .ref o4]) := by rw [hw28]; exact set_ne k21 (by omega)
  have k35 : w27[b + 1]? = some (iA E o1 8 g1) := by rw [hw28]; exact set_ne k22 (by omega)
  have k36 : w27[b + 2]? = some (iA E o2 8 g2) := by rw [hw28]; exact set_ne k23 (by omega)
  have k37 : w27[b + 3]? = some (iA E o3 8 g3) := by rw [hw28]; exact set_ne k24 (by omega)
  have k38 : w27[b + 4]? = some (iA E o4 8 g4) := by rw [hw28]; exact set_ne k25 (by omega)
  have kp39 := keeps_set kp26 hw28 (by first | exact rfl | decide | omega | (dsimp only; omega))
  refine x_aload_n C dX5_copyFrom_38 rfl 1 rfl rfl ?_
  refine x_get C (ci := 4) (k := 3) b k34 rfl in_X5 (by decide) w_97 rfl dX5_copyFrom_39 rfl ?_
  refine x_iconst C (v := 0) dX5_copyFrom_42 (by decide) rfl ?_
  refine x_aload_n C dX5_copyFrom_43 rfl 0 rfl rfl ?_
  refine x_get C (ci := 4) (k := 3) a k29 rfl in_X5 (by decide) w_97 rfl dX5_copyFrom_44 rfl ?_
  refine x_iconst C (v := 0) dX5_copyFrom_47 (by decide) rfl ?_
  refine x_bipush C (v := 8) dX5_copyFrom_48 (by decide) rfl ?_
  obtain ⟨w40, hw41⟩ : ∃ w : va_W, w = List.set w27 (a + 3) (iA E h3 8 (va_cpy g3 f3 0 0 8)) := ⟨_, rfl⟩
  refine x_copy C (b + 3) (a + 3) k37 k32 w_803 w_798 w_797 w_20 (by decide) (by decide) (by decide) (by decide) (by decide) (Nat.le_of_ble_eq_true rfl) (Nat.le_of_ble_eq_true rfl) hw41.symm dX5_copyFrom_50 rfl ?_
  have k42 : w40[a]? = some (ob h 4 [.int i2, .ref h1, .ref h2, .ref h3, .ref h4]) := by rw [hw41]; exact set_ne k29 (by omega)
  have k43 : w40[a + 1]? = some (iA E h1 8 (va_cpy g1 f1 0 0 8)) := by rw [hw41]; exact set_ne k30 (by omega)
  have k44 : w40[a + 2]? = some (iA E h2 8 (va_cpy g2 f2 0 0 8)) := by rw [hw41]; exact set_ne k31 (by omega)
  have k45 : w40[a + 3]? = some (iA E h3 8 (va_cpy g3 f3 0 0 8)) := by rw [hw41]; exact set_eq k32
  have k46 : w40[a + 4]? = some (iA E h4 8 f4) := by rw [hw41]; exact set_ne k33 (by omega)
  have k47 : w40[b]? = some (ob o 4 [.int i2, .ref o1, .ref o2, .ref o3, .ref o4]) := by rw [hw41]; exact set_ne k34 (by omega)
  have k48 : w40[b + 1]? = some (iA E o1 8 g1) := by rw [hw41]; exact set_ne k35 (by omega)
  have k49 : w40[b + 2]? = some (iA E o2 8 g2) := by rw [hw41]; exact set_ne k36 (by omega)
  have k50 : w40[b + 3]? = some (iA E o3 8 g3) := by rw [hw41]; exact set_ne k37 (by omega)
  have k51 : w40[b + 4]? = some (iA E o4 8 g4) := by rw [hw41]; exact set_ne k38 (by omega)
  have kp52 := keeps_set kp39 hw41 (by first | exact rfl | decide | omega | (dsimp only; omega))
  refine x_aload_n C dX5_copyFrom_53 rfl 1 rfl rfl ?_
  refine x_get C (ci := 4) (k := 4) b k47 rfl in_X5 (by decide) w_100 rfl dX5_copyFrom_54 rfl ?_
  refine x_iconst C (v := 0) dX5_copyFrom_57 (by decide) rfl ?_
  refine x_aload_n C dX5_copyFrom_58 rfl 0 rfl rfl ?_
  refine x_get C (ci := 4) (k := 4) a k42 rfl in_X5 (by decide) w_100 rfl dX5_copyFrom_59 rfl ?_
  refine x_iconst C (v := 0) dX5_copyFrom_62 (by decide) rfl ?_
  refine x_bipush C (v := 8) dX5_copyFrom_63 (by decide) rfl ?_
  obtain ⟨w53, hw54⟩ : ∃ w : va_W, w = List.set w40 (a + 4) (iA E h4 8 (va_cpy g4 f4 0 0 8)) := ⟨_, rfl⟩
  refine x_copy C (b + 4) (a + 4) k51 k46 w_803 w_798 w_797 w_20 (by decide) (by decide) (by decide) (by decide) (by decide) (Nat.le_of_ble_eq_true rfl) (Nat.le_of_ble_eq_true rfl) hw54.symm dX5_copyFrom_65 rfl ?_
  have k55 : w53[a]? = some (ob h 4 [.int i2, .ref h1, .ref h2, .ref h3, .ref h4]) := by rw [hw54]; exact set_ne k42 (by omega)
  have k56 : w53[a + 1]? = some (iA E h1 8 (va_cpy g1 f1 0 0 8)) := by rw [hw54]; exact set_ne k43 (by omega)
  have k57 : w53[a + 2]? = some (iA E h2 8 (va_cpy g2 f2 0 0 8)) := by rw [hw54]; exact set_ne k44 (by omega)
  have k58 : w53[a + 3]? = some (iA E h3 8 (va_cpy g3 f3 0 0 8)) := by rw [hw54]; exact set_ne k45 (by omega)
  have k59 : w53[a + 4]? = some (iA E h4 8 (va_cpy g4 f4 0 0 8)) := by rw [hw54]; exact set_eq k46
  have k60 : w53[b]? = some (ob o 4 [.int i2, .ref o1, .ref o2, .ref o3, .ref o4]) := by rw [hw54]; exact set_ne k47 (by omega)
  have k61 : w53[b + 1]? = some (iA E o1 8 g1) := by rw [hw54]; exact set_ne k48 (by omega)
  have k62 : w53[b + 2]? = some (iA E o2 8 g2) := by rw [hw54]; exact set_ne k49 (by omega)
  have k63 : w53[b + 3]? = some (iA E o3 8 g3) := by rw [hw54]; exact set_ne k50 (by omega)
  have k64 : w53[b + 4]? = some (iA E o4 8 g4) := by rw [hw54]; exact set_ne k51 (by omega)
  have kp65 := keeps_set kp52 hw54 (by first | exact rfl | decide | omega | (dsimp only; omega))
  exact x_vret C hr hlk dX5_copyFrom_68 ⟨kp65, k55⟩
theorem dX1_copyFrom_0 : decode cX1_copyFrom 0 = .ok (.aload_n 0, 1) := by decide +kernel
theorem dX1_copyFrom_1 : decode cX1_copyFrom 1 = .ok (.aload_n 1, 1) := by decide +kernel
theorem dX1_copyFrom_2 : decode cX1_copyFrom 2 = .ok (.getfield 9, 3) := by decide +kernel
theorem dX1_copyFrom_5 : decode cX1_copyFrom 5 = .ok (.putfield 9, 3) := by decide +kernel
theorem dX1_copyFrom_8 : decode cX1_copyFrom 8 = .ok (.aload_n 1, 1) := by decide +kernel
theorem dX1_copyFrom_9 : decode cX1_copyFrom 9 = .ok (.getfield 15, 3) := by decide +kernel
theorem dX1_copyFrom_12 : decode cX1_copyFrom 12 = .ok (.iconst 0, 1) := by decide +kernel
theorem dX1_copyFrom_13 : decode cX1_copyFrom 13 = .ok (.aload_n 0, 1) := by decide +kernel
theorem dX1_copyFrom_14 : decode cX1_copyFrom 14 = .ok (.getfield 15, 3) := by decide +kernel
theorem dX1_copyFrom_17 : decode cX1_copyFrom 17 = .ok (.iconst 0, 1) := by decide +kernel
theorem dX1_copyFrom_18 : decode cX1_copyFrom 18 = .ok (.bipush 48, 2) := by decide +kernel
theorem dX1_copyFrom_20 : decode cX1_copyFrom 20 = .ok (.invokestatic 45, 3) := by decide +kernel
theorem dX1_copyFrom_23 : decode cX1_copyFrom 23 = .ok (.aload_n 1, 1) := by decide +kernel
theorem dX1_copyFrom_24 : decode cX1_copyFrom 24 = .ok (.getfield 19, 3) := by decide +kernel
theorem dX1_copyFrom_27 : decode cX1_copyFrom 27 = .ok (.iconst 0, 1) := by decide +kernel
theorem dX1_copyFrom_28 : decode cX1_copyFrom 28 = .ok (.aload_n 0, 1) := by decide +kernel
theorem dX1_copyFrom_29 : decode cX1_copyFrom 29 = .ok (.getfield 19, 3) := by decide +kernel
theorem dX1_copyFrom_32 : decode cX1_copyFrom 32 = .ok (.iconst 0, 1) := by decide +kernel
theorem dX1_copyFrom_33 : decode cX1_copyFrom 33 = .ok (.bipush 48, 2) := by decide +kernel
theorem dX1_copyFrom_35 : decode cX1_copyFrom 35 = .ok (.invokestatic 45, 3) := by decide +kernel
theorem dX1_copyFrom_38 : decode cX1_copyFrom 38 = .ok (.aload_n 1, 1) := by decide +kernel
theorem dX1_copyFrom_39 : decode cX1_copyFrom 39 = .ok (.getfield 22, 3) := by decide +kernel
theorem dX1_copyFrom_42 : decode cX1_copyFrom 42 = .ok (.iconst 0, 1) := by decide +kernel
theorem dX1_copyFrom_43 : decode cX1_copyFrom 43 = .ok (.aload_n 0, 1) := by decide +kernel
theorem dX1_copyFrom_44 : decode cX1_copyFrom 44 = .ok (.getfield 22, 3) := by decide +kernel
theorem dX1_copyFrom_47 : decode cX1_copyFrom 47 = .ok (.iconst 0, 1) := by decide +kernel
theorem dX1_copyFrom_48 : decode cX1_copyFrom 48 = .ok (.bipush 48, 2) := by decide +kernel
theorem dX1_copyFrom_50 : decode cX1_copyFrom 50 = .ok (.invokestatic 45, 3) := by decide +kernel
theorem dX1_copyFrom_53 : decode cX1_copyFrom 53 = .ok (.aload_n 1, 1) := by decide +kernel
theorem dX1_copyFrom_54 : decode cX1_copyFrom 54 = .ok (.getfield 25, 3) := by decide +kernel
theorem dX1_copyFrom_57 : decode cX1_copyFrom 57 = .ok (.iconst 0, 1) := by decide +kernel
theorem dX1_copyFrom_58 : decode cX1_copyFrom 58 = .ok (.aload_n 0, 1) := by decide +kernel
theorem dX1_copyFrom_59 : decode cX1_copyFrom 59 = .ok (.getfield 25, 3) := by decide +kernel
theorem dX1_copyFrom_62 : decode cX1_copyFrom 62 = .ok (.iconst 0, 1) := by decide +kernel
theorem dX1_copyFrom_63 : decode cX1_copyFrom 63 = .ok (.bipush 48, 2) := by decide +kernel
theorem dX1_copyFrom_65 : decode cX1_copyFrom 65 = .ok (.invokestatic 45, 3) := by decide +kernel
theorem dX1_copyFrom_68 : decode cX1_copyFrom 68 = .ok (.aload_n 1, 1) := by decide +kernel
theorem dX1_copyFrom_69 : decode cX1_copyFrom 69 = .ok (.getfield 28, 3) := by decide +kernel
theorem dX1_copyFrom_72 : decode cX1_copyFrom 72 = .ok (.iconst 0, 1) := by decide +kernel
theorem dX1_copyFrom_73 : decode cX1_copyFrom 73 = .ok (.aload_n 0, 1) := by decide +kernel
theorem dX1_copyFrom_74 : decode cX1_copyFrom 74 = .ok (.getfield 28, 3) := by decide +kernel
theorem dX1_copyFrom_77 : decode cX1_copyFrom 77 = .ok (.iconst 0, 1) := by decide +kernel
theorem dX1_copyFrom_78 : decode cX1_copyFrom 78 = .ok (.bipush 48, 2) := by decide +kernel
theorem dX1_copyFrom_80 : decode cX1_copyFrom 80 = .ok (.invokestatic 45, 3) := by decide +kernel
theorem dX1_copyFrom_83 : decode cX1_copyFrom 83 = .ok (.aload_n 1, 1) := by decide +kernel
theorem dX1_copyFrom_84 : decode cX1_copyFrom 84 = .ok (.getfield 31, 3) := by decide +kernel
theorem dX1_copyFrom_87 : decode cX1_copyFrom 87 = .ok (.iconst 0, 1) := by decide +kernel
theorem dX1_copyFrom_88 : decode cX1_copyFrom 88 = .ok (.aload_n 0, 1) := by decide +kernel
theorem dX1_copyFrom_89 : decode cX1_copyFrom 89 = .ok (.getfield 31, 3) := by decide +kernel
theorem dX1_copyFrom_92 : decode cX1_copyFrom 92 = .ok (.iconst 0, 1) := by decide +kernel
theorem dX1_copyFrom_93 : decode cX1_copyFrom 93 = .ok (.bipush 48, 2) := by decide +kernel
theorem dX1_copyFrom_95 : decode cX1_copyFrom 95 = .ok (.invokestatic 45, 3) := by decide +kernel
theorem dX1_copyFrom_98 : decode cX1_copyFrom 98 = .ok (.return_, 1) := by decide +kernel
set_option maxRecDepth 20000 in
set_option maxHeartbeats 4000000 in
theorem t_Eggs_copy (E : xE) (l : Launch) (ws : va_W) {h h1 h2 h3 h4 h5 h6 o o1 o2 o3 o4 o5 o6 : Nat} {i1 i2 : Int32} {f1 f2 f3 f4 f5 f6 g1 g2 g3 g4 g5 g6 : Nat → Int32} (a : Nat) (k_0 : ws[a]? = some (ob h 1 [.int i1, .ref h1, .ref h2, .ref h3, .ref h4, .ref h5, .ref h6])) (p_1 : Nat) (k_1 : ws[a + 1]? = some (iA E h1 48 f1)) (p_2 : Nat) (k_2 : ws[a + 2]? = some (iA E h2 48 f2)) (p_3 : Nat) (k_3 : ws[a + 3]? = some (iA E h3 48 f3)) (p_4 : Nat) (k_4 : ws[a + 4]? = some (iA E h4 48 f4)) (p_5 : Nat) (k_5 : ws[a + 5]? = some (iA E h5 48 f5)) (p_6 : Nat) (k_6 : ws[a + 6]? = some (iA E h6 48 f6)) (b : Nat) (k_7 : ws[b]? = some (ob o 1 [.int i2, .ref o1, .ref o2, .ref o3, .ref o4, .ref o5, .ref o6])) (p_8 : Nat) (k_8 : ws[b + 1]? = some (iA E o1 48 g1)) (p_9 : Nat) (k_9 : ws[b + 2]? = some (iA E o2 48 g2)) (p_10 : Nat) (k_10 : ws[b + 3]? = some (iA E o3 48 g3)) (p_11 : Nat) (k_11 : ws[b + 4]? = some (iA E o4 48 g4)) (p_12 : Nat) (k_12 : ws[b + 5]? = some (iA E o5 48 g5)) (p_13 : Nat) (k_13 : ws[b + 6]? = some (iA E o6 48 g6)) (hab : b + 7 ≤ a) : xV E l yX1_copyFrom cX1_copyFrom 2 1 0 0 [.ref h, .ref o] ws (fun w => keeps ws w (fun q => a ≤ q ∧ q < a + 7) ∧ w[a]? = some (ob h 1 [.int i2, .ref h1, .ref h2, .ref h3, .ref h4, .ref h5, .ref h6])) := by
  refine xV_start (lv := [(0, .ref h), (1, .ref o)]) RX1 (by decide) rfl (Nat.le_of_ble_eq_true rfl) rfl (fun p e s m below meth c A C hr hlk hin => ?_)
  have kp0 : keeps ws ws (fun q => a ≤ q ∧ q < a + 7) := keeps_rf
  refine x_aload_n C dX1_copyFrom_0 rfl 0 rfl rfl ?_
  refine x_aload_n C dX1_copyFrom_1 rfl 1 rfl rfl ?_
  refine x_get C (ci := 1) (k := 0) b k_7 rfl in_X1 (by decide) w_120 rfl dX1_copyFrom_2 rfl ?_
  obtain ⟨w1, hw2⟩ : ∃ w : va_W, w = List.set ws a (ob h 1 [.int i2, .ref h1, .ref h2, .ref h3, .ref h4, .ref h5, .ref h6]) := ⟨_, rfl⟩
  refine x_put C (ci := 1) (k := 0) (ty := .int) a k_0 rfl in_X1 tyX1 tyX1_ok nmX1 (by decide) w_120 rfl rfl rfl rfl (Nat.le_of_ble_eq_true rfl) hw2.symm dX1_copyFrom_5 rfl ?_
  have k3 : w1[a]? = some (ob h 1 [.int i2, .ref h1, .ref h2, .ref h3, .ref h4, .ref h5, .ref h6]) := by rw [hw2]; exact set_eq k_0
  have k4 : w1[a + 1]? = some (iA E h1 48 f1) := by rw [hw2]; exact set_ne k_1 (by omega)
  have k5 : w1[a + 2]? = some (iA E h2 48 f2) := by rw [hw2]; exact set_ne k_2 (by omega)
  have k6 : w1[a + 3]? = some (iA E h3 48 f3) := by rw [hw2]; exact set_ne k_3 (by omega)
  have k7 : w1[a + 4]? = some (iA E h4 48 f4) := by rw [hw2]; exact set_ne k_4 (by omega)
  have k8 : w1[a + 5]? = some (iA E h5 48 f5) := by rw [hw2]; exact set_ne k_5 (by omega)
  have k9 : w1[a + 6]? = some (iA E h6 48 f6) := by rw [hw2]; exact set_ne k_6 (by omega)
  have k10 : w1[b]? = some (ob o 1 [.int i2, .ref o1, .ref o2, .ref o3, .ref o4, .ref o5, .ref o6]) := by rw [hw2]; exact set_ne k_7 (by omega)
  have k11 : w1[b + 1]? = some (iA E o1 48 g1) := by rw [hw2]; exact set_ne k_8 (by omega)
  have k12 : w1[b + 2]? = some (iA E o2 48 g2) := by rw [hw2]; exact set_ne k_9 (by omega)
  have k13 : w1[b + 3]? = some (iA E o3 48 g3) := by rw [hw2]; exact set_ne k_10 (by omega)
  have k14 : w1[b + 4]? = some (iA E o4 48 g4) := by rw [hw2]; exact set_ne k_11 (by omega)
  have k15 : w1[b + 5]? = some (iA E o5 48 g5) := by rw [hw2]; exact set_ne k_12 (by omega)
  have k16 : w1[b + 6]? = some (iA E o6 48 g6) := by rw [hw2]; exact set_ne k_13 (by omega)
  have kp17 := keeps_set kp0 hw2 (by first | exact rfl | decide | omega | (dsimp only; omega))
  refine x_aload_n C dX1_copyFrom_8 rfl 1 rfl rfl ?_
  refine x_get C (ci := 1) (k := 1) b k10 rfl in_X1 (by decide) w_123 rfl dX1_copyFrom_9 rfl ?_
  refine x_iconst C (v := 0) dX1_copyFrom_12 (by decide) rfl ?_
  refine x_aload_n C dX1_copyFrom_13 rfl 0 rfl rfl ?_
  refine x_get C (ci := 1) (k := 1) a k3 rfl in_X1 (by decide) w_123 rfl dX1_copyFrom_14 rfl ?_
  refine x_iconst C (v := 0) dX1_copyFrom_17 (by decide) rfl ?_
  refine x_bipush C (v := 48) dX1_copyFrom_18 (by decide) rfl ?_
  obtain ⟨w18, hw19⟩ : ∃ w : va_W, w = List.set w1 (a + 1) (iA E h1 48 (va_cpy g1 f1 0 0 48)) := ⟨_, rfl⟩
  refine x_copy C (b + 1) (a + 1) k11 k4 w_808 w_798 w_797 w_20 (by decide) (by decide) (by decide) (by decide) (by decide) (Nat.le_of_ble_eq_true rfl) (Nat.le_of_ble_eq_true rfl) hw19.symm dX1_copyFrom_20 rfl ?_
  have k20 : w18[a]? = some (ob h 1 [.int i2, .ref h1, .ref h2, .ref h3, .ref h4, .ref h5, .ref h6]) := by rw [hw19]; exact set_ne k3 (by omega)
  have k21 : w18[a + 1]? = some (iA E h1 48 (va_cpy g1 f1 0 0 48)) := by rw [hw19]; exact set_eq k4
  have k22 : w18[a + 2]? = some (iA E h2 48 f2) := by rw [hw19]; exact set_ne k5 (by omega)
  have k23 : w18[a + 3]? = some (iA E h3 48 f3) := by rw [hw19]; exact set_ne k6 (by omega)
  have k24 : w18[a + 4]? = some (iA E h4 48 f4) := by rw [hw19]; exact set_ne k7 (by omega)
  have k25 : w18[a + 5]? = some (iA E h5 48 f5) := by rw [hw19]; exact set_ne k8 (by omega)
  have k26 : w18[a + 6]? = some (iA E h6 48 f6) := by rw [hw19]; exact set_ne k9 (by omega)
  have k27 : w18[b]? = some (ob o 1 [.int i2, .ref o1, .ref o2, .ref o3, .ref o4, .ref o5, .ref o6]) := by rw [hw19]; exact set_ne k10 (by omega)
  have k28 : w18[b + 1]? = some (iA E o1 48 g1) := by rw [hw19]; exact set_ne k11 (by omega)
  have k29 : w18[b + 2]? = some (iA E o2 48 g2) := by rw [hw19]; exact set_ne k12 (by omega)
  have k30 : w18[b + 3]? = some (iA E o3 48 g3) := by rw [hw19]; exact set_ne k13 (by omega)
  have k31 : w18[b + 4]? = some (iA E o4 48 g4) := by rw [hw19]; exact set_ne k14 (by omega)
  have k32 : w18[b + 5]? = some (iA E o5 48 g5) := by rw [hw19]; exact set_ne k15 (by omega)
  have k33 : w18[b + 6]? = some (iA E o6 48 g6) := by rw [hw19]; exact set_ne k16 (by omega)
  have kp34 := keeps_set kp17 hw19 (by first | exact rfl | decide | omega | (dsimp only; omega))
  refine x_aload_n C dX1_copyFrom_23 rfl 1 rfl rfl ?_
  refine x_get C (ci := 1) (k := 2) b k27 rfl in_X1 (by decide) w_127 rfl dX1_copyFrom_24 rfl ?_
  refine x_iconst C (v := 0) dX1_copyFrom_27 (by decide) rfl ?_
  refine x_aload_n C dX1_copyFrom_28 rfl 0 rfl rfl ?_
  refine x_get C (ci := 1) (k := 2) a k20 rfl in_X1 (by decide) w_127 rfl dX1_copyFrom_29 rfl ?_
  refine x_iconst C (v := 0) dX1_copyFrom_32 (by decide) rfl ?_
  refine x_bipush C (v := 48) dX1_copyFrom_33 (by decide) rfl ?_
  obtain ⟨w35, hw36⟩ : ∃ w : va_W, w = List.set w18 (a + 2) (iA E h2 48 (va_cpy g2 f2 0 0 48)) := ⟨_, rfl⟩
  refine x_copy C (b + 2) (a + 2) k29 k22 w_808 w_798 w_797 w_20 (by decide) (by decide) (by decide) (by decide) (by decide) (Nat.le_of_ble_eq_true rfl) (Nat.le_of_ble_eq_true rfl) hw36.symm dX1_copyFrom_35 rfl ?_
  have k37 : w35[a]? = some (ob h 1 [.int i2, .ref h1, .ref h2, .ref h3, .ref h4, .ref h5, .ref h6]) := by rw [hw36]; exact set_ne k20 (by omega)
  have k38 : w35[a + 1]? = some (iA E h1 48 (va_cpy g1 f1 0 0 48)) := by rw [hw36]; exact set_ne k21 (by omega)
  have k39 : w35[a + 2]? = some (iA E h2 48 (va_cpy g2 f2 0 0 48)) := by rw [hw36]; exact set_eq k22
  have k40 : w35[a + 3]? = some (iA E h3 48 f3) := by rw [hw36]; exact set_ne k23 (by omega)
  have k41 : w35[a + 4]? = some (iA E h4 48 f4) := by rw [hw36]; exact set_ne k24 (by omega)
  have k42 : w35[a + 5]? = some (iA E h5 48 f5) := by rw [hw36]; exact set_ne k25 (by omega)
  have k43 : w35[a + 6]? = some (iA E h6 48 f6) := by rw [hw36]; exact set_ne k26 (by omega)
  have k44 : w35[b]? = some (ob o 1 [.int i2, .ref o1, .ref o2, .ref o3, .ref o4, .ref o5, .ref o6]) := by rw [hw36]; exact set_ne k27 (by omega)
  have k45 : w35[b + 1]? = some (iA E o1 48 g1) := by rw [hw36]; exact set_ne k28 (by omega)
  have k46 : w35[b + 2]? = some (iA E o2 48 g2) := by rw [hw36]; exact set_ne k29 (by omega)
  have k47 : w35[b + 3]? = some (iA E o3 48 g3) := by rw [hw36]; exact set_ne k30 (by omega)
  have k48 : w35[b + 4]? = some (iA E o4 48 g4) := by rw [hw36]; exact set_ne k31 (by omega)
  have k49 : w35[b + 5]? = some (iA E o5 48 g5) := by rw [hw36]; exact set_ne k32 (by omega)
  have k50 : w35[b + 6]? = some (iA E o6 48 g6) := by rw [hw36]; exact set_ne k33 (by omega)
  have kp51 := keeps_set kp34 hw36 (by first | exact rfl | decide | omega | (dsimp only; omega))
  refine x_aload_n C dX1_copyFrom_38 rfl 1 rfl rfl ?_
  refine x_get C (ci := 1) (k := 3) b k44 rfl in_X1 (by decide) w_131 rfl dX1_copyFrom_39 rfl ?_
  refine x_iconst C (v := 0) dX1_copyFrom_42 (by decide) rfl ?_
  refine x_aload_n C dX1_copyFrom_43 rfl 0 rfl rfl ?_
  refine x_get C (ci := 1) (k := 3) a k37 rfl in_X1 (by decide) w_131 rfl dX1_copyFrom_44 rfl ?_
  refine x_iconst C (v := 0) dX1_copyFrom_47 (by decide) rfl ?_
  refine x_bipush C (v := 48) dX1_copyFrom_48 (by decide) rfl ?_
  obtain ⟨w52, hw53⟩ : ∃ w : va_W, w = List.set w35 (a + 3) (iA E h3 48 (va_cpy g3 f3 0 0 48)) := ⟨_, rfl⟩
  refine x_copy C (b + 3) (a + 3) k47 k40 w_808 w_798 w_797 w_20 (by decide) (by decide) (by decide) (by decide) (by decide) (Nat.le_of_ble_eq_true rfl) (Nat.le_of_ble_eq_true rfl) hw53.symm dX1_copyFrom_50 rfl ?_
  have k54 : w52[a]? = some (ob h 1 [.int i2, .ref h1, .ref h2, .ref h3, .ref h4, .ref h5, .ref h6]) := by rw [hw53]; exact set_ne k37 (by omega)
  have k55 : w52[a + 1]? = some (iA E h1 48 (va_cpy g1 f1 0 0 48)) := by rw [hw53]; exact set_ne k38 (by omega)
  have k56 : w52[a + 2]? = some (iA E h2 48 (va_cpy g2 f2 0 0 48)) := by rw [hw53]; exact set_ne k39 (by omega)
  have k57 : w52[a + 3]? = some (iA E h3 48 (va_cpy g3 f3 0 0 48)) := by rw [hw53]; exact set_eq k40
  have k58 : w52[a + 4]? = some (iA E h4 48 f4) := by rw [hw53]; exact set_ne k41 (by omega)
  have k59 : w52[a + 5]? = some (iA E h5 48 f5) := by rw [hw53]; exact set_ne k42 (by omega)
  have k60 : w52[a + 6]? = some (iA E h6 48 f6) := by rw [hw53]; exact set_ne k43 (by omega)
  have k61 : w52[b]? = some (ob o 1 [.int i2, .ref o1, .ref o2, .ref o3, .ref o4, .ref o5, .ref o6]) := by rw [hw53]; exact set_ne k44 (by omega)
  have k62 : w52[b + 1]? = some (iA E o1 48 g1) := by rw [hw53]; exact set_ne k45 (by omega)
  have k63 : w52[b + 2]? = some (iA E o2 48 g2) := by rw [hw53]; exact set_ne k46 (by omega)
  have k64 : w52[b + 3]? = some (iA E o3 48 g3) := by rw [hw53]; exact set_ne k47 (by omega)
  have k65 : w52[b + 4]? = some (iA E o4 48 g4) := by rw [hw53]; exact set_ne k48 (by omega)
  have k66 : w52[b + 5]? = some (iA E o5 48 g5) := by rw [hw53]; exact set_ne k49 (by omega)
  have k67 : w52[b + 6]? = some (iA E o6 48 g6) := by rw [hw53]; exact set_ne k50 (by omega)
  have kp68 := keeps_set kp51 hw53 (by first | exact rfl | decide | omega | (dsimp only; omega))
  refine x_aload_n C dX1_copyFrom_53 rfl 1 rfl rfl ?_
  refine x_get C (ci := 1) (k := 4) b k61 rfl in_X1 (by decide) w_134 rfl dX1_copyFrom_54 rfl ?_
  refine x_iconst C (v := 0) dX1_copyFrom_57 (by decide) rfl ?_
  refine x_aload_n C dX1_copyFrom_58 rfl 0 rfl rfl ?_
  refine x_get C (ci := 1) (k := 4) a k54 rfl in_X1 (by decide) w_134 rfl dX1_copyFrom_59 rfl ?_
  refine x_iconst C (v := 0) dX1_copyFrom_62 (by decide) rfl ?_
  refine x_bipush C (v := 48) dX1_copyFrom_63 (by decide) rfl ?_
  obtain ⟨w69, hw70⟩ : ∃ w : va_W, w = List.set w52 (a + 4) (iA E h4 48 (va_cpy g4 f4 0 0 48)) := ⟨_, rfl⟩
  refine x_copy C (b + 4) (a + 4) k65 k58 w_808 w_798 w_797 w_20 (by decide) (by decide) (by decide) (by decide) (by decide) (Nat.le_of_ble_eq_true rfl) (Nat.le_of_ble_eq_true rfl) hw70.symm dX1_copyFrom_65 rfl ?_
  have k71 : w69[a]? = some (ob h 1 [.int i2, .ref h1, .ref h2, .ref h3, .ref h4, .ref h5, .ref h6]) := by rw [hw70]; exact set_ne k54 (by omega)
  have k72 : w69[a + 1]? = some (iA E h1 48 (va_cpy g1 f1 0 0 48)) := by rw [hw70]; exact set_ne k55 (by omega)
  have k73 : w69[a + 2]? = some (iA E h2 48 (va_cpy g2 f2 0 0 48)) := by rw [hw70]; exact set_ne k56 (by omega)
  have k74 : w69[a + 3]? = some (iA E h3 48 (va_cpy g3 f3 0 0 48)) := by rw [hw70]; exact set_ne k57 (by omega)
  have k75 : w69[a + 4]? = some (iA E h4 48 (va_cpy g4 f4 0 0 48)) := by rw [hw70]; exact set_eq k58
  have k76 : w69[a + 5]? = some (iA E h5 48 f5) := by rw [hw70]; exact set_ne k59 (by omega)
  have k77 : w69[a + 6]? = some (iA E h6 48 f6) := by rw [hw70]; exact set_ne k60 (by omega)
  have k78 : w69[b]? = some (ob o 1 [.int i2, .ref o1, .ref o2, .ref o3, .ref o4, .ref o5, .ref o6]) := by rw [hw70]; exact set_ne k61 (by omega)
  have k79 : w69[b + 1]? = some (iA E o1 48 g1) := by rw [hw70]; exact set_ne k62 (by omega)
  have k80 : w69[b + 2]? = some (iA E o2 48 g2) := by rw [hw70]; exact set_ne k63 (by omega)
  have k81 : w69[b + 3]? = some (iA E o3 48 g3) := by rw [hw70]; exact set_ne k64 (by omega)
  have k82 : w69[b + 4]? = some (iA E o4 48 g4) := by rw [hw70]; exact set_ne k65 (by omega)
  have k83 : w69[b + 5]? = some (iA E o5 48 g5) := by rw [hw70]; exact set_ne k66 (by omega)
  have k84 : w69[b + 6]? = some (iA E o6 48 g6) := by rw [hw70]; exact set_ne k67 (by omega)
  have kp85 := keeps_set kp68 hw70 (by first | exact rfl | decide | omega | (dsimp only; omega))
  refine x_aload_n C dX1_copyFrom_68 rfl 1 rfl rfl ?_
  refine x_get C (ci := 1) (k := 5) b k78 rfl in_X1 (by decide) w_139 rfl dX1_copyFrom_69 rfl ?_
  refine x_iconst C (v := 0) dX1_copyFrom_72 (by decide) rfl ?_
  refine x_aload_n C dX1_copyFrom_73 rfl 0 rfl rfl ?_
  refine x_get C (ci := 1) (k := 5) a k71 rfl in_X1 (by decide) w_139 rfl dX1_copyFrom_74 rfl ?_
  refine x_iconst C (v := 0) dX1_copyFrom_77 (by decide) rfl ?_
  refine x_bipush C (v := 48) dX1_copyFrom_78 (by decide) rfl ?_
  obtain ⟨w86, hw87⟩ : ∃ w : va_W, w = List.set w69 (a + 5) (iA E h5 48 (va_cpy g5 f5 0 0 48)) := ⟨_, rfl⟩
  refine x_copy C (b + 5) (a + 5) k83 k76 w_808 w_798 w_797 w_20 (by decide) (by decide) (by decide) (by decide) (by decide) (Nat.le_of_ble_eq_true rfl) (Nat.le_of_ble_eq_true rfl) hw87.symm dX1_copyFrom_80 rfl ?_
  have k88 : w86[a]? = some (ob h 1 [.int i2, .ref h1, .ref h2, .ref h3, .ref h4, .ref h5, .ref h6]) := by rw [hw87]; exact set_ne k71 (by omega)
  have k89 : w86[a + 1]? = some (iA E h1 48 (va_cpy g1 f1 0 0 48)) := by rw [hw87]; exact set_ne k72 (by omega)
  have k90 : w86[a + 2]? = some (iA E h2 48 (va_cpy g2 f2 0 0 48)) := by rw [hw87]; exact set_ne k73 (by omega)
  have k91 : w86[a + 3]? = some (iA E h3 48 (va_cpy g3 f3 0 0 48)) := by rw [hw87]; exact set_ne k74 (by omega)
  have k92 : w86[a + 4]? = some (iA E h4 48 (va_cpy g4 f4 0 0 48)) := by rw [hw87]; exact set_ne k75 (by omega)
  have k93 : w86[a + 5]? = some (iA E h5 48 (va_cpy g5 f5 0 0 48)) := by rw [hw87]; exact set_eq k76
  have k94 : w86[a + 6]? = some (iA E h6 48 f6) := by rw [hw87]; exact set_ne k77 (by omega)
  have k95 : w86[b]? = some (ob o 1 [.int i2, .ref o1, .ref o2, .ref o3, .ref o4, .ref o5, .ref o6]) := by rw [hw87]; exact set_ne k78 (by omega)
  have k96 : w86[b + 1]? = some (iA E o1 48 g1) := by rw [hw87]; exact set_ne k79 (by omega)
  have k97 : w86[b + 2]? = some (iA E o2 48 g2) := by rw [hw87]; exact set_ne k80 (by omega)
  have k98 : w86[b + 3]? = some (iA E o3 48 g3) := by rw [hw87]; exact set_ne k81 (by omega)
  have k99 : w86[b + 4]? = some (iA E o4 48 g4) := by rw [hw87]; exact set_ne k82 (by omega)
  have k100 : w86[b + 5]? = some (iA E o5 48 g5) := by rw [hw87]; exact set_ne k83 (by omega)
  have k101 : w86[b + 6]? = some (iA E o6 48 g6) := by rw [hw87]; exact set_ne k84 (by omega)
  have kp102 := keeps_set kp85 hw87 (by first | exact rfl | decide | omega | (dsimp only; omega))
  refine x_aload_n C dX1_copyFrom_83 rfl 1 rfl rfl ?_
  refine x_get C (ci := 1) (k := 6) b k95 rfl in_X1 (by decide) w_144 rfl dX1_copyFrom_84 rfl ?_
  refine x_iconst C (v := 0) dX1_copyFrom_87 (by decide) rfl ?_
  refine x_aload_n C dX1_copyFrom_88 rfl 0 rfl rfl ?_
  refine x_get C (ci := 1) (k := 6) a k88 rfl in_X1 (by decide) w_144 rfl dX1_copyFrom_89 rfl ?_
  refine x_iconst C (v := 0) dX1_copyFrom_92 (by decide) rfl ?_
  refine x_bipush C (v := 48) dX1_copyFrom_93 (by decide) rfl ?_
  obtain ⟨w103, hw104⟩ : ∃ w : va_W, w = List.set w86 (a + 6) (iA E h6 48 (va_cpy g6 f6 0 0 48)) := ⟨_, rfl⟩
  refine x_copy C (b + 6) (a + 6) k101 k94 w_808 w_798 w_797 w_20 (by decide) (by decide) (by decide) (by decide) (by decide) (Nat.le_of_ble_eq_true rfl) (Nat.le_of_ble_eq_true rfl) hw104.symm dX1_copyFrom_95 rfl ?_
  have k105 : w103[a]? = some (ob h 1 [.int i2, .ref h1, .ref h2, .ref h3, .ref h4, .ref h5, .ref h6]) := by rw [hw104]; exact set_ne k88 (by omega)
  have k106 : w103[a + 1]? = some (iA E h1 48 (va_cpy g1 f1 0 0 48)) := by rw [hw104]; exact set_ne k89 (by omega)
  have k107 : w103[a + 2]? = some (iA E h2 48 (va_cpy g2 f2 0 0 48)) := by rw [hw104]; exact set_ne k90 (by omega)
  have k108 : w103[a + 3]? = some (iA E h3 48 (va_cpy g3 f3 0 0 48)) := by rw [hw104]; exact set_ne k91 (by omega)
  have k109 : w103[a + 4]? = some (iA E h4 48 (va_cpy g4 f4 0 0 48)) := by rw [hw104]; exact set_ne k92 (by omega)
  have k110 : w103[a + 5]? = some (iA E h5 48 (va_cpy g5 f5 0 0 48)) := by rw [hw104]; exact set_ne k93 (by omega)
  have k111 : w103[a + 6]? = some (iA E h6 48 (va_cpy g6 f6 0 0 48)) := by rw [hw104]; exact set_eq k94
  have k112 : w103[b]? = some (ob o 1 [.int i2, .ref o1, .ref o2, .ref o3, .ref o4, .ref o5, .ref o6]) := by rw [hw104]; exact set_ne k95 (by omega)
  have k113 : w103[b + 1]? = some (iA E o1 48 g1) := by rw [hw104]; exact set_ne k96 (by omega)
  have k114 : w103[b + 2]? = some (iA E o2 48 g2) := by rw [hw104]; exact set_ne k97 (by omega)
  have k115 : w103[b + 3]? = some (iA E o3 48 g3) := by rw [hw104]; exact set_ne k98 (by omega)
  have k116 : w103[b + 4]? = some (iA E o4 48 g4) := by rw [hw104]; exact set_ne k99 (by omega)
  have k117 : w103[b + 5]? = some (iA E o5 48 g5) := by rw [hw104]; exact set_ne k100 (by omega)
  have k118 : w103[b + 6]? = some (iA E o6 48 g6) := by rw [hw104]; exact set_ne k101 (by omega)
  have kp119 := keeps_set kp102 hw104 (by first | exact rfl | decide | omega | (dsimp only; omega))
  exact x_vret C hr hlk dX1_copyFrom_98 ⟨kp119, k105⟩
theorem dX10_copyFrom_0 : decode cX10_copyFrom 0 = .ok (.aload_n 0, 1) := by decide +kernel
theorem dX10_copyFrom_1 : decode cX10_copyFrom 1 = .ok (.aload_n 1, 1) := by decide +kernel
theorem dX10_copyFrom_2 : decode cX10_copyFrom 2 = .ok (.getfield 9, 3) := by decide +kernel
theorem dX10_copyFrom_5 : decode cX10_copyFrom 5 = .ok (.putfield 9, 3) := by decide +kernel
theorem dX10_copyFrom_8 : decode cX10_copyFrom 8 = .ok (.aload_n 1, 1) := by decide +kernel
theorem dX10_copyFrom_9 : decode cX10_copyFrom 9 = .ok (.getfield 15, 3) := by decide +kernel
theorem dX10_copyFrom_12 : decode cX10_copyFrom 12 = .ok (.iconst 0, 1) := by decide +kernel
theorem dX10_copyFrom_13 : decode cX10_copyFrom 13 = .ok (.aload_n 0, 1) := by decide +kernel
theorem dX10_copyFrom_14 : decode cX10_copyFrom 14 = .ok (.getfield 15, 3) := by decide +kernel
theorem dX10_copyFrom_17 : decode cX10_copyFrom 17 = .ok (.iconst 0, 1) := by decide +kernel
theorem dX10_copyFrom_18 : decode cX10_copyFrom 18 = .ok (.bipush 8, 2) := by decide +kernel
theorem dX10_copyFrom_20 : decode cX10_copyFrom 20 = .ok (.invokestatic 48, 3) := by decide +kernel
theorem dX10_copyFrom_23 : decode cX10_copyFrom 23 = .ok (.aload_n 1, 1) := by decide +kernel
theorem dX10_copyFrom_24 : decode cX10_copyFrom 24 = .ok (.getfield 19, 3) := by decide +kernel
theorem dX10_copyFrom_27 : decode cX10_copyFrom 27 = .ok (.iconst 0, 1) := by decide +kernel
theorem dX10_copyFrom_28 : decode cX10_copyFrom 28 = .ok (.aload_n 0, 1) := by decide +kernel
theorem dX10_copyFrom_29 : decode cX10_copyFrom 29 = .ok (.getfield 19, 3) := by decide +kernel
theorem dX10_copyFrom_32 : decode cX10_copyFrom 32 = .ok (.iconst 0, 1) := by decide +kernel
theorem dX10_copyFrom_33 : decode cX10_copyFrom 33 = .ok (.bipush 8, 2) := by decide +kernel
theorem dX10_copyFrom_35 : decode cX10_copyFrom 35 = .ok (.invokestatic 48, 3) := by decide +kernel
theorem dX10_copyFrom_38 : decode cX10_copyFrom 38 = .ok (.aload_n 1, 1) := by decide +kernel
theorem dX10_copyFrom_39 : decode cX10_copyFrom 39 = .ok (.getfield 22, 3) := by decide +kernel
theorem dX10_copyFrom_42 : decode cX10_copyFrom 42 = .ok (.iconst 0, 1) := by decide +kernel
theorem dX10_copyFrom_43 : decode cX10_copyFrom 43 = .ok (.aload_n 0, 1) := by decide +kernel
theorem dX10_copyFrom_44 : decode cX10_copyFrom 44 = .ok (.getfield 22, 3) := by decide +kernel
theorem dX10_copyFrom_47 : decode cX10_copyFrom 47 = .ok (.iconst 0, 1) := by decide +kernel
theorem dX10_copyFrom_48 : decode cX10_copyFrom 48 = .ok (.bipush 8, 2) := by decide +kernel
theorem dX10_copyFrom_50 : decode cX10_copyFrom 50 = .ok (.invokestatic 48, 3) := by decide +kernel
theorem dX10_copyFrom_53 : decode cX10_copyFrom 53 = .ok (.aload_n 1, 1) := by decide +kernel
theorem dX10_copyFrom_54 : decode cX10_copyFrom 54 = .ok (.getfield 25, 3) := by decide +kernel
theorem dX10_copyFrom_57 : decode cX10_copyFrom 57 = .ok (.iconst 0, 1) := by decide +kernel
theorem dX10_copyFrom_58 : decode cX10_copyFrom 58 = .ok (.aload_n 0, 1) := by decide +kernel
theorem dX10_copyFrom_59 : decode cX10_copyFrom 59 = .ok (.getfield 25, 3) := by decide +kernel
theorem dX10_copyFrom_62 : decode cX10_copyFrom 62 = .ok (.iconst 0, 1) := by decide +kernel
theorem dX10_copyFrom_63 : decode cX10_copyFrom 63 = .ok (.bipush 8, 2) := by decide +kernel
theorem dX10_copyFrom_65 : decode cX10_copyFrom 65 = .ok (.invokestatic 48, 3) := by decide +kernel
theorem dX10_copyFrom_68 : decode cX10_copyFrom 68 = .ok (.aload_n 1, 1) := by decide +kernel
theorem dX10_copyFrom_69 : decode cX10_copyFrom 69 = .ok (.getfield 28, 3) := by decide +kernel
theorem dX10_copyFrom_72 : decode cX10_copyFrom 72 = .ok (.iconst 0, 1) := by decide +kernel
theorem dX10_copyFrom_73 : decode cX10_copyFrom 73 = .ok (.aload_n 0, 1) := by decide +kernel
theorem dX10_copyFrom_74 : decode cX10_copyFrom 74 = .ok (.getfield 28, 3) := by decide +kernel
theorem dX10_copyFrom_77 : decode cX10_copyFrom 77 = .ok (.iconst 0, 1) := by decide +kernel
theorem dX10_copyFrom_78 : decode cX10_copyFrom 78 = .ok (.bipush 8, 2) := by decide +kernel
theorem dX10_copyFrom_80 : decode cX10_copyFrom 80 = .ok (.invokestatic 48, 3) := by decide +kernel
theorem dX10_copyFrom_83 : decode cX10_copyFrom 83 = .ok (.return_, 1) := by decide +kernel
set_option maxRecDepth 20000 in
set_option maxHeartbeats 4000000 in
theorem t_Works_copy (E : xE) (l : Launch) (ws : va_W) {h h1 h2 h3 h4 h5 o o1 o2 o3 o4 o5 : Nat} {i1 i2 : Int32} {f1 f2 f3 f4 f5 g1 g2 g3 g4 g5 : Nat → Int32} (a : Nat) (k_0 : ws[a]? = some (ob h 9 [.int i1, .ref h1, .ref h2, .ref h3, .ref h4, .ref h5])) (p_1 : Nat) (k_1 : ws[a + 1]? = some (iA E h1 8 f1)) (p_2 : Nat) (k_2 : ws[a + 2]? = some (iA E h2 8 f2)) (p_3 : Nat) (k_3 : ws[a + 3]? = some (iA E h3 8 f3)) (p_4 : Nat) (k_4 : ws[a + 4]? = some (iA E h4 8 f4)) (p_5 : Nat) (k_5 : ws[a + 5]? = some (iA E h5 8 f5)) (b : Nat) (k_6 : ws[b]? = some (ob o 9 [.int i2, .ref o1, .ref o2, .ref o3, .ref o4, .ref o5])) (p_7 : Nat) (k_7 : ws[b + 1]? = some (iA E o1 8 g1)) (p_8 : Nat) (k_8 : ws[b + 2]? = some (iA E o2 8 g2)) (p_9 : Nat) (k_9 : ws[b + 3]? = some (iA E o3 8 g3)) (p_10 : Nat) (k_10 : ws[b + 4]? = some (iA E o4 8 g4)) (p_11 : Nat) (k_11 : ws[b + 5]? = some (iA E o5 8 g5)) (hab : b + 6 ≤ a) : xV E l yX10_copyFrom cX10_copyFrom 2 1 0 0 [.ref h, .ref o] ws (fun w => keeps ws w (fun q => a ≤ q ∧ q < a + 6) ∧ w[a]? = some (ob h 9 [.int i2, .ref h1, .ref h2, .ref h3, .ref h4, .ref h5])) := by
  refine xV_start (lv := [(0, .ref h), (1, .ref o)]) RX10 (by decide) rfl (Nat.le_of_ble_eq_true rfl) rfl (fun p e s m below meth c A C hr hlk hin => ?_)
  have kp0 : keeps ws ws (fun q => a ≤ q ∧ q < a + 6) := keeps_rf
  refine x_aload_n C dX10_copyFrom_0 rfl 0 rfl rfl ?_
  refine x_aload_n C dX10_copyFrom_1 rfl 1 rfl rfl ?_
  refine x_get C (ci := 9) (k := 0) b k_6 rfl in_X10 (by decide) w_168 rfl dX10_copyFrom_2 rfl ?_
  obtain ⟨w1, hw2⟩ : ∃ w : va_W, w = List.set ws a (ob h 9 [.int i2, .ref h1, .ref h2, .ref h3, .ref h4, .ref h5]) := ⟨_, rfl⟩
  refine x_put C (ci := 9) (k := 0) (ty := .int) a k_0 rfl in_X10 tyX10 tyX10_ok nmX10 (by decide) w_168 rfl rfl rfl rfl (Nat.le_of_ble_eq_true rfl) hw2.symm dX10_copyFrom_5 rfl ?_
  have k3 : w1[a]? = some (ob h 9 [.int i2, .ref h1, .ref h2, .ref h3, .ref h4, .ref h5]) := by rw [hw2]; exact set_eq k_0
  have k4 : w1[a + 1]? = some (iA E h1 8 f1) := by rw [hw2]; exact set_ne k_1 (by omega)
  have k5 : w1[a + 2]? = some (iA E h2 8 f2) := by rw [hw2]; exact set_ne k_2 (by omega)
  have k6 : w1[a + 3]? = some (iA E h3 8 f3) := by rw [hw2]; exact set_ne k_3 (by omega)
  have k7 : w1[a + 4]? = some (iA E h4 8 f4) := by rw [hw2]; exact set_ne k_4 (by omega)
  have k8 : w1[a + 5]? = some (iA E h5 8 f5) := by rw [hw2]; exact set_ne k_5 (by omega)
  have k9 : w1[b]? = some (ob o 9 [.int i2, .ref o1, .ref o2, .ref o3, .ref o4, .ref o5]) := by rw [hw2]; exact set_ne k_6 (by omega)
  have k10 : w1[b + 1]? = some (iA E o1 8 g1) := by rw [hw2]; exact set_ne k_7 (by omega)
  have k11 : w1[b + 2]? = some (iA E o2 8 g2) := by rw [hw2]; exact set_ne k_8 (by omega)
  have k12 : w1[b + 3]? = some (iA E o3 8 g3) := by rw [hw2]; exact set_ne k_9 (by omega)
  have k13 : w1[b + 4]? = some (iA E o4 8 g4) := by rw [hw2]; exact set_ne k_10 (by omega)
  have k14 : w1[b + 5]? = some (iA E o5 8 g5) := by rw [hw2]; exact set_ne k_11 (by omega)
  have kp15 := keeps_set kp0 hw2 (by first | exact rfl | decide | omega | (dsimp only; omega))
  refine x_aload_n C dX10_copyFrom_8 rfl 1 rfl rfl ?_
  refine x_get C (ci := 9) (k := 1) b k9 rfl in_X10 (by decide) w_170 rfl dX10_copyFrom_9 rfl ?_
  refine x_iconst C (v := 0) dX10_copyFrom_12 (by decide) rfl ?_
  refine x_aload_n C dX10_copyFrom_13 rfl 0 rfl rfl ?_
  refine x_get C (ci := 9) (k := 1) a k3 rfl in_X10 (by decide) w_170 rfl dX10_copyFrom_14 rfl ?_
  refine x_iconst C (v := 0) dX10_copyFrom_17 (by decide) rfl ?_
  refine x_bipush C (v := 8) dX10_copyFrom_18 (by decide) rfl ?_
  obtain ⟨w16, hw17⟩ : ∃ w : va_W, w = List.set w1 (a + 1) (iA E h1 8 (va_cpy g1 f1 0 0 8)) := ⟨_, rfl⟩
  refine x_copy C (b + 1) (a + 1) k10 k4 w_813 w_798 w_797 w_20 (by decide) (by decide) (by decide) (by decide) (by decide) (Nat.le_of_ble_eq_true rfl) (Nat.le_of_ble_eq_true rfl) hw17.symm dX10_copyFrom_20 rfl ?_
  have k18 : w16[a]? = some (ob h 9 [.int i2, .ref h1, .ref h2, .ref h3, .ref h4, .ref h5]) := by rw [hw17]; exact set_ne k3 (by omega)
  have k19 : w16[a + 1]? = some (iA E h1 8 (va_cpy g1 f1 0 0 8)) := by rw [hw17]; exact set_eq k4
  have k20 : w16[a + 2]? = some (iA E h2 8 f2) := by rw [hw17]; exact set_ne k5 (by omega)
  have k21 : w16[a + 3]? = some (iA E h3 8 f3) := by rw [hw17]; exact set_ne k6 (by omega)
  have k22 : w16[a + 4]? = some (iA E h4 8 f4) := by rw [hw17]; exact set_ne k7 (by omega)
  have k23 : w16[a + 5]? = some (iA E h5 8 f5) := by rw [hw17]; exact set_ne k8 (by omega)
  have k24 : w16[b]? = some (ob o 9 [.int i2, .ref o1, .ref o2, .ref o3, .ref o4, .ref o5]) := by rw [hw17]; exact set_ne k9 (by omega)
  have k25 : w16[b + 1]? = some (iA E o1 8 g1) := by rw [hw17]; exact set_ne k10 (by omega)
  have k26 : w16[b + 2]? = some (iA E o2 8 g2) := by rw [hw17]; exact set_ne k11 (by omega)
  have k27 : w16[b + 3]? = some (iA E o3 8 g3) := by rw [hw17]; exact set_ne k12 (by omega)
  have k28 : w16[b + 4]? = some (iA E o4 8 g4) := by rw [hw17]; exact set_ne k13 (by omega)
  have k29 : w16[b + 5]? = some (iA E o5 8 g5) := by rw [hw17]; exact set_ne k14 (by omega)
  have kp30 := keeps_set kp15 hw17 (by first | exact rfl | decide | omega | (dsimp only; omega))
  refine x_aload_n C dX10_copyFrom_23 rfl 1 rfl rfl ?_
  refine x_get C (ci := 9) (k := 2) b k24 rfl in_X10 (by decide) w_173 rfl dX10_copyFrom_24 rfl ?_
  refine x_iconst C (v := 0) dX10_copyFrom_27 (by decide) rfl ?_
  refine x_aload_n C dX10_copyFrom_28 rfl 0 rfl rfl ?_
  refine x_get C (ci := 9) (k := 2) a k18 rfl in_X10 (by decide) w_173 rfl dX10_copyFrom_29 rfl ?_
  refine x_iconst C (v := 0) dX10_copyFrom_32 (by decide) rfl ?_
  refine x_bipush C (v := 8) dX10_copyFrom_33 (by decide) rfl ?_
  obtain ⟨w31, hw32⟩ : ∃ w : va_W, w = List.set w16 (a + 2) (iA E h2 8 (va_cpy g2 f2 0 0 8)) := ⟨_, rfl⟩
  refine x_copy C (b + 2) (a + 2) k26 k20 w_813 w_798 w_797 w_20 (by decide) (by decide) (by decide) (by decide) (by decide) (Nat.le_of_ble_eq_true rfl) (Nat.le_of_ble_eq_true rfl) hw32.symm dX10_copyFrom_35 rfl ?_
  have k33 : w31[a]? = some (ob h 9 [.int i2, .ref h1, .ref h2, .ref h3, .ref h4, .ref h5]) := by rw [hw32]; exact set_ne k18 (by omega)
  have k34 : w31[a + 1]? = some (iA E h1 8 (va_cpy g1 f1 0 0 8)) := by rw [hw32]; exact set_ne k19 (by omega)
  have k35 : w31[a + 2]? = some (iA E h2 8 (va_cpy g2 f2 0 0 8)) := by rw [hw32]; exact set_eq k20
  have k36 : w31[a + 3]? = some (iA E h3 8 f3) := by rw [hw32]; exact set_ne k21 (by omega)
  have k37 : w31[a + 4]? = some (iA E h4 8 f4) := by rw [hw32]; exact set_ne k22 (by omega)
  have k38 : w31[a + 5]? = some (iA E h5 8 f5) := by rw [hw32]; exact set_ne k23 (by omega)
  have k39 : w31[b]? = some (ob o 9 [.int i2, .ref o1, .ref o2, .ref o3, .ref o4, .ref o5]) := by rw [hw32]; exact set_ne k24 (by omega)
  have k40 : w31[b + 1]? = some (iA E o1 8 g1) := by rw [hw32]; exact set_ne k25 (by omega)
  have k41 : w31[b + 2]? = some (iA E o2 8 g2) := by rw [hw32]; exact set_ne k26 (by omega)
  have k42 : w31[b + 3]? = some (iA E o3 8 g3) := by rw [hw32]; exact set_ne k27 (by omega)
  have k43 : w31[b + 4]? = some (iA E o4 8 g4) := by rw [hw32]; exact set_ne k28 (by omega)
  have k44 : w31[b + 5]? = some (iA E o5 8 g5) := by rw [hw32]; exact set_ne k29 (by omega)
  have kp45 := keeps_set kp30 hw32 (by first | exact rfl | decide | omega | (dsimp only; omega))
  refine x_aload_n C dX10_copyFrom_38 rfl 1 rfl rfl ?_
  refine x_get C (ci := 9) (k := 3) b k39 rfl in_X10 (by decide) w_176 rfl dX10_copyFrom_39 rfl ?_
  refine x_iconst C (v := 0) dX10_copyFrom_42 (by decide) rfl ?_
  refine x_aload_n C dX10_copyFrom_43 rfl 0 rfl rfl ?_
  refine x_get C (ci := 9) (k := 3) a k33 rfl in_X10 (by decide) w_176 rfl dX10_copyFrom_44 rfl ?_
  refine x_iconst C (v := 0) dX10_copyFrom_47 (by decide) rfl ?_
  refine x_bipush C (v := 8) dX10_copyFrom_48 (by decide) rfl ?_
  obtain ⟨w46, hw47⟩ : ∃ w : va_W, w = List.set w31 (a + 3) (iA E h3 8 (va_cpy g3 f3 0 0 8)) := ⟨_, rfl⟩
  refine x_copy C (b + 3) (a + 3) k42 k36 w_813 w_798 w_797 w_20 (by decide) (by decide) (by decide) (by decide) (by decide) (Nat.le_of_ble_eq_true rfl) (Nat.le_of_ble_eq_true rfl) hw47.symm dX10_copyFrom_50 rfl ?_
  have k48 : w46[a]? = some (ob h 9 [.int i2, .ref h1, .ref h2, .ref h3, .ref h4, .ref h5]) := by rw [hw47]; exact set_ne k33 (by omega)
  have k49 : w46[a + 1]? = some (iA E h1 8 (va_cpy g1 f1 0 0 8)) := by rw [hw47]; exact set_ne k34 (by omega)
  have k50 : w46[a + 2]? = some (iA E h2 8 (va_cpy g2 f2 0 0 8)) := by rw [hw47]; exact set_ne k35 (by omega)
  have k51 : w46[a + 3]? = some (iA E h3 8 (va_cpy g3 f3 0 0 8)) := by rw [hw47]; exact set_eq k36
  have k52 : w46[a + 4]? = some (iA E h4 8 f4) := by rw [hw47]; exact set_ne k37 (by omega)
  have k53 : w46[a + 5]? = some (iA E h5 8 f5) := by rw [hw47]; exact set_ne k38 (by omega)
  have k54 : w46[b]? = some (ob o 9 [.int i2, .ref o1, .ref o2, .ref o3, .ref o4, .ref o5]) := by rw [hw47]; exact set_ne k39 (by omega)
  have k55 : w46[b + 1]? = some (iA E o1 8 g1) := by rw [hw47]; exact set_ne k40 (by omega)
  have k56 : w46[b + 2]? = some (iA E o2 8 g2) := by rw [hw47]; exact set_ne k41 (by omega)
  have k57 : w46[b + 3]? = some (iA E o3 8 g3) := by rw [hw47]; exact set_ne k42 (by omega)
  have k58 : w46[b + 4]? = some (iA E o4 8 g4) := by rw [hw47]; exact set_ne k43 (by omega)
  have k59 : w46[b + 5]? = some (iA E o5 8 g5) := by rw [hw47]; exact set_ne k44 (by omega)
  have kp60 := keeps_set kp45 hw47 (by first | exact rfl | decide | omega | (dsimp only; omega))
  refine x_aload_n C dX10_copyFrom_53 rfl 1 rfl rfl ?_
  refine x_get C (ci := 9) (k := 4) b k54 rfl in_X10 (by decide) w_179 rfl dX10_copyFrom_54 rfl ?_
  refine x_iconst C (v := 0) dX10_copyFrom_57 (by decide) rfl ?_
  refine x_aload_n C dX10_copyFrom_58 rfl 0 rfl rfl ?_
  refine x_get C (ci := 9) (k := 4) a k48 rfl in_X10 (by decide) w_179 rfl dX10_copyFrom_59 rfl ?_
  refine x_iconst C (v := 0) dX10_copyFrom_62 (by decide) rfl ?_
  refine x_bipush C (v := 8) dX10_copyFrom_63 (by decide) rfl ?_
  obtain ⟨w61, hw62⟩ : ∃ w : va_W, w = List.set w46 (a + 4) (iA E h4 8 (va_cpy g4 f4 0 0 8)) := ⟨_, rfl⟩
  refine x_copy C (b + 4) (a + 4) k58 k52 w_813 w_798 w_797 w_20 (by decide) (by decide) (by decide) (by decide) (by decide) (Nat.le_of_ble_eq_true rfl) (Nat.le_of_ble_eq_true rfl) hw62.symm dX10_copyFrom_65 rfl ?_
  have k63 : w61[a]? = some (ob h 9 [.int i2, .ref h1, .ref h2, .ref h3, .ref h4, .ref h5]) := by rw [hw62]; exact set_ne k48 (by omega)
  have k64 : w61[a + 1]? = some (iA E h1 8 (va_cpy g1 f1 0 0 8)) := by rw [hw62]; exact set_ne k49 (by omega)
  have k65 : w61[a + 2]? = some (iA E h2 8 (va_cpy g2 f2 0 0 8)) := by rw [hw62]; exact set_ne k50 (by omega)
  have k66 : w61[a + 3]? = some (iA E h3 8 (va_cpy g3 f3 0 0 8)) := by rw [hw62]; exact set_ne k51 (by omega)
  have k67 : w61[a + 4]? = some (iA E h4 8 (va_cpy g4 f4 0 0 8)) := by rw [hw62]; exact set_eq k52
  have k68 : w61[a + 5]? = some (iA E h5 8 f5) := by rw [hw62]; exact set_ne k53 (by omega)
  have k69 : w61[b]? = some (ob o 9 [.int i2, .ref o1, .ref o2, .ref o3, .ref o4, .ref o5]) := by rw [hw62]; exact set_ne k54 (by omega)
  have k70 : w61[b + 1]? = some (iA E o1 8 g1) := by rw [hw62]; exact set_ne k55 (by omega)
  have k71 : w61[b + 2]? = some (iA E o2 8 g2) := by rw [hw62]; exact set_ne k56 (by omega)
  have k72 : w61[b + 3]? = some (iA E o3 8 g3) := by rw [hw62]; exact set_ne k57 (by omega)
  have k73 : w61[b + 4]? = some (iA E o4 8 g4) := by rw [hw62]; exact set_ne k58 (by omega)
  have k74 : w61[b + 5]? = some (iA E o5 8 g5) := by rw [hw62]; exact set_ne k59 (by omega)
  have kp75 := keeps_set kp60 hw62 (by first | exact rfl | decide | omega | (dsimp only; omega))
  refine x_aload_n C dX10_copyFrom_68 rfl 1 rfl rfl ?_
  refine x_get C (ci := 9) (k := 5) b k69 rfl in_X10 (by decide) w_181 rfl dX10_copyFrom_69 rfl ?_
  refine x_iconst C (v := 0) dX10_copyFrom_72 (by decide) rfl ?_
  refine x_aload_n C dX10_copyFrom_73 rfl 0 rfl rfl ?_
  refine x_get C (ci := 9) (k := 5) a k63 rfl in_X10 (by decide) w_181 rfl dX10_copyFrom_74 rfl ?_
  refine x_iconst C (v := 0) dX10_copyFrom_77 (by decide) rfl ?_
  refine x_bipush C (v := 8) dX10_copyFrom_78 (by decide) rfl ?_
  obtain ⟨w76, hw77⟩ : ∃ w : va_W, w = List.set w61 (a + 5) (iA E h5 8 (va_cpy g5 f5 0 0 8)) := ⟨_, rfl⟩
  refine x_copy C (b + 5) (a + 5) k74 k68 w_813 w_798 w_797 w_20 (by decide) (by decide) (by decide) (by decide) (by decide) (Nat.le_of_ble_eq_true rfl) (Nat.le_of_ble_eq_true rfl) hw77.symm dX10_copyFrom_80 rfl ?_
  have k78 : w76[a]? = some (ob h 9 [.int i2, .ref h1, .ref h2, .ref h3, .ref h4, .ref h5]) := by rw [hw77]; exact set_ne k63 (by omega)
  have k79 : w76[a + 1]? = some (iA E h1 8 (va_cpy g1 f1 0 0 8)) := by rw [hw77]; exact set_ne k64 (by omega)
  have k80 : w76[a + 2]? = some (iA E h2 8 (va_cpy g2 f2 0 0 8)) := by rw [hw77]; exact set_ne k65 (by omega)
  have k81 : w76[a + 3]? = some (iA E h3 8 (va_cpy g3 f3 0 0 8)) := by rw [hw77]; exact set_ne k66 (by omega)
  have k82 : w76[a + 4]? = some (iA E h4 8 (va_cpy g4 f4 0 0 8)) := by rw [hw77]; exact set_ne k67 (by omega)
  have k83 : w76[a + 5]? = some (iA E h5 8 (va_cpy g5 f5 0 0 8)) := by rw [hw77]; exact set_eq k68
  have k84 : w76[b]? = some (ob o 9 [.int i2, .ref o1, .ref o2, .ref o3, .ref o4, .ref o5]) := by rw [hw77]; exact set_ne k69 (by omega)
  have k85 : w76[b + 1]? = some (iA E o1 8 g1) := by rw [hw77]; exact set_ne k70 (by omega)
  have k86 : w76[b + 2]? = some (iA E o2 8 g2) := by rw [hw77]; exact set_ne k71 (by omega)
  have k87 : w76[b + 3]? = some (iA E o3 8 g3) := by rw [hw77]; exact set_ne k72 (by omega)
  have k88 : w76[b + 4]? = some (iA E o4 8 g4) := by rw [hw77]; exact set_ne k73 (by omega)
  have k89 : w76[b + 5]? = some (iA E o5 8 g5) := by rw [hw77]; exact set_ne k74 (by omega)
  have kp90 := keeps_set kp75 hw77 (by first | exact rfl | decide | omega | (dsimp only; omega))
  exact x_vret C hr hlk dX10_copyFrom_83 ⟨kp90, k78⟩
theorem dX9_copyFrom_0 : decode cX9_copyFrom 0 = .ok (.aload_n 0, 1) := by decide +kernel
theorem dX9_copyFrom_1 : decode cX9_copyFrom 1 = .ok (.aload_n 1, 1) := by decide +kernel
theorem dX9_copyFrom_2 : decode cX9_copyFrom 2 = .ok (.getfield 9, 3) := by decide +kernel
theorem dX9_copyFrom_5 : decode cX9_copyFrom 5 = .ok (.putfield 9, 3) := by decide +kernel
theorem dX9_copyFrom_8 : decode cX9_copyFrom 8 = .ok (.aload_n 0, 1) := by decide +kernel
theorem dX9_copyFrom_9 : decode cX9_copyFrom 9 = .ok (.aload_n 1, 1) := by decide +kernel
theorem dX9_copyFrom_10 : decode cX9_copyFrom 10 = .ok (.getfield 15, 3) := by decide +kernel
theorem dX9_copyFrom_13 : decode cX9_copyFrom 13 = .ok (.putfield 15, 3) := by decide +kernel
theorem dX9_copyFrom_16 : decode cX9_copyFrom 16 = .ok (.aload_n 0, 1) := by decide +kernel
theorem dX9_copyFrom_17 : decode cX9_copyFrom 17 = .ok (.getfield 21, 3) := by decide +kernel
theorem dX9_copyFrom_20 : decode cX9_copyFrom 20 = .ok (.aload_n 1, 1) := by decide +kernel
theorem dX9_copyFrom_21 : decode cX9_copyFrom 21 = .ok (.getfield 21, 3) := by decide +kernel
theorem dX9_copyFrom_24 : decode cX9_copyFrom 24 = .ok (.invokevirtual 58, 3) := by decide +kernel
theorem dX9_copyFrom_27 : decode cX9_copyFrom 27 = .ok (.aload_n 0, 1) := by decide +kernel
theorem dX9_copyFrom_28 : decode cX9_copyFrom 28 = .ok (.getfield 28, 3) := by decide +kernel
theorem dX9_copyFrom_31 : decode cX9_copyFrom 31 = .ok (.aload_n 1, 1) := by decide +kernel
theorem dX9_copyFrom_32 : decode cX9_copyFrom 32 = .ok (.getfield 28, 3) := by decide +kernel
theorem dX9_copyFrom_35 : decode cX9_copyFrom 35 = .ok (.invokevirtual 62, 3) := by decide +kernel
theorem dX9_copyFrom_38 : decode cX9_copyFrom 38 = .ok (.aload_n 0, 1) := by decide +kernel
theorem dX9_copyFrom_39 : decode cX9_copyFrom 39 = .ok (.getfield 35, 3) := by decide +kernel
theorem dX9_copyFrom_42 : decode cX9_copyFrom 42 = .ok (.aload_n 1, 1) := by decide +kernel
theorem dX9_copyFrom_43 : decode cX9_copyFrom 43 = .ok (.getfield 35, 3) := by decide +kernel
theorem dX9_copyFrom_46 : decode cX9_copyFrom 46 = .ok (.invokevirtual 65, 3) := by decide +kernel
theorem dX9_copyFrom_49 : decode cX9_copyFrom 49 = .ok (.aload_n 0, 1) := by decide +kernel
theorem dX9_copyFrom_50 : decode cX9_copyFrom 50 = .ok (.getfield 42, 3) := by decide +kernel
theorem dX9_copyFrom_53 : decode cX9_copyFrom 53 = .ok (.aload_n 1, 1) := by decide +kernel
theorem dX9_copyFrom_54 : decode cX9_copyFrom 54 = .ok (.getfield 42, 3) := by decide +kernel
theorem dX9_copyFrom_57 : decode cX9_copyFrom 57 = .ok (.invokevirtual 68, 3) := by decide +kernel
theorem dX9_copyFrom_60 : decode cX9_copyFrom 60 = .ok (.return_, 1) := by decide +kernel
set_option maxRecDepth 20000 in
set_option maxHeartbeats 4000000 in
theorem t_Town_copy (E : xE) (l : Launch) (ws : va_W) {ut uh up ue uw uh1 uh2 up1 up2 up3 up4 ue1 ue2 ue3 ue4 ue5 ue6 uw1 uw2 uw3 uw4 uw5 vt vh vp ve vw vh1 vh2 vp1 vp2 vp3 vp4 ve1 ve2 ve3 ve4 ve5 ve6 vw1 vw2 vw3 vw4 vw5 : Nat} {d1 x1 r1 r2 r3 r4 d2 x2 r5 r6 r7 r8 : Int32} {ufh1 ufh2 ufp1 ufp2 ufp3 ufp4 ufe1 ufe2 ufe3 ufe4 ufe5 ufe6 ufw1 ufw2 ufw3 ufw4 ufw5 vfh1 vfh2 vfp1 vfp2 vfp3 vfp4 vfe1 vfe2 vfe3 vfe4 vfe5 vfe6 vfw1 vfw2 vfw3 vfw4 vfw5 : Nat → Int32} (a : Nat) (k_0 : ws[a]? = some (ob ut 8 [.int d1, .int x1, .ref uh, .ref up, .ref ue, .ref uw, .int r1, .int r2, .int r3, .int r4])) (p_1 : Nat) (k_1 : ws[a + 1]? = some (ob uh 2 [.int 0, .ref uh1, .ref uh2])) (p_2 : Nat) (k_2 : ws[a + 2]? = some (iA E uh1 8 ufh1)) (p_3 : Nat) (k_3 : ws[a + 3]? = some (iA E uh2 8 ufh2)) (p_4 : Nat) (k_4 : ws[a + 4]? = some (ob up 4 [.int 0, .ref up1, .ref up2, .ref up3, .ref up4])) (p_5 : Nat) (k_5 : ws[a + 5]? = some (iA E up1 8 ufp1)) (p_6 : Nat) (k_6 : ws[a + 6]? = some (iA E up2 8 ufp2)) (p_7 : Nat) (k_7 : ws[a + 7]? = some (iA E up3 8 ufp3)) (p_8 : Nat) (k_8 : ws[a + 8]? = some (iA E up4 8 ufp4)) (p_9 : Nat) (k_9 : ws[a + 9]? = some (ob ue 1 [.int 0, .ref ue1, .ref ue2, .ref ue3, .ref ue4, .ref ue5, .ref ue6])) (p_10 : Nat) (k_10 : ws[a + 10]? = some (iA E ue1 48 ufe1)) (p_11 : Nat) (k_11 : ws[a + 11]? = some (iA E ue2 48 ufe2)) (p_12 : Nat) (k_12 : ws[a + 12]? = some (iA E ue3 48 ufe3)) (p_13 : Nat) (k_13 : ws[a + 13]? = some (iA E ue4 48 ufe4)) (p_14 : Nat) (k_14 : ws[a + 14]? = some (iA E ue5 48 ufe5)) (p_15 : Nat) (k_15 : ws[a + 15]? = some (iA E ue6 48 ufe6)) (p_16 : Nat) (k_16 : ws[a + 16]? = some (ob uw 9 [.int 0, .ref uw1, .ref uw2, .ref uw3, .ref uw4, .ref uw5])) (p_17 : Nat) (k_17 : ws[a + 17]? = some (iA E uw1 8 ufw1)) (p_18 : Nat) (k_18 : ws[a + 18]? = some (iA E uw2 8 ufw2)) (p_19 : Nat) (k_19 : ws[a + 19]? = some (iA E uw3 8 ufw3)) (p_20 : Nat) (k_20 : ws[a + 20]? = some (iA E uw4 8 ufw4)) (p_21 : Nat) (k_21 : ws[a + 21]? = some (iA E uw5 8 ufw5)) (b : Nat) (k_22 : ws[b]? = some (ob vt 8 [.int d2, .int x2, .ref vh, .ref vp, .ref ve, .ref vw, .int r5, .int r6, .int r7, .int r8])) (p_23 : Nat) (k_23 : ws[b + 1]? = some (ob vh 2 [.int 0, .ref vh1, .ref vh2])) (p_24 : Nat) (k_24 : ws[b + 2]? = some (iA E vh1 8 vfh1)) (p_25 : Nat) (k_25 : ws[b + 3]? = some (iA E vh2 8 vfh2)) (p_26 : Nat) (k_26 : ws[b + 4]? = some (ob vp 4 [.int 0, .ref vp1, .ref vp2, .ref vp3, .ref vp4])) (p_27 : Nat) (k_27 : ws[b + 5]? = some (iA E vp1 8 vfp1)) (p_28 : Nat) (k_28 : ws[b + 6]? = some (iA E vp2 8 vfp2)) (p_29 : Nat) (k_29 : ws[b + 7]? = some (iA E vp3 8 vfp3)) (p_30 : Nat) (k_30 : ws[b + 8]? = some (iA E vp4 8 vfp4)) (p_31 : Nat) (k_31 : ws[b + 9]? = some (ob ve 1 [.int 0, .ref ve1, .ref ve2, .ref ve3, .ref ve4, .ref ve5, .ref ve6])) (p_32 : Nat) (k_32 : ws[b + 10]? = some (iA E ve1 48 vfe1)) (p_33 : Nat) (k_33 : ws[b + 11]? = some (iA E ve2 48 vfe2)) (p_34 : Nat) (k_34 : ws[b + 12]? = some (iA E ve3 48 vfe3)) (p_35 : Nat) (k_35 : ws[b + 13]? = some (iA E ve4 48 vfe4)) (p_36 : Nat) (k_36 : ws[b + 14]? = some (iA E ve5 48 vfe5)) (p_37 : Nat) (k_37 : ws[b + 15]? = some (iA E ve6 48 vfe6)) (p_38 : Nat) (k_38 : ws[b + 16]? = some (ob vw 9 [.int 0, .ref vw1, .ref vw2, .ref vw3, .ref vw4, .ref vw5])) (p_39 : Nat) (k_39 : ws[b + 17]? = some (iA E vw1 8 vfw1)) (p_40 : Nat) (k_40 : ws[b + 18]? = some (iA E vw2 8 vfw2)) (p_41 : Nat) (k_41 : ws[b + 19]? = some (iA E vw3 8 vfw3)) (p_42 : Nat) (k_42 : ws[b + 20]? = some (iA E vw4 8 vfw4)) (p_43 : Nat) (k_43 : ws[b + 21]? = some (iA E vw5 8 vfw5)) (hab : b + 22 ≤ a) : xV E l yX9_copyFrom cX9_copyFrom 2 2 0 0 [.ref ut, .ref vt] ws (fun w => keeps ws w (fun q => a ≤ q ∧ q < a + 22) ∧ w[a]? = some (ob ut 8 [.int d2, .int x2, .ref uh, .ref up, .ref ue, .ref uw, .int r1, .int r2, .int r3, .int r4]) ∧ w[a + 1]? = some (ob uh 2 [.int 0, .ref uh1, .ref uh2]) ∧ w[a + 9]? = some (ob ue 1 [.int 0, .ref ue1, .ref ue2, .ref ue3, .ref ue4, .ref ue5, .ref ue6])) := by
  refine xV_start (lv := [(0, .ref ut), (1, .ref vt)]) RX9 (by decide) rfl (Nat.le_of_ble_eq_true rfl) rfl (fun p e s m below meth c A C hr hlk hin => ?_)
  have kp0 : keeps ws ws (fun q => a ≤ q ∧ q < a + 22) := keeps_rf
  refine x_aload_n C dX9_copyFrom_0 rfl 0 rfl rfl ?_
  refine x_aload_n C dX9_copyFrom_1 rfl 1 rfl rfl ?_
  refine x_get C (ci := 8) (k := 0) b k_22 rfl in_X9 (by decide) w_195 rfl dX9_copyFrom_2 rfl ?_
  obtain ⟨w1, hw2⟩ : ∃ w : va_W, w = List.set ws a (ob ut 8 [.int d2, .int x1, .ref uh, .ref up, .ref ue, .ref uw, .int r1, .int r2, .int r3, .int r4]) := ⟨_, rfl⟩
  refine x_put C (ci := 8) (k := 0) (ty := .int) a k_0 rfl in_X9 tyX9 tyX9_ok nmX9 (by decide) w_195 rfl rfl rfl rfl (Nat.le_of_ble_eq_true rfl) hw2.symm dX9_copyFrom_5 rfl ?_
  have k3 : w1[a]? = some (ob ut 8 [.int d2, .int x1, .ref uh, .ref up, .ref ue, .ref uw, .int r1, .int r2, .int r3, .int r4]) := by rw [hw2]; exact set_eq k_0
  have k4 : w1[a + 1]? = some (ob uh 2 [.int 0, .ref uh1, .ref uh2]) := by rw [hw2]; exact set_ne k_1 (by omega)
  have k5 : w1[a + 2]? = some (iA E uh1 8 ufh1) := by rw [hw2]; exact set_ne k_2 (by omega)
  have k6 : w1[a + 3]? = some (iA E uh2 8 ufh2) := by rw [hw2]; exact set_ne k_3 (by omega)
  have k7 : w1[a + 4]? = some (ob up 4 [.int 0, .ref up1, .ref up2, .ref up3, .ref up4]) := by rw [hw2]; exact set_ne k_4 (by omega)
  have k8 : w1[a + 5]? = some (iA E up1 8 ufp1) := by rw [hw2]; exact set_ne k_5 (by omega)
  have k9 : w1[a + 6]? = some (iA E up2 8 ufp2) := by rw [hw2]; exact set_ne k_6 (by omega)
  have k10 : w1[a + 7]? = some (iA E up3 8 ufp3) := by rw [hw2]; exact set_ne k_7 (by omega)
  have k11 : w1[a + 8]? = some (iA E up4 8 ufp4) := by rw [hw2]; exact set_ne k_8 (by omega)
  have k12 : w1[a + 9]? = some (ob ue 1 [.int 0, .ref ue1, .ref ue2, .ref ue3, .ref ue4, .ref ue5, .ref ue6]) := by rw [hw2]; exact set_ne k_9 (by omega)
  have k13 : w1[a + 10]? = some (iA E ue1 48 ufe1) := by rw [hw2]; exact set_ne k_10 (by omega)
  have k14 : w1[a + 11]? = some (iA E ue2 48 ufe2) := by rw [hw2]; exact set_ne k_11 (by omega)
  have k15 : w1[a + 12]? = some (iA E ue3 48 ufe3) := by rw [hw2]; exact set_ne k_12 (by omega)
  have k16 : w1[a + 13]? = some (iA E ue4 48 ufe4) := by rw [hw2]; exact set_ne k_13 (by omega)
  have k17 : w1[a + 14]? = some (iA E ue5 48 ufe5) := by rw [hw2]; exact set_ne k_14 (by omega)
  have k18 : w1[a + 15]? = some (iA E ue6 48 ufe6) := by rw [hw2]; exact set_ne k_15 (by omega)
  have k19 : w1[a + 16]? = some (ob uw 9 [.int 0, .ref uw1, .ref uw2, .ref uw3, .ref uw4, .ref uw5]) := by rw [hw2]; exact set_ne k_16 (by omega)
  have k20 : w1[a + 17]? = some (iA E uw1 8 ufw1) := by rw [hw2]; exact set_ne k_17 (by omega)
  have k21 : w1[a + 18]? = some (iA E uw2 8 ufw2) := by rw [hw2]; exact set_ne k_18 (by omega)
  have k22 : w1[a + 19]? = some (iA E uw3 8 ufw3) := by rw [hw2]; exact set_ne k_19 (by omega)
  have k23 : w1[a + 20]? = some (iA E uw4 8 ufw4) := by rw [hw2]; exact set_ne k_20 (by omega)
  have k24 : w1[a + 21]? = some (iA E uw5 8 ufw5) := by rw [hw2]; exact set_ne k_21 (by omega)
  have k25 : w1[b]? = some (ob vt 8 [.int d2, .int x2, .ref vh, .ref vp, .ref ve, .ref vw, .int r5, .int r6, .int r7, .int r8]) := by rw [hw2]; exact set_ne k_22 (by omega)
  have k26 : w1[b + 1]? = some (ob vh 2 [.int 0, .ref vh1, .ref vh2]) := by rw [hw2]; exact set_ne k_23 (by omega)
  have k27 : w1[b + 2]? = some (iA E vh1 8 vfh1) := by rw [hw2]; exact set_ne k_24 (by omega)
  have k28 : w1[b + 3]? = some (iA E vh2 8 vfh2) := by rw [hw2]; exact set_ne k_25 (by omega)
  have k29 : w1[b + 4]? = some (ob vp 4 [.int 0, .ref vp1, .ref vp2, .ref vp3, .ref vp4]) := by rw [hw2]; exact set_ne k_26 (by omega)
  have k30 : w1[b + 5]? = some (iA E vp1 8 vfp1) := by rw [hw2]; exact set_ne k_27 (by omega)
  have k31 : w1[b + 6]? = some (iA E vp2 8 vfp2) := by rw [hw2]; exact set_ne k_28 (by omega)
  have k32 : w1[b + 7]? = some (iA E vp3 8 vfp3) := by rw [hw2]; exact set_ne k_29 (by omega)
  have k33 : w1[b + 8]? = some (iA E vp4 8 vfp4) := by rw [hw2]; exact set_ne k_30 (by omega)
  have k34 : w1[b + 9]? = some (ob ve 1 [.int 0, .ref ve1, .ref ve2, .ref ve3, .ref ve4, .ref ve5, .ref ve6]) := by rw [hw2]; exact set_ne k_31 (by omega)
  have k35 : w1[b + 10]? = some (iA E ve1 48 vfe1) := by rw [hw2]; exact set_ne k_32 (by omega)
  have k36 : w1[b + 11]? = some (iA E ve2 48 vfe2) := by rw [hw2]; exact set_ne k_33 (by omega)
  have k37 : w1[b + 12]? = some (iA E ve3 48 vfe3) := by rw [hw2]; exact set_ne k_34 (by omega)
  have k38 : w1[b + 13]? = some (iA E ve4 48 vfe4) := by rw [hw2]; exact set_ne k_35 (by omega)
  have k39 : w1[b + 14]? = some (iA E ve5 48 vfe5) := by rw [hw2]; exact set_ne k_36 (by omega)
  have k40 : w1[b + 15]? = some (iA E ve6 48 vfe6) := by rw [hw2]; exact set_ne k_37 (by omega)
  have k41 : w1[b + 16]? = some (ob vw 9 [.int 0, .ref vw1, .ref vw2, .ref vw3, .ref vw4, .ref vw5]) := by rw [hw2]; exact set_ne k_38 (by omega)
  have k42 : w1[b + 17]? = some (iA E vw1 8 vfw1) := by rw [hw2]; exact set_ne k_39 (by omega)
  have k43 : w1[b + 18]? = some (iA E vw2 8 vfw2) := by rw [hw2]; exact set_ne k_40 (by omega)
  have k44 : w1[b + 19]? = some (iA E vw3 8 vfw3) := by rw [hw2]; exact set_ne k_41 (by omega)
  have k45 : w1[b + 20]? = some (iA E vw4 8 vfw4) := by rw [hw2]; exact set_ne k_42 (by omega)
  have k46 : w1[b + 21]? = some (iA E vw5 8 vfw5) := by rw [hw2]; exact set_ne k_43 (by omega)
  have kp47 := keeps_set kp0 hw2 (by first | exact rfl | decide | omega | (dsimp only; omega))
  refine x_aload_n C dX9_copyFrom_8 rfl 0 rfl rfl ?_
  refine x_aload_n C dX9_copyFrom_9 rfl 1 rfl rfl ?_
  refine x_get C (ci := 8) (k := 1) b k25 rfl in_X9 (by decide) w_198 rfl dX9_copyFrom_10 rfl ?_
  obtain ⟨w48, hw49⟩ : ∃ w : va_W, w = List.set w1 a (ob ut 8 [.int d2, .int x2, .ref uh, .ref up, .ref ue, .ref uw, .int r1, .int r2, .int r3, .int r4]) := ⟨_, rfl⟩
  refine x_put C (ci := 8) (k := 1) (ty := .int) a k3 rfl in_X9 tyX9 tyX9_ok nmX9 (by decide) w_198 rfl rfl rfl rfl (Nat.le_of_ble_eq_true rfl) hw49.symm dX9_copyFrom_13 rfl ?_
  have k50 : w48[a]? = some (ob ut 8 [.int d2, .int x2, .ref uh, .ref up, .ref ue, .ref uw, .int r1, .int r2, .int r3, .int r4]) := by rw [hw49]; exact set_eq k3
  have k51 : w48[a + 1]? = some (ob uh 2 [.int 0, .ref uh1, .ref uh2]) := by rw [hw49]; exact set_ne k4 (by omega)
  have k52 : w48[a + 2]? = some (iA E uh1 8 ufh1) := by rw [hw49]; exact set_ne k5 (by omega)
  have k53 : w48[a + 3]? = some (iA E uh2 8 ufh2) := by rw [hw49]; exact set_ne k6 (by omega)
  have k54 : w48[a + 4]? = some (ob up 4 [.int 0, .ref up1, .ref up2, .ref up3, .ref up4]) := by rw [hw49]; exact set_ne k7 (by omega)
  have k55 : w48[a + 5]? = some (iA E up1 8 ufp1) := by rw [hw49]; exact set_ne k8 (by omega)
  have k56 : w48[a + 6]? = some (iA E up2 8 ufp2) := by rw [hw49]; exact set_ne k9 (by omega)
  have k57 : w48[a + 7]? = some (iA E up3 8 ufp3) := by rw [hw49]; exact set_ne k10 (by omega)
  have k58 : w48[a + 8]? = some (iA E up4 8 ufp4) := by rw [hw49]; exact set_ne k11 (by omega)
  have k59 : w48[a + 9]? = some (ob ue 1 [.int 0, .ref ue1, .ref ue2, .ref ue3, .ref ue4, .ref ue5, .ref ue6]) := by rw [hw49]; exact set_ne k12 (by omega)
  have k60 : w48[a + 10]? = some (iA E ue1 48 ufe1) := by rw [hw49]; exact set_ne k13 (by omega)
  have k61 : w48[a + 11]? = some (iA E ue2 48 ufe2) := by rw [hw49]; exact set_ne k14 (by omega)
  have k62 : w48[a + 12]? = some (iA E ue3 48 ufe3) := by rw [hw49]; exact set_ne k15 (by omega)
  have k63 : w48[a + 13]? = some (iA E ue4 48 ufe4) := by rw [hw49]; exact set_ne k16 (by omega)
  have k64 : w48[a + 14]? = some (iA E ue5 48 ufe5) := by rw [hw49]; exact set_ne k17 (by omega)
  have k65 : w48[a + 15]? = some (iA E ue6 48 ufe6) := by rw [hw49]; exact set_ne k18 (by omega)
  have k66 : w48[a + 16]? = some (ob uw 9 [.int 0, .ref uw1, .ref uw2, .ref uw3, .ref uw4, .ref uw5]) := by rw [hw49]; exact set_ne k19 (by omega)
  have k67 : w48[a + 17]? = some (iA E uw1 8 ufw1) := by rw [hw49]; exact set_ne k20 (by omega)
  have k68 : w48[a + 18]? = some (iA E uw2 8 ufw2) := by rw [hw49]; exact set_ne k21 (by omega)
  have k69 : w48[a + 19]? = some (iA E uw3 8 ufw3) := by rw [hw49]; exact set_ne k22 (by omega)
  have k70 : w48[a + 20]? = some (iA E uw4 8 ufw4) := by rw [hw49]; exact set_ne k23 (by omega)
  have k71 : w48[a + 21]? = some (iA E uw5 8 ufw5) := by rw [hw49]; exact set_ne k24 (by omega)
  have k72 : w48[b]? = some (ob vt 8 [.int d2, .int x2, .ref vh, .ref vp, .ref ve, .ref vw, .int r5, .int r6, .int r7, .int r8]) := by rw [hw49]; exact set_ne k25 (by omega)
  have k73 : w48[b + 1]? = some (ob vh 2 [.int 0, .ref vh1, .ref vh2]) := by rw [hw49]; exact set_ne k26 (by omega)
  have k74 : w48[b + 2]? = some (iA E vh1 8 vfh1) := by rw [hw49]; exact set_ne k27 (by omega)
  have k75 : w48[b + 3]? = some (iA E vh2 8 vfh2) := by rw [hw49]; exact set_ne k28 (by omega)
  have k76 : w48[b + 4]? = some (ob vp 4 [.int 0, .ref vp1, .ref vp2, .ref vp3, .ref vp4]) := by rw [hw49]; exact set_ne k29 (by omega)
  have k77 : w48[b + 5]? = some (iA E vp1 8 vfp1) := by rw [hw49]; exact set_ne k30 (by omega)
  have k78 : w48[b + 6]? = some (iA E vp2 8 vfp2) := by rw [hw49]; exact set_ne k31 (by omega)
  have k79 : w48[b + 7]? = some (iA E vp3 8 vfp3) := by rw [hw49]; exact set_ne k32 (by omega)
  have k80 : w48[b + 8]? = some (iA E vp4 8 vfp4) := by rw [hw49]; exact set_ne k33 (by omega)
  have k81 : w48[b + 9]? = some (ob ve 1 [.int 0, .ref ve1, .ref ve2, .ref ve3, .ref ve4, .ref ve5, .ref ve6]) := by rw [hw49]; exact set_ne k34 (by omega)
  have k82 : w48[b + 10]? = some (iA E ve1 48 vfe1) := by rw [hw49]; exact set_ne k35 (by omega)
  have k83 : w48[b + 11]? = some (iA E ve2 48 vfe2) := by rw [hw49]; exact set_ne k36 (by omega)
  have k84 : w48[b + 12]? = some (iA E ve3 48 vfe3) := by rw [hw49]; exact set_ne k37 (by omega)
  have k85 : w48[b + 13]? = some (iA E ve4 48 vfe4) := by rw [hw49]; exact set_ne k38 (by omega)
  have k86 : w48[b + 14]? = some (iA E ve5 48 vfe5) := by rw [hw49]; exact set_ne k39 (by omega)
  have k87 : w48[b + 15]? = some (iA E ve6 48 vfe6) := by rw [hw49]; exact set_ne k40 (by omega)
  have k88 : w48[b + 16]? = some (ob vw 9 [.int 0, .ref vw1, .ref vw2, .ref vw3, .ref vw4, .ref vw5]) := by rw [hw49]; exact set_ne k41 (by omega)
  have k89 : w48[b + 17]? = some (iA E vw1 8 vfw1) := by rw [hw49]; exact set_ne k42 (by omega)
  have k90 : w48[b + 18]? = some (iA E vw2 8 vfw2) := by rw [hw49]; exact set_ne k43 (by omega)
  have k91 : w48[b + 19]? = some (iA E vw3 8 vfw3) := by rw [hw49]; exact set_ne k44 (by omega)
  have k92 : w48[b + 20]? = some (iA E vw4 8 vfw4) := by rw [hw49]; exact set_ne k45 (by omega)
  have k93 : w48[b + 21]? = some (iA E vw5 8 vfw5) := by rw [hw49]; exact set_ne k46 (by omega)
  have kp94 := keeps_set kp47 hw49 (by first | exact rfl | decide | omega | (dsimp only; omega))
  refine x_aload_n C dX9_copyFrom_16 rfl 0 rfl rfl ?_
  refine x_get C (ci := 8) (k := 2) a k50 rfl in_X9 (by decide) w_200 rfl dX9_copyFrom_17 rfl ?_
  refine x_aload_n C dX9_copyFrom_20 rfl 1 rfl rfl ?_
  refine x_get C (ci := 8) (k := 2) b k72 rfl in_X9 (by decide) w_200 rfl dX9_copyFrom_21 rfl ?_
  refine x_vv C (As := [.ref vh]) (rest := []) (t_Hens_copy E l w48 (a + 1) k51 (a + 2) k52 (a + 3) k53 (b + 1) k73 (b + 2) k74 (b + 3) k75 (by omega)) mf_X2_copyFrom w_792 (a + 1) k51 rfl rfl rfl (Nat.le_of_ble_eq_true rfl) ⟨(Nat.le_of_ble_eq_true rfl), (Nat.le_of_ble_eq_true rfl)⟩ ⟨(Nat.le_of_ble_eq_true rfl), (Nat.le_of_ble_eq_true rfl)⟩ dX9_copyFrom_24 rfl (fun w97 h95 => ?_)
  obtain ⟨g98, g99⟩ := h95
  have k101 : w97[a]? = some (ob ut 8 [.int d2, .int x2, .ref uh, .ref up, .ref ue, .ref uw, .int r1, .int r2, .int r3, .int r4]) := keeps_at g98 k50 (by first | decide | omega | (dsimp only; omega))
  have k102 : w97[a + 4]? = some (ob up 4 [.int 0, .ref up1, .ref up2, .ref up3, .ref up4]) := keeps_at g98 k54 (by first | decide | omega | (dsimp only; omega))
  have k103 : w97[a + 5]? = some (iA E up1 8 ufp1) := keeps_at g98 k55 (by first | decide | omega | (dsimp only; omega))
  have k104 : w97[a + 6]? = some (iA E up2 8 ufp2) := keeps_at g98 k56 (by first | decide | omega | (dsimp only; omega))
  have k105 : w97[a + 7]? = some (iA E up3 8 ufp3) := keeps_at g98 k57 (by first | decide | omega | (dsimp only; omega))
  have k106 : w97[a + 8]? = some (iA E up4 8 ufp4) := keeps_at g98 k58 (by first | decide | omega | (dsimp only; omega))
  have k107 : w97[a + 9]? = some (ob ue 1 [.int 0, .ref ue1, .ref ue2, .ref ue3, .ref ue4, .ref ue5, .ref ue6]) := keeps_at g98 k59 (by first | decide | omega | (dsimp only; omega))
  have k108 : w97[a + 10]? = some (iA E ue1 48 ufe1) := keeps_at g98 k60 (by first | decide | omega | (dsimp only; omega))
  have k109 : w97[a + 11]? = some (iA E ue2 48 ufe2) := keeps_at g98 k61 (by first | decide | omega | (dsimp only; omega))
  have k110 : w97[a + 12]? = some (iA E ue3 48 ufe3) := keeps_at g98 k62 (by first | decide | omega | (dsimp only; omega))
  have k111 : w97[a + 13]? = some (iA E ue4 48 ufe4) := keeps_at g98 k63 (by first | decide | omega | (dsimp only; omega))
  have k112 : w97[a + 14]? = some (iA E ue5 48 ufe5) := keeps_at g98 k64 (by first | decide | omega | (dsimp only; omega))
  have k113 : w97[a + 15]? = some (iA E ue6 48 ufe6) := keeps_at g98 k65 (by first | decide | omega | (dsimp only; omega))
  have k114 : w97[a + 16]? = some (ob uw 9 [.int 0, .ref uw1, .ref uw2, .ref uw3, .ref uw4, .ref uw5]) := keeps_at g98 k66 (by first | decide | omega | (dsimp only; omega))
  have k115 : w97[a + 17]? = some (iA E uw1 8 ufw1) := keeps_at g98 k67 (by first | decide | omega | (dsimp only; omega))
  have k116 : w97[a + 18]? = some (iA E uw2 8 ufw2) := keeps_at g98 k68 (by first | decide | omega | (dsimp only; omega))
  have k117 : w97[a + 19]? = some (iA E uw3 8 ufw3) := keeps_at g98 k69 (by first | decide | omega | (dsimp only; omega))
  have k118 : w97[a + 20]? = some (iA E uw4 8 ufw4) := keeps_at g98 k70 (by first | decide | omega | (dsimp only; omega))
  have k119 : w97[a + 21]? = some (iA E uw5 8 ufw5) := keeps_at g98 k71 (by first | decide | omega | (dsimp only; omega))
  have k120 : w97[b]? = some (ob vt 8 [.int d2, .int x2, .ref vh, .ref vp, .ref ve, .ref vw, .int r5, .int r6, .int r7, .int r8]) := keeps_at g98 k72 (by first | decide | omega | (dsimp only; omega))
  have k121 : w97[b + 1]? = some (ob vh 2 [.int 0, .ref vh1, .ref vh2]) := keeps_at g98 k73 (by first | decide | omega | (dsimp only; omega))
  have k122 : w97[b + 2]? = some (iA E vh1 8 vfh1) := keeps_at g98 k74 (by first | decide | omega | (dsimp only; omega))
  have k123 : w97[b + 3]? = some (iA E vh2 8 vfh2) := keeps_at g98 k75 (by first | decide | omega | (dsimp only; omega))
  have k124 : w97[b + 4]? = some (ob vp 4 [.int 0, .ref vp1, .ref vp2, .ref vp3, .ref vp4]) := keeps_at g98 k76 (by first | decide | omega | (dsimp only; omega))
  have k125 : w97[b + 5]? = some (iA E vp1 8 vfp1) := keeps_at g98 k77 (by first | decide | omega | (dsimp only; omega))
  have k126 : w97[b + 6]? = some (iA E vp2 8 vfp2) := keeps_at g98 k78 (by first | decide | omega | (dsimp only; omega))
  have k127 : w97[b + 7]? = some (iA E vp3 8 vfp3) := keeps_at g98 k79 (by first | decide | omega | (dsimp only; omega))
  have k128 : w97[b + 8]? = some (iA E vp4 8 vfp4) := keeps_at g98 k80 (by first | decide | omega | (dsimp only; omega))
  have k129 : w97[b + 9]? = some (ob ve 1 [.int 0, .ref ve1, .ref ve2, .ref ve3, .ref ve4, .ref ve5, .ref ve6]) := keeps_at g98 k81 (by first | decide | omega | (dsimp only; omega))
  have k130 : w97[b + 10]? = some (iA E ve1 48 vfe1) := keeps_at g98 k82 (by first | decide | omega | (dsimp only; omega))
  have k131 : w97[b + 11]? = some (iA E ve2 48 vfe2) := keeps_at g98 k83 (by first | decide | omega | (dsimp only; omega))
  have k132 : w97[b + 12]? = some (iA E ve3 48 vfe3) := keeps_at g98 k84 (by first | decide | omega | (dsimp only; omega))
  have k133 : w97[b + 13]? = some (iA E ve4 48 vfe4) := keeps_at g98 k85 (by first | decide | omega | (dsimp only; omega))
  have k134 : w97[b + 14]? = some (iA E ve5 48 vfe5) := keeps_at g98 k86 (by first | decide | omega | (dsimp only; omega))
  have k135 : w97[b + 15]? = some (iA E ve6 48 vfe6) := keeps_at g98 k87 (by first | decide | omega | (dsimp only; omega))
  have k136 : w97[b + 16]? = some (ob vw 9 [.int 0, .ref vw1, .ref vw2, .ref vw3, .ref vw4, .ref vw5]) := keeps_at g98 k88 (by first | decide | omega | (dsimp only; omega))
  have k137 : w97[b + 17]? = some (iA E vw1 8 vfw1) := keeps_at g98 k89 (by first | decide | omega | (dsimp only; omega))
  have k138 : w97[b + 18]? = some (iA E vw2 8 vfw2) := keeps_at g98 k90 (by first | decide | omega | (dsimp only; omega))
  have k139 : w97[b + 19]? = some (iA E vw3 8 vfw3) := keeps_at g98 k91 (by first | decide | omega | (dsimp only; omega))
  have k140 : w97[b + 20]? = some (iA E vw4 8 vfw4) := keeps_at g98 k92 (by first | decide | omega | (dsimp only; omega))
  have k141 : w97[b + 21]? = some (iA E vw5 8 vfw5) := keeps_at g98 k93 (by first | decide | omega | (dsimp only; omega))
  have kp142 := keeps_tr kp94 g98 (fun q hq => by first | omega | (dsimp only at *; omega))
  refine x_aload_n C dX9_copyFrom_27 rfl 0 rfl rfl ?_
  refine x_get C (ci := 8) (k := 3) a k101 rfl in_X9 (by decide) w_203 rfl dX9_copyFrom_28 rfl ?_
  refine x_aload_n C dX9_copyFrom_31 rfl 1 rfl rfl ?_
  refine x_get C (ci := 8) (k := 3) b k120 rfl in_X9 (by decide) w_203 rfl dX9_copyFrom_32 rfl ?_
  refine x_vv C (As := [.ref vp]) (rest := []) (t_People_copy E l w97 (a + 4) k102 (a + 5) k103 (a + 6) k104 (a + 7) k105 (a + 8) k106 (b + 4) k124 (b + 5) k125 (b + 6) k126 (b + 7) k127 (b + 8) k128 (by omega)) mf_X5_copyFrom w_799 (a + 4) k102 rfl rfl rfl (Nat.le_of_ble_eq_true rfl) ⟨(Nat.le_of_ble_eq_true rfl), (Nat.le_of_ble_eq_true rfl)⟩ ⟨(Nat.le_of_ble_eq_true rfl), (Nat.le_of_ble_eq_true rfl)⟩ dX9_copyFrom_35 rfl (fun w145 h143 => ?_)
  obtain ⟨g146, g147⟩ := h143
  have k149 : w145[a]? = some (ob ut 8 [.int d2, .int x2, .ref uh, .ref up, .ref ue, .ref uw, .int r1, .int r2, .int r3, .int r4]) := keeps_at g146 k101 (by first | decide | omega | (dsimp only; omega))
  have k150 : w145[a + 1]? = some (ob uh 2 [.int 0, .ref uh1, .ref uh2]) := keeps_at g146 g99 (by first | decide | omega | (dsimp only; omega))
  have k151 : w145[a + 9]? = some (ob ue 1 [.int 0, .ref ue1, .ref ue2, .ref ue3, .ref ue4, .ref ue5, .ref ue6]) := keeps_at g146 k107 (by first | decide | omega | (dsimp only; omega))
  have k152 : w145[a + 10]? = some (iA E ue1 48 ufe1) := keeps_at g146 k108 (by first | decide | omega | (dsimp only; omega))
  have k153 : w145[a + 11]? = some (iA E ue2 48 ufe2) := keeps_at g146 k109 (by first | decide | omega | (dsimp only; omega))
  have k154 : w145[a + 12]? = some (iA E ue3 48 ufe3) := keeps_at g146 k110 (by first | decide | omega | (dsimp only; omega))
  have k155 : w145[a + 13]? = some (iA E ue4 48 ufe4) := keeps_at g146 k111 (by first | decide | omega | (dsimp only; omega))
  have k156 : w145[a + 14]? = some (iA E ue5 48 ufe5) := keeps_at g146 k112 (by first | decide | omega | (dsimp only; omega))
  have k157 : w145[a + 15]? = some (iA E ue6 48 ufe6) := keeps_at g146 k113 (by first | decide | omega | (dsimp only; omega))
  have k158 : w145[a + 16]? = some (ob uw 9 [.int 0, .ref uw1, .ref uw2, .ref uw3, .ref uw4, .ref uw5]) := keeps_at g146 k114 (by first | decide | omega | (dsimp only; omega))
  have k159 : w145[a + 17]? = some (iA E uw1 8 ufw1) := keeps_at g146 k115 (by first | decide | omega | (dsimp only; omega))
  have k160 : w145[a + 18]? = some (iA E uw2 8 ufw2) := keeps_at g146 k116 (by first | decide | omega | (dsimp only; omega))
  have k161 : w145[a + 19]? = some (iA E uw3 8 ufw3) := keeps_at g146 k117 (by first | decide | omega | (dsimp only; omega))
  have k162 : w145[a + 20]? = some (iA E uw4 8 ufw4) := keeps_at g146 k118 (by first | decide | omega | (dsimp only; omega))
  have k163 : w145[a + 21]? = some (iA E uw5 8 ufw5) := keeps_at g146 k119 (by first | decide | omega | (dsimp only; omega))
  have k164 : w145[b]? = some (ob vt 8 [.int d2, .int x2, .ref vh, .ref vp, .ref ve, .ref vw, .int r5, .int r6, .int r7, .int r8]) := keeps_at g146 k120 (by first | decide | omega | (dsimp only; omega))
  have k165 : w145[b + 1]? = some (ob vh 2 [.int 0, .ref vh1, .ref vh2]) := keeps_at g146 k121 (by first | decide | omega | (dsimp only; omega))
  have k166 : w145[b + 2]? = some (iA E vh1 8 vfh1) := keeps_at g146 k122 (by first | decide | omega | (dsimp only; omega))
  have k167 : w145[b + 3]? = some (iA E vh2 8 vfh2) := keeps_at g146 k123 (by first | decide | omega | (dsimp only; omega))
  have k168 : w145[b + 4]? = some (ob vp 4 [.int 0, .ref vp1, .ref vp2, .ref vp3, .ref vp4]) := keeps_at g146 k124 (by first | decide | omega | (dsimp only; omega))
  have k169 : w145[b + 5]? = some (iA E vp1 8 vfp1) := keeps_at g146 k125 (by first | decide | omega | (dsimp only; omega))
  have k170 : w145[b + 6]? = some (iA E vp2 8 vfp2) := keeps_at g146 k126 (by first | decide | omega | (dsimp only; omega))
  have k171 : w145[b + 7]? = some (iA E vp3 8 vfp3) := keeps_at g146 k127 (by first | decide | omega | (dsimp only; omega))
  have k172 : w145[b + 8]? = some (iA E vp4 8 vfp4) := keeps_at g146 k128 (by first | decide | omega | (dsimp only; omega))
  have k173 : w145[b + 9]? = some (ob ve 1 [.int 0, .ref ve1, .ref ve2, .ref ve3, .ref ve4, .ref ve5, .ref ve6]) := keeps_at g146 k129 (by first | decide | omega | (dsimp only; omega))
  have k174 : w145[b + 10]? = some (iA E ve1 48 vfe1) := keeps_at g146 k130 (by first | decide | omega | (dsimp only; omega))
  have k175 : w145[b + 11]? = some (iA E ve2 48 vfe2) := keeps_at g146 k131 (by first | decide | omega | (dsimp only; omega))
  have k176 : w145[b + 12]? = some (iA E ve3 48 vfe3) := keeps_at g146 k132 (by first | decide | omega | (dsimp only; omega))
  have k177 : w145[b + 13]? = some (iA E ve4 48 vfe4) := keeps_at g146 k133 (by first | decide | omega | (dsimp only; omega))
  have k178 : w145[b + 14]? = some (iA E ve5 48 vfe5) := keeps_at g146 k134 (by first | decide | omega | (dsimp only; omega))
  have k179 : w145[b + 15]? = some (iA E ve6 48 vfe6) := keeps_at g146 k135 (by first | decide | omega | (dsimp only; omega))
  have k180 : w145[b + 16]? = some (ob vw 9 [.int 0, .ref vw1, .ref vw2, .ref vw3, .ref vw4, .ref vw5]) := keeps_at g146 k136 (by first | decide | omega | (dsimp only; omega))
  have k181 : w145[b + 17]? = some (iA E vw1 8 vfw1) := keeps_at g146 k137 (by first | decide | omega | (dsimp only; omega))
  have k182 : w145[b + 18]? = some (iA E vw2 8 vfw2) := keeps_at g146 k138 (by first | decide | omega | (dsimp only; omega))
  have k183 : w145[b + 19]? = some (iA E vw3 8 vfw3) := keeps_at g146 k139 (by first | decide | omega | (dsimp only; omega))
  have k184 : w145[b + 20]? = some (iA E vw4 8 vfw4) := keeps_at g146 k140 (by first | decide | omega | (dsimp only; omega))
  have k185 : w145[b + 21]? = some (iA E vw5 8 vfw5) := keeps_at g146 k141 (by first | decide | omega | (dsimp only; omega))
  have kp186 := keeps_tr kp142 g146 (fun q hq => by first | omega | (dsimp only at *; omega))
  refine x_aload_n C dX9_copyFrom_38 rfl 0 rfl rfl ?_
  refine x_get C (ci := 8) (k := 4) a k149 rfl in_X9 (by decide) w_206 rfl dX9_copyFrom_39 rfl ?_
  refine x_aload_n C dX9_copyFrom_42 rfl 1 rfl rfl ?_
  refine x_get C (ci := 8) (k := 4) b k164 rfl in_X9 (by decide) w_206 rfl dX9_copyFrom_43 rfl ?_
  refine x_vv C (As := [.ref ve]) (rest := []) (t_Eggs_copy E l w145 (a + 9) k151 (a + 10) k152 (a + 11) k153 (a + 12) k154 (a + 13) k155 (a + 14) k156 (a + 15) k157 (b + 9) k173 (b + 10) k174 (b + 11) k175 (b + 12) k176 (b + 13) k177 (b + 14) k178 (b + 15) k179 (by omega)) mf_X1_copyFrom w_804 (a + 9) k151 rfl rfl rfl (Nat.le_of_ble_eq_true rfl) ⟨(Nat.le_of_ble_eq_true rfl), (Nat.le_of_ble_eq_true rfl)⟩ ⟨(Nat.le_of_ble_eq_true rfl), (Nat.le_of_ble_eq_true rfl)⟩ dX9_copyFrom_46 rfl (fun w189 h187 => ?_)
  obtain ⟨g190, g191⟩ := h187
  have k193 : w189[a]? = some (ob ut 8 [.int d2, .int x2, .ref uh, .ref up, .ref ue, .ref uw, .int r1, .int r2, .int r3, .int r4]) := keeps_at g190 k149 (by first | decide | omega | (dsimp only; omega))
  have k194 : w189[a + 1]? = some (ob uh 2 [.int 0, .ref uh1, .ref uh2]) := keeps_at g190 k150 (by first | decide | omega | (dsimp only; omega))
  have k195 : w189[a + 4]? = some (ob up 4 [.int 0, .ref up1, .ref up2, .ref up3, .ref up4]) := keeps_at g190 g147 (by first | decide | omega | (dsimp only; omega))
  have k196 : w189[a + 16]? = some (ob uw 9 [.int 0, .ref uw1, .ref uw2, .ref uw3, .ref uw4, .ref uw5]) := keeps_at g190 k158 (by first | decide | omega | (dsimp only; omega))
  have k197 : w189[a + 17]? = some (iA E uw1 8 ufw1) := keeps_at g190 k159 (by first | decide | omega | (dsimp only; omega))
  have k198 : w189[a + 18]? = some (iA E uw2 8 ufw2) := keeps_at g190 k160 (by first | decide | omega | (dsimp only; omega))
  have k199 : w189[a + 19]? = some (iA E uw3 8 ufw3) := keeps_at g190 k161 (by first | decide | omega | (dsimp only; omega))
  have k200 : w189[a + 20]? = some (iA E uw4 8 ufw4) := keeps_at g190 k162 (by first | decide | omega | (dsimp only; omega))
  have k201 : w189[a + 21]? = some (iA E uw5 8 ufw5) := keeps_at g190 k163 (by first | decide | omega | (dsimp only; omega))
  have k202 : w189[b]? = some (ob vt 8 [.int d2, .int x2, .ref vh, .ref vp, .ref ve, .ref vw, .int r5, .int r6, .int r7, .int r8]) := keeps_at g190 k164 (by first | decide | omega | (dsimp only; omega))
  have k203 : w189[b + 1]? = some (ob vh 2 [.int 0, .ref vh1, .ref vh2]) := keeps_at g190 k165 (by first | decide | omega | (dsimp only; omega))
  have k204 : w189[b + 2]? = some (iA E vh1 8 vfh1) := keeps_at g190 k166 (by first | decide | omega | (dsimp only; omega))
  have k205 : w189[b + 3]? = some (iA E vh2 8 vfh2) := keeps_at g190 k167 (by first | decide | omega | (dsimp only; omega))
  have k206 : w189[b + 4]? = some (ob vp 4 [.int 0, .ref vp1, .ref vp2, .ref vp3, .ref vp4]) := keeps_at g190 k168 (by first | decide | omega | (dsimp only; omega))
  have k207 : w189[b + 5]? = some (iA E vp1 8 vfp1) := keeps_at g190 k169 (by first | decide | omega | (dsimp only; omega))
  have k208 : w189[b + 6]? = some (iA E vp2 8 vfp2) := keeps_at g190 k170 (by first | decide | omega | (dsimp only; omega))
  have k209 : w189[b + 7]? = some (iA E vp3 8 vfp3) := keeps_at g190 k171 (by first | decide | omega | (dsimp only; omega))
  have k210 : w189[b + 8]? = some (iA E vp4 8 vfp4) := keeps_at g190 k172 (by first | decide | omega | (dsimp only; omega))
  have k211 : w189[b + 9]? = some (ob ve 1 [.int 0, .ref ve1, .ref ve2, .ref ve3, .ref ve4, .ref ve5, .ref ve6]) := keeps_at g190 k173 (by first | decide | omega | (dsimp only; omega))
  have k212 : w189[b + 10]? = some (iA E ve1 48 vfe1) := keeps_at g190 k174 (by first | decide | omega | (dsimp only; omega))
  have k213 : w189[b + 11]? = some (iA E ve2 48 vfe2) := keeps_at g190 k175 (by first | decide | omega | (dsimp only; omega))
  have k214 : w189[b + 12]? = some (iA E ve3 48 vfe3) := keeps_at g190 k176 (by first | decide | omega | (dsimp only; omega))
  have k215 : w189[b + 13]? = some (iA E ve4 48 vfe4) := keeps_at g190 k177 (by first | decide | omega | (dsimp only; omega))
  have k216 : w189[b + 14]? = some (iA E ve5 48 vfe5) := keeps_at g190 k178 (by first | decide | omega | (dsimp only; omega))
  have k217 : w189[b + 15]? = some (iA E ve6 48 vfe6) := keeps_at g190 k179 (by first | decide | omega | (dsimp only; omega))
  have k218 : w189[b + 16]? = some (ob vw 9 [.int 0, .ref vw1, .ref vw2, .ref vw3, .ref vw4, .ref vw5]) := keeps_at g190 k180 (by first | decide | omega | (dsimp only; omega))
  have k219 : w189[b + 17]? = some (iA E vw1 8 vfw1) := keeps_at g190 k181 (by first | decide | omega | (dsimp only; omega))
  have k220 : w189[b + 18]? = some (iA E vw2 8 vfw2) := keeps_at g190 k182 (by first | decide | omega | (dsimp only; omega))
  have k221 : w189[b + 19]? = some (iA E vw3 8 vfw3) := keeps_at g190 k183 (by first | decide | omega | (dsimp only; omega))
  have k222 : w189[b + 20]? = some (iA E vw4 8 vfw4) := keeps_at g190 k184 (by first | decide | omega | (dsimp only; omega))
  have k223 : w189[b + 21]? = some (iA E vw5 8 vfw5) := keeps_at g190 k185 (by first | decide | omega | (dsimp only; omega))
  have kp224 := keeps_tr kp186 g190 (fun q hq => by first | omega | (dsimp only at *; omega))
  refine x_aload_n C dX9_copyFrom_49 rfl 0 rfl rfl ?_
  refine x_get C (ci := 8) (k := 5) a k193 rfl in_X9 (by decide) w_211 rfl dX9_copyFrom_50 rfl ?_
  refine x_aload_n C dX9_copyFrom_53 rfl 1 rfl rfl ?_
  refine x_get C (ci := 8) (k := 5) b k202 rfl in_X9 (by decide) w_211 rfl dX9_copyFrom_54 rfl ?_
  refine x_vv C (As := [.ref vw]) (rest := []) (t_Works_copy E l w189 (a + 16) k196 (a + 17) k197 (a + 18) k198 (a + 19) k199 (a + 20) k200 (a + 21) k201 (b + 16) k218 (b + 17) k219 (b + 18) k220 (b + 19) k221 (b + 20) k222 (b + 21) k223 (by omega)) mf_X10_copyFrom w_809 (a + 16) k196 rfl rfl rfl (Nat.le_of_ble_eq_true rfl) ⟨(Nat.le_of_ble_eq_true rfl), (Nat.le_of_ble_eq_true rfl)⟩ ⟨(Nat.le_of_ble_eq_true rfl), (Nat.le_of_ble_eq_true rfl)⟩ dX9_copyFrom_57 rfl (fun w227 h225 => ?_)
  obtain ⟨g228, g229⟩ := h225
  have k231 : w227[a]? = some (ob ut 8 [.int d2, .int x2, .ref uh, .ref up, .ref ue, .ref uw, .int r1, .int r2, .int r3, .int r4]) := keeps_at g228 k193 (by first | decide | omega | (dsimp only; omega))
  have k232 : w227[a + 1]? = some (ob uh 2 [.int 0, .ref uh1, .ref uh2]) := keeps_at g228 k194 (by first | decide | omega | (dsimp only; omega))
  have k233 : w227[a + 4]? = some (ob up 4 [.int 0, .ref up1, .ref up2, .ref up3, .ref up4]) := keeps_at g228 k195 (by first | decide | omega | (dsimp only; omega))
  have k234 : w227[a + 9]? = some (ob ue 1 [.int 0, .ref ue1, .ref ue2, .ref ue3, .ref ue4, .ref ue5, .ref ue6]) := keeps_at g228 g191 (by first | decide | omega | (dsimp only; omega))
  have k235 : w227[b]? = some (ob vt 8 [.int d2, .int x2, .ref vh, .ref vp, .ref ve, .ref vw, .int r5, .int r6, .int r7, .int r8]) := keeps_at g228 k202 (by first | decide | omega | (dsimp only; omega))
  have k236 : w227[b + 1]? = some (ob vh 2 [.int 0, .ref vh1, .ref vh2]) := keeps_at g228 k203 (by first | decide | omega | (dsimp only; omega))
  have k237 : w227[b + 2]? = some (iA E vh1 8 vfh1) := keeps_at g228 k204 (by first | decide | omega | (dsimp only; omega))
  have k238 : w227[b + 3]? = some (iA E vh2 8 vfh2) := keeps_at g228 k205 (by first | decide | omega | (dsimp only; omega))
  have k239 : w227[b + 4]? = some (ob vp 4 [.int 0, .ref vp1, .ref vp2, .ref vp3, .ref vp4]) := keeps_at g228 k206 (by first | decide | omega | (dsimp only; omega))
  have k240 : w227[b + 5]? = some (iA E vp1 8 vfp1) := keeps_at g228 k207 (by first | decide | omega | (dsimp only; omega))
  have k241 : w227[b + 6]? = some (iA E vp2 8 vfp2) := keeps_at g228 k208 (by first | decide | omega | (dsimp only; omega))
  have k242 : w227[b + 7]? = some (iA E vp3 8 vfp3) := keeps_at g228 k209 (by first | decide | omega | (dsimp only; omega))
  have k243 : w227[b + 8]? = some (iA E vp4 8 vfp4) := keeps_at g228 k210 (by first | decide | omega | (dsimp only; omega))
  have k244 : w227[b + 9]? = some (ob ve 1 [.int 0, .ref ve1, .ref ve2, .ref ve3, .ref ve4, .ref ve5, .ref ve6]) := keeps_at g228 k211 (by first | decide | omega | (dsimp only; omega))
  have k245 : w227[b + 10]? = some (iA E ve1 48 vfe1) := keeps_at g228 k212 (by first | decide | omega | (dsimp only; omega))
  have k246 : w227[b + 11]? = some (iA E ve2 48 vfe2) := keeps_at g228 k213 (by first | decide | omega | (dsimp only; omega))
  have k247 : w227[b + 12]? = some (iA E ve3 48 vfe3) := keeps_at g228 k214 (by first | decide | omega | (dsimp only; omega))
  have k248 : w227[b + 13]? = some (iA E ve4 48 vfe4) := keeps_at g228 k215 (by first | decide | omega | (dsimp only; omega))
  have k249 : w227[b + 14]? = some (iA E ve5 48 vfe5) := keeps_at g228 k216 (by first | decide | omega | (dsimp only; omega))
  have k250 : w227[b + 15]? = some (iA E ve6 48 vfe6) := keeps_at g228 k217 (by first | decide | omega | (dsimp only; omega))
  have k251 : w227[b + 16]? = some (ob vw 9 [.int 0, .ref vw1, .ref vw2, .ref vw3, .ref vw4, .ref vw5]) := keeps_at g228 k218 (by first | decide | omega | (dsimp only; omega))
  have k252 : w227[b + 17]? = some (iA E vw1 8 vfw1) := keeps_at g228 k219 (by first | decide | omega | (dsimp only; omega))
  have k253 : w227[b + 18]? = some (iA E vw2 8 vfw2) := keeps_at g228 k220 (by first | decide | omega | (dsimp only; omega))
  have k254 : w227[b + 19]? = some (iA E vw3 8 vfw3) := keeps_at g228 k221 (by first | decide | omega | (dsimp only; omega))
  have k255 : w227[b + 20]? = some (iA E vw4 8 vfw4) := keeps_at g228 k222 (by first | decide | omega | (dsimp only; omega))
  have k256 : w227[b + 21]? = some (iA E vw5 8 vfw5) := keeps_at g228 k223 (by first | decide | omega | (dsimp only; omega))
  have kp257 := keeps_tr kp224 g228 (fun q hq => by first | omega | (dsimp only at *; omega))
  exact x_vret C hr hlk dX9_copyFrom_60 ⟨kp257, k231, k232, k234⟩
end
section
theorem dX9_passDay_0 : decode cX9_passDay 0 = .ok (.aload_n 0, 1) := by decide +kernel
theorem dX9_passDay_1 : decode cX9_passDay 1 = .ok (.getfield 9, 3) := by decide +kernel
theorem dX9_passDay_4 : decode cX9_passDay 4 = .ok (.sipush 9999, 3) := by decide +kernel
theorem dX9_passDay_7 : decode cX9_passDay 7 = .ok (.if_icmp .lt 5, 3) := by decide +kernel
theorem dX9_passDay_12 : decode cX9_passDay 12 = .ok (.iconst 0, 1) := by decide +kernel
theorem dX9_passDay_13 : decode cX9_passDay 13 = .ok (.istore_n 2, 1) := by decide +kernel
theorem dX9_passDay_14 : decode cX9_passDay 14 = .ok (.iload_n 2, 1) := by decide +kernel
theorem dX9_passDay_15 : decode cX9_passDay 15 = .ok (.bipush 8, 2) := by decide +kernel
theorem dX9_passDay_17 : decode cX9_passDay 17 = .ok (.if_icmp .ge 26, 3) := by decide +kernel
theorem dX9_passDay_20 : decode cX9_passDay 20 = .ok (.aload_n 0, 1) := by decide +kernel
theorem dX9_passDay_21 : decode cX9_passDay 21 = .ok (.getfield 21, 3) := by decide +kernel
theorem dX9_passDay_24 : decode cX9_passDay 24 = .ok (.iload_n 2, 1) := by decide +kernel
theorem dX9_passDay_25 : decode cX9_passDay 25 = .ok (.invokevirtual 75, 3) := by decide +kernel
theorem dX9_passDay_28 : decode cX9_passDay 28 = .ok (.ifCond .eq 9, 3) := by decide +kernel
theorem dX9_passDay_37 : decode cX9_passDay 37 = .ok (.iinc 2 1, 3) := by decide +kernel
theorem dX9_passDay_40 : decode cX9_passDay 40 = .ok (.goto (-26), 3) := by decide +kernel
theorem dX9_passDay_43 : decode cX9_passDay 43 = .ok (.iconst 0, 1) := by decide +kernel
theorem dX9_passDay_44 : decode cX9_passDay 44 = .ok (.istore_n 2, 1) := by decide +kernel
theorem dX9_passDay_45 : decode cX9_passDay 45 = .ok (.iload_n 2, 1) := by decide +kernel
theorem dX9_passDay_46 : decode cX9_passDay 46 = .ok (.aload_n 0, 1) := by decide +kernel
theorem dX9_passDay_47 : decode cX9_passDay 47 = .ok (.getfield 35, 3) := by decide +kernel
theorem dX9_passDay_50 : decode cX9_passDay 50 = .ok (.getfield 83, 3) := by decide +kernel
theorem dX9_passDay_53 : decode cX9_passDay 53 = .ok (.if_icmp .ge 26, 3) := by decide +kernel
theorem dX9_passDay_79 : decode cX9_passDay 79 = .ok (.aload_n 0, 1) := by decide +kernel
theorem dX9_passDay_80 : decode cX9_passDay 80 = .ok (.dup, 1) := by decide +kernel
theorem dX9_passDay_81 : decode cX9_passDay 81 = .ok (.getfield 9, 3) := by decide +kernel
theorem dX9_passDay_84 : decode cX9_passDay 84 = .ok (.iconst 1, 1) := by decide +kernel
theorem dX9_passDay_85 : decode cX9_passDay 85 = .ok (.iadd, 1) := by decide +kernel
theorem dX9_passDay_86 : decode cX9_passDay 86 = .ok (.putfield 9, 3) := by decide +kernel
theorem dX9_passDay_89 : decode cX9_passDay 89 = .ok (.iconst 1, 1) := by decide +kernel
theorem dX9_passDay_90 : decode cX9_passDay 90 = .ok (.ireturn, 1) := by decide +kernel
set_option maxRecDepth 20000 in
set_option maxHeartbeats 4000000 in
theorem t_passDay (E : xE) (l : Launch) (ws : va_W) {xn th tp te tw hk ho em el ey eo eb es lw : Nat} {day sx ra rb rc rd : Int32} (a : Nat) (k_0 : ws[a]? = some (ob xn 8 [.int day, .int sx, .ref th, .ref tp, .ref te, .ref tw, .int ra, .int rb, .int rc, .int rd])) (p_1 : Nat) (k_1 : ws[a + 1]? = some (ob th 2 [.int 0, .ref hk, .ref ho])) (p_2 : Nat) (k_2 : ws[a + 9]? = some (ob te 1 [.int 0, .ref em, .ref el, .ref ey, .ref eo, .ref eb, .ref es])) (hd : day < 9999) : xI E l yX9_passDay cX9_passDay 3 (some .boolean) 2 [.ref xn, .ref lw] ws (fun r w => r = 1 ∧ w = ws.set a (ob xn 8 [.int (day + 1), .int sx, .ref th, .ref tp, .ref te, .ref tw, .int ra, .int rb, .int rc, .int rd])) := by
  refine xI_start (lv := [(0, .ref xn), (1, .ref lw)]) RX9 (by decide) rfl (Nat.le_of_ble_eq_true rfl) rfl (fun p e s m below meth c A C hr hlk => ?_)
  refine x_aload_n C dX9_passDay_0 rfl 0 rfl rfl ?_
  refine x_get C (ci := 8) (k := 0) a k_0 rfl in_X9 (by decide) w_195 rfl dX9_passDay_1 rfl ?_
  refine x_sipush C (v := 9999) dX9_passDay_4 (by decide) rfl ?_
  refine x_icmp_lt C (tgt := 12) dX9_passDay_7 (by decide) rfl (fun _ => ?_) (fun h => absurd hd h)
  refine x_iconst C (v := 0) dX9_passDay_12 (by decide) rfl ?_
  refine x_istore_n C (lv' := [(2, .int 0), (0, .ref xn), (1, .ref lw)]) dX9_passDay_13 rfl (by decide) rfl rfl ?_
  refine x_iload_n C dX9_passDay_14 rfl 0 rfl rfl ?_
  refine x_bipush C (v := 8) dX9_passDay_15 (by decide) rfl ?_
  refine x_icmp_ge C (tgt := 43) dX9_passDay_17 (by decide) rfl (fun h => absurd h (by decide)) (fun _ => ?_)
  refine x_aload_n C dX9_passDay_20 rfl 1 rfl rfl ?_
  refine x_get C (ci := 8) (k := 2) a k_0 rfl in_X9 (by decide) w_200 rfl dX9_passDay_21 rfl ?_
  refine x_iload_n C dX9_passDay_24 rfl 0 rfl rfl ?_
  refine x_vi C (As := [.int 0]) (rest := []) (t_Hens_isTold0 E l ws (a + 1) k_1 0) mf_X2_isTold w_826 (a + 1) k_1 rfl rfl rfl (Nat.le_of_ble_eq_true rfl) ⟨(Nat.le_of_ble_eq_true rfl), (Nat.le_of_ble_eq_true rfl)⟩ ⟨(Nat.le_of_ble_eq_true rfl), (Nat.le_of_ble_eq_true rfl)⟩ dX9_passDay_25 rfl (fun r2 w3 h1 => ?_)
  obtain ⟨e4, g5⟩ := h1
  refine x_top e4 ?_
  refine x_ws g5 ?_
  refine x_if_eq C (tgt := 37) dX9_passDay_28 (by decide) rfl (fun _ => ?_) (fun h => absurd h (by decide))
  refine x_iinc C (v := 1) (lv' := [(2, .int 1), (0, .ref xn), (1, .ref lw)]) dX9_passDay_37 0 rfl (by decide) (by decide) rfl rfl ?_
  refine x_goto C (tgt := 14) dX9_passDay_40 (by decide) ?_
  refine x_iload_n C dX9_passDay_14 rfl 0 rfl rfl ?_
  refine x_bipush C (v := 8) dX9_passDay_15 (by decide) rfl ?_
  refine x_icmp_ge C (tgt := 43) dX9_passDay_17 (by decide) rfl (fun h => absurd h (by decide)) (fun _ => ?_)
  refine x_aload_n C dX9_passDay_20 rfl 1 rfl rfl ?_
  refine x_get C (ci := 8) (k := 2) a k_0 rfl in_X9 (by decide) w_200 rfl dX9_passDay_21 rfl ?_
  refine x_iload_n C dX9_passDay_24 rfl 0 rfl rfl ?_
  refine x_vi C (As := [.int 1]) (rest := []) (t_Hens_isTold0 E l ws (a + 1) k_1 1) mf_X2_isTold w_826 (a + 1) k_1 rfl rfl rfl (Nat.le_of_ble_eq_true rfl) ⟨(Nat.le_of_ble_eq_true rfl), (Nat.le_of_ble_eq_true rfl)⟩ ⟨(Nat.le_of_ble_eq_true rfl), (Nat.le_of_ble_eq_true rfl)⟩ dX9_passDay_25 rfl (fun r7 w8 h6 => ?_)
  obtain ⟨e9, g10⟩ := h6
  refine x_top e9 ?_
  refine x_ws g10 ?_
  refine x_if_eq C (tgt := 37) dX9_passDay_28 (by decide) rfl (fun _ => ?_) (fun h => absurd h (by decide))
  refine x_iinc C (v := 2) (lv' := [(2, .int 2), (0, .ref xn), (1, .ref lw)]) dX9_passDay_37 0 rfl (by decide) (by decide) rfl rfl ?_
  refine x_goto C (tgt := 14) dX9_passDay_40 (by decide) ?_
  refine x_iload_n C dX9_passDay_14 rfl 0 rfl rfl ?_
  refine x_bipush C (v := 8) dX9_passDay_15 (by decide) rfl ?_
  refine x_icmp_ge C (tgt := 43) dX9_passDay_17 (by decide) rfl (fun h => absurd h (by decide)) (fun _ => ?_)
  refine x_aload_n C dX9_passDay_20 rfl 1 rfl rfl ?_
  refine x_get C (ci := 8) (k := 2) a k_0 rfl in_X9 (by decide) w_200 rfl dX9_passDay_21 rfl ?_
  refine x_iload_n C dX9_passDay_24 rfl 0 rfl rfl ?_
  refine x_vi C (As := [.int 2]) (rest := []) (t_Hens_isTold0 E l ws (a + 1) k_1 2) mf_X2_isTold w_826 (a + 1) k_1 rfl rfl rfl (Nat.le_of_ble_eq_true rfl) ⟨(Nat.le_of_ble_eq_true rfl), (Nat.le_of_ble_eq_true rfl)⟩ ⟨(Nat.le_of_ble_eq_true rfl), (Nat.le_of_ble_eq_true rfl)⟩ dX9_passDay_25 rfl (fun r12 w13 h11 => ?_)
  obtain ⟨e14, g15⟩ := h11
  refine x_top e14 ?_
  refine x_ws g15 ?_
  refine x_if_eq C (tgt := 37) dX9_passDay_28 (by decide) rfl (fun _ => ?_) (fun h => absurd h (by decide))
  refine x_iinc C (v := 3) (lv' := [(2, .int 3), (0, .ref xn), (1, .ref lw)]) dX9_passDay_37 0 rfl (by decide) (by decide) rfl rfl ?_
  refine x_goto C (tgt := 14) dX9_passDay_40 (by decide) ?_
  refine x_iload_n C dX9_passDay_14 rfl 0 rfl rfl ?_
  refine x_bipush C (v := 8) dX9_passDay_15 (by decide) rfl ?_
  refine x_icmp_ge C (tgt := 43) dX9_passDay_17 (by decide) rfl (fun h => absurd h (by decide)) (fun _ => ?_)
  refine x_aload_n C dX9_passDay_20 rfl 1 rfl rfl ?_
  refine x_get C (ci := 8) (k := 2) a k_0 rfl in_X9 (by decide) w_200 rfl dX9_passDay_21 rfl ?_
  refine x_iload_n C dX9_passDay_24 rfl 0 rfl rfl ?_
  refine x_vi C (As := [.int 3]) (rest := []) (t_Hens_isTold0 E l ws (a + 1) k_1 3) mf_X2_isTold w_826 (a + 1) k_1 rfl rfl rfl (Nat.le_of_ble_eq_true rfl) ⟨(Nat.le_of_ble_eq_true rfl), (Nat.le_of_ble_eq_true rfl)⟩ ⟨(Nat.le_of_ble_eq_true rfl), (Nat.le_of_ble_eq_true rfl)⟩ dX9_passDay_25 rfl (fun r17 w18 h16 => ?_)
  obtain ⟨e19, g20⟩ := h16
  refine x_top e19 ?_
  refine x_ws g20 ?_
  refine x_if_eq C (tgt := 37) dX9_passDay_28 (by decide) rfl (fun _ => ?_) (fun h => absurd h (by decide))
  refine x_iinc C (v := 4) (lv' := [(2, .int 4), (0, .ref xn), (1, .ref lw)]) dX9_passDay_37 0 rfl (by decide) (by decide) rfl rfl ?_
  refine x_goto C (tgt := 14) dX9_passDay_40 (by decide) ?_
  refine x_iload_n C dX9_passDay_14 rfl 0 rfl rfl ?_
  refine x_bipush C (v := 8) dX9_passDay_15 (by decide) rfl ?_
  refine x_icmp_ge C (tgt := 43) dX9_passDay_17 (by decide) rfl (fun h => absurd h (by decide)) (fun _ => ?_)
  refine x_aload_n C dX9_passDay_20 rfl 1 rfl rfl ?_
  refine x_get C (ci := 8) (k := 2) a k_0 rfl in_X9 (by decide) w_200 rfl dX9_passDay_21 rfl ?_
  refine x_iload_n C dX9_passDay_24 rfl 0 rfl rfl ?_
  refine x_vi C (As := [.int 4]) (rest := []) (t_Hens_isTold0 E l ws (a + 1) k_1 4) mf_X2_isTold w_826 (a + 1) k_1 rfl rfl rfl (Nat.le_of_ble_eq_true rfl) ⟨(Nat.le_of_ble_eq_true rfl), (Nat.le_of_ble_eq_true rfl)⟩ ⟨(Nat.le_of_ble_eq_true rfl), (Nat.le_of_ble_eq_true rfl)⟩ dX9_passDay_25 rfl (fun r22 w23 h21 => ?_)
  obtain ⟨e24, g25⟩ := h21
  refine x_top e24 ?_
  refine x_ws g25 ?_
  refine x_if_eq C (tgt := 37) dX9_passDay_28 (by decide) rfl (fun _ => ?_) (fun h => absurd h (by decide))
  refine x_iinc C (v := 5) (lv' := [(2, .int 5), (0, .ref xn), (1, .ref lw)]) dX9_passDay_37 0 rfl (by decide) (by decide) rfl rfl ?_
  refine x_goto C (tgt := 14) dX9_passDay_40 (by decide) ?_
  refine x_iload_n C dX9_passDay_14 rfl 0 rfl rfl ?_
  refine x_bipush C (v := 8) dX9_passDay_15 (by decide) rfl ?_
  refine x_icmp_ge C (tgt := 43) dX9_passDay_17 (by decide) rfl (fun h => absurd h (by decide)) (fun _ => ?_)
  refine x_aload_n C dX9_passDay_20 rfl 1 rfl rfl ?_
  refine x_get C (ci := 8) (k := 2) a k_0 rfl in_X9 (by decide) w_200 rfl dX9_passDay_21 rfl ?_
  refine x_iload_n C dX9_passDay_24 rfl 0 rfl rfl ?_
  refine x_vi C (As := [.int 5]) (rest := []) (t_Hens_isTold0 E l ws (a + 1) k_1 5) mf_X2_isTold w_826 (a + 1) k_1 rfl rfl rfl (Nat.le_of_ble_eq_true rfl) ⟨(Nat.le_of_ble_eq_true rfl), (Nat.le_of_ble_eq_true rfl)⟩ ⟨(Nat.le_of_ble_eq_true rfl), (Nat.le_of_ble_eq_true rfl)⟩ dX9_passDay_25 rfl (fun r27 w28 h26 => ?_)
  obtain ⟨e29, g30⟩ := h26
  refine x_top e29 ?_
  refine x_ws g30 ?_
  refine x_if_eq C (tgt := 37) dX9_passDay_28 (by decide) rfl (fun _ => ?_) (fun h => absurd h (by decide))
  refine x_iinc C (v := 6) (lv' := [(2, .int 6), (0, .ref xn), (1, .ref lw)]) dX9_passDay_37 0 rfl (by decide) (by decide) rfl rfl ?_
  refine x_goto C (tgt := 14) dX9_passDay_40 (by decide) ?_
  refine x_iload_n C dX9_passDay_14 rfl 0 rfl rfl ?_
  refine x_bipush C (v := 8) dX9_passDay_15 (by decide) rfl ?_
  refine x_icmp_ge C (tgt := 43) dX9_passDay_17 (by decide) rfl (fun h => absurd h (by decide)) (fun _ => ?_)
  refine x_aload_n C dX9_passDay_20 rfl 1 rfl rfl ?_
  refine x_get C (ci := 8) (k := 2) a k_0 rfl in_X9 (by decide) w_200 rfl dX9_passDay_21 rfl ?_
  refine x_iload_n C dX9_passDay_24 rfl 0 rfl rfl ?_
  refine x_vi C (As := [.int 6]) (rest := []) (t_Hens_isTold0 E l ws (a + 1) k_1 6) mf_X2_isTold w_826 (a + 1) k_1 rfl rfl rfl (Nat.le_of_ble_eq_true rfl) ⟨(Nat.le_of_ble_eq_true rfl), (Nat.le_of_ble_eq_true rfl)⟩ ⟨(Nat.le_of_ble_eq_true rfl), (Nat.le_of_ble_eq_true rfl)⟩ dX9_passDay_25 rfl (fun r32 w33 h31 => ?_)
  obtain ⟨e34, g35⟩ := h31
  refine x_top e34 ?_
  refine x_ws g35 ?_
  refine x_if_eq C (tgt := 37) dX9_passDay_28 (by decide) rfl (fun _ => ?_) (fun h => absurd h (by decide))
  refine x_iinc C (v := 7) (lv' := [(2, .int 7), (0, .ref xn), (1, .ref lw)]) dX9_passDay_37 0 rfl (by decide) (by decide) rfl rfl ?_
  refine x_goto C (tgt := 14) dX9_passDay_40 (by decide) ?_
  refine x_iload_n C dX9_passDay_14 rfl 0 rfl rfl ?_
  refine x_bipush C (v := 8) dX9_passDay_15 (by decide) rfl ?_
  refine x_icmp_ge C (tgt := 43) dX9_passDay_17 (by decide) rfl (fun h => absurd h (by decide)) (fun _ => ?_)
  refine x_aload_n C dX9_passDay_20 rfl 1 rfl rfl ?_
  refine x_get C (ci := 8) (k := 2) a k_0 rfl in_X9 (by decide) w_200 rfl dX9_passDay_21 rfl ?_
  refine x_iload_n C dX9_passDay_24 rfl 0 rfl rfl ?_
  refine x_vi C (As := [.int 7]) (rest := []) (t_Hens_isTold0 E l ws (a + 1) k_1 7) mf_X2_isTold w_826 (a + 1) k_1 rfl rfl rfl (Nat.le_of_ble_eq_true rfl) ⟨(Nat.le_of_ble_eq_true rfl), (Nat.le_of_ble_eq_true rfl)⟩ ⟨(Nat.le_of_ble_eq_true rfl), (Nat.le_of_ble_eq_true rfl)⟩ dX9_passDay_25 rfl (fun r37 w38 h36 => ?_)
  obtain ⟨e39, g40⟩ := h36
  refine x_top e39 ?_
  refine x_ws g40 ?_
  refine x_if_eq C (tgt := 37) dX9_passDay_28 (by decide) rfl (fun _ => ?_) (fun h => absurd h (by decide))
  refine x_iinc C (v := 8) (lv' := [(2, .int 8), (0, .ref xn), (1, .ref lw)]) dX9_passDay_37 0 rfl (by decide) (by decide) rfl rfl ?_
  refine x_goto C (tgt := 14) dX9_passDay_40 (by decide) ?_
  refine x_iload_n C dX9_passDay_14 rfl 0 rfl rfl ?_
  refine x_bipush C (v := 8) dX9_passDay_15 (by decide) rfl ?_
  refine x_icmp_ge C (tgt := 43) dX9_passDay_17 (by decide) rfl (fun _ => ?_) (fun h => absurd h (by decide))
  refine x_iconst C (v := 0) dX9_passDay_43 (by decide) rfl ?_
  refine x_istore_n C (lv' := [(2, .int 0), (0, .ref xn), (1, .ref lw)]) dX9_passDay_44 rfl (by decide) rfl rfl ?_
  refine x_iload_n C dX9_passDay_45 rfl 0 rfl rfl ?_
  refine x_aload_n C dX9_passDay_46 rfl 1 rfl rfl ?_
  refine x_get C (ci := 8) (k := 4) a k_0 rfl in_X9 (by decide) w_206 rfl dX9_passDay_47 rfl ?_
  refine x_get C (ci := 1) (k := 0) (a + 9) k_2 rfl in_X1 (by decide) w_121 rfl dX9_passDay_50 rfl ?_
  refine x_icmp_ge C (tgt := 79) dX9_passDay_53 (by decide) rfl (fun _ => ?_) (fun h => absurd h (by decide))
  refine x_aload_n C dX9_passDay_79 rfl 1 rfl rfl ?_
  refine x_dup C dX9_passDay_80 rfl rfl ?_
  refine x_get C (ci := 8) (k := 0) a k_0 rfl in_X9 (by decide) w_195 rfl dX9_passDay_81 rfl ?_
  refine x_iconst C (v := 1) dX9_passDay_84 (by decide) rfl ?_
  refine x_iadd C (v := (day + (1 : Int32))) dX9_passDay_85 rfl rfl ?_
  obtain ⟨w41, hw42⟩ : ∃ w : va_W, w = List.set ws a (ob xn 8 [.int (day + (1 : Int32)), .int sx, .ref th, .ref tp, .ref te, .ref tw, .int ra, .int rb, .int rc, .int rd]) := ⟨_, rfl⟩
  refine x_put C (ci := 8) (k := 0) (ty := .int) a k_0 rfl in_X9 tyX9 tyX9_ok nmX9 (by decide) w_195 rfl rfl rfl rfl (Nat.le_of_ble_eq_true rfl) hw42.symm dX9_passDay_86 rfl ?_
  have k43 : w41[a]? = some (ob xn 8 [.int (day + (1 : Int32)), .int sx, .ref th, .ref tp, .ref te, .ref tw, .int ra, .int rb, .int rc, .int rd]) := by rw [hw42]; exact set_eq k_0
  have k44 : w41[a + 1]? = some (ob th 2 [.int 0, .ref hk, .ref ho]) := by rw [hw42]; exact set_ne k_1 (by omega)
  have k45 : w41[a + 9]? = some (ob te 1 [.int 0, .ref em, .ref el, .ref ey, .ref eo, .ref eb, .ref es]) := by rw [hw42]; exact set_ne k_2 (by omega)
  refine x_iconst C (v := 1) dX9_passDay_89 (by decide) rfl ?_
  exact x_zret C hr hlk rfl dX9_passDay_90 ⟨by first | rfl | (simp [bI]; done) | (simp_all [bI]; done), (by rw [hw42])⟩
theorem dX9_passDays_0 : decode cX9_passDays 0 = .ok (.aload_n 0, 1) := by decide +kernel
theorem dX9_passDays_1 : decode cX9_passDays 1 = .ok (.iconst 0, 1) := by decide +kernel
theorem dX9_passDays_2 : decode cX9_passDays 2 = .ok (.putfield 46, 3) := by decide +kernel
theorem dX9_passDays_5 : decode cX9_passDays 5 = .ok (.aload_n 0, 1) := by decide +kernel
theorem dX9_passDays_6 : decode cX9_passDays 6 = .ok (.iconst 0, 1) := by decide +kernel
theorem dX9_passDays_7 : decode cX9_passDays 7 = .ok (.putfield 49, 3) := by decide +kernel
theorem dX9_passDays_10 : decode cX9_passDays 10 = .ok (.aload_n 0, 1) := by decide +kernel
theorem dX9_passDays_11 : decode cX9_passDays 11 = .ok (.iconst 0, 1) := by decide +kernel
theorem dX9_passDays_12 : decode cX9_passDays 12 = .ok (.putfield 52, 3) := by decide +kernel
theorem dX9_passDays_15 : decode cX9_passDays 15 = .ok (.aload_n 0, 1) := by decide +kernel
theorem dX9_passDays_16 : decode cX9_passDays 16 = .ok (.iconst 0, 1) := by decide +kernel
theorem dX9_passDays_17 : decode cX9_passDays 17 = .ok (.putfield 55, 3) := by decide +kernel
theorem dX9_passDays_20 : decode cX9_passDays 20 = .ok (.iconst 0, 1) := by decide +kernel
theorem dX9_passDays_21 : decode cX9_passDays 21 = .ok (.istore_n 3, 1) := by decide +kernel
theorem dX9_passDays_22 : decode cX9_passDays 22 = .ok (.iload_n 3, 1) := by decide +kernel
theorem dX9_passDays_23 : decode cX9_passDays 23 = .ok (.iload_n 1, 1) := by decide +kernel
theorem dX9_passDays_24 : decode cX9_passDays 24 = .ok (.if_icmp .ge 18, 3) := by decide +kernel
theorem dX9_passDays_27 : decode cX9_passDays 27 = .ok (.aload_n 0, 1) := by decide +kernel
theorem dX9_passDays_28 : decode cX9_passDays 28 = .ok (.aload_n 2, 1) := by decide +kernel
theorem dX9_passDays_29 : decode cX9_passDays 29 = .ok (.invokevirtual 71, 3) := by decide +kernel
theorem dX9_passDays_32 : decode cX9_passDays 32 = .ok (.ifCond .ne 4, 3) := by decide +kernel
theorem dX9_passDays_36 : decode cX9_passDays 36 = .ok (.iinc 3 1, 3) := by decide +kernel
theorem dX9_passDays_39 : decode cX9_passDays 39 = .ok (.goto (-17), 3) := by decide +kernel
theorem dX9_passDays_42 : decode cX9_passDays 42 = .ok (.return_, 1) := by decide +kernel
set_option maxRecDepth 20000 in
set_option maxHeartbeats 4000000 in
theorem t_passDays (E : xE) (l : Launch) (ws : va_W) {xn th tp te tw hk ho em el ey eo eb es lw : Nat} {sx ra rb rc rd : Int32} (a : Nat) (k_0 : ws[a]? = some (ob xn 8 [.int 0, .int sx, .ref th, .ref tp, .ref te, .ref tw, .int ra, .int rb, .int rc, .int rd])) (p_1 : Nat) (k_1 : ws[a + 1]? = some (ob th 2 [.int 0, .ref hk, .ref ho])) (p_2 : Nat) (k_2 : ws[a + 9]? = some (ob te 1 [.int 0, .ref em, .ref el, .ref ey, .ref eo, .ref eb, .ref es])) (j : Nat) (hj : j ≤ 60) : xV E l yX9_passDays cX9_passDays 4 3 0 0 [.ref xn, .int (nI j), .ref lw] ws (fun w => keeps ws w (fun q => q = a) ∧ ∃ dd : Int32, w[a]? = some (ob xn 8 [.int dd, .int sx, .ref th, .ref tp, .ref te, .ref tw, .int 0, .int 0, .int 0, .int 0])) := by
  refine xV_start (lv := [(0, .ref xn), (1, .int (nI j)), (2, .ref lw)]) RX9 (by decide) rfl (Nat.le_of_ble_eq_true rfl) rfl (fun p e s m below meth c A C hr hlk hin => ?_)
  have kp0 : keeps ws ws (fun q => q = a) := keeps_rf
  refine x_aload_n C dX9_passDays_0 rfl 0 rfl rfl ?_
  refine x_iconst C (v := 0) dX9_passDays_1 (by decide) rfl ?_
  obtain ⟨w1, hw2⟩ : ∃ w : va_W, w = List.set ws a (ob xn 8 [.int 0, .int sx, .ref th, .ref tp, .ref te, .ref tw, .int 0, .int rb, .int rc, .int rd]) := ⟨_, rfl⟩
  refine x_put C (ci := 8) (k := 6) (ty := .int) a k_0 rfl in_X9 tyX9 tyX9_ok nmX9 (by decide) w_215 rfl rfl rfl rfl (Nat.le_of_ble_eq_true rfl) hw2.symm dX9_passDays_2 rfl ?_
  have k3 : w1[a]? = some (ob xn 8 [.int 0, .int sx, .ref th, .ref tp, .ref te, .ref tw, .int 0, .int rb, .int rc, .int rd]) := by rw [hw2]; exact set_eq k_0
  have k4 : w1[a + 1]? = some (ob th 2 [.int 0, .ref hk, .ref ho]) := by rw [hw2]; exact set_ne k_1 (by omega)
  have k5 : w1[a + 9]? = some (ob te 1 [.int 0, .ref em, .ref el, .ref ey, .ref eo, .ref eb, .ref es]) := by rw [hw2]; exact set_ne k_2 (by omega)
  have kp6 := keeps_set kp0 hw2 (by first | exact rfl | decide | omega | (dsimp only; omega))
  refine x_aload_n C dX9_passDays_5 rfl 0 rfl rfl ?_
  refine x_iconst C (v := 0) dX9_passDays_6 (by decide) rfl ?_
  obtain ⟨w7, hw8⟩ : ∃ w : va_W, w = List.set w1 a (ob xn 8 [.int 0, .int sx, .ref th, .ref tp, .ref te, .ref tw, .int 0, .int 0, .int rc, .int rd]) := ⟨_, rfl⟩
  refine x_put C (ci := 8) (k := 7) (ty := .int) a k3 rfl in_X9 tyX9 tyX9_ok nmX9 (by decide) w_217 rfl rfl rfl rfl (Nat.le_of_ble_eq_true rfl) hw8.symm dX9_passDays_7 rfl ?_
  have k9 : w7[a]? = some (ob xn 8 [.int 0, .int sx, .ref th, .ref tp, .ref te, .ref tw, .int 0, .int 0, .int rc, .int rd]) := by rw [hw8]; exact set_eq k3
  have k10 : w7[a + 1]? = some (ob th 2 [.int 0, .ref hk, .ref ho]) := by rw [hw8]; exact set_ne k4 (by omega)
  have k11 : w7[a + 9]? = some (ob te 1 [.int 0, .ref em, .ref el, .ref ey, .ref eo, .ref eb, .ref es]) := by rw [hw8]; exact set_ne k5 (by omega)
  have kp12 := keeps_set kp6 hw8 (by first | exact rfl | decide | omega | (dsimp only; omega))
  refine x_aload_n C dX9_passDays_10 rfl 0 rfl rfl ?_
  refine x_iconst C (v := 0) dX9_passDays_11 (by decide) rfl ?_
  obtain ⟨w13, hw14⟩ : ∃ w : va_W, w = List.set w7 a (ob xn 8 [.int 0, .int sx, .ref th, .ref tp, .ref te, .ref tw, .int 0, .int 0, .int 0, .int rd]) := ⟨_, rfl⟩
  refine x_put C (ci := 8) (k := 8) (ty := .int) a k9 rfl in_X9 tyX9 tyX9_ok nmX9 (by decide) w_219 rfl rfl rfl rfl (Nat.le_of_ble_eq_true rfl) hw14.symm dX9_passDays_12 rfl ?_
  have k15 : w13[a]? = some (ob xn 8 [.int 0, .int sx, .ref th, .ref tp, .ref te, .ref tw, .int 0, .int 0, .int 0, .int rd]) := by rw [hw14]; exact set_eq k9
  have k16 : w13[a + 1]? = some (ob th 2 [.int 0, .ref hk, .ref ho]) := by rw [hw14]; exact set_ne k10 (by omega)
  have k17 : w13[a + 9]? = some (ob te 1 [.int 0, .ref em, .ref el, .ref ey, .ref eo, .ref eb, .ref es]) := by rw [hw14]; exact set_ne k11 (by omega)
  have kp18 := keeps_set kp12 hw14 (by first | exact rfl | decide | omega | (dsimp only; omega))
  refine x_aload_n C dX9_passDays_15 rfl 0 rfl rfl ?_
  refine x_iconst C (v := 0) dX9_passDays_16 (by decide) rfl ?_
  obtain ⟨w19, hw20⟩ : ∃ w : va_W, w = List.set w13 a (ob xn 8 [.int 0, .int sx, .ref th, .ref tp, .ref te, .ref tw, .int 0, .int 0, .int 0, .int 0]) := ⟨_, rfl⟩
  refine x_put C (ci := 8) (k := 9) (ty := .int) a k15 rfl in_X9 tyX9 tyX9_ok nmX9 (by decide) w_221 rfl rfl rfl rfl (Nat.le_of_ble_eq_true rfl) hw20.symm dX9_passDays_17 rfl ?_
  have k21 : w19[a]? = some (ob xn 8 [.int 0, .int sx, .ref th, .ref tp, .ref te, .ref tw, .int 0, .int 0, .int 0, .int 0]) := by rw [hw20]; exact set_eq k15
  have k22 : w19[a + 1]? = some (ob th 2 [.int 0, .ref hk, .ref ho]) := by rw [hw20]; exact set_ne k16 (by omega)
  have k23 : w19[a + 9]? = some (ob te 1 [.int 0, .ref em, .ref el, .ref ey, .ref eo, .ref eb, .ref es]) := by rw [hw20]; exact set_ne k17 (by omega)
  have kp24 := keeps_set kp18 hw20 (by first | exact rfl | decide | omega | (dsimp only; omega))
  refine x_iconst C (v := 0) dX9_passDays_20 (by decide) rfl ?_
  refine x_istore_n C (lv' := [(3, .int 0), (0, .ref xn), (1, .int (nI j)), (2, .ref lw)]) dX9_passDays_21 rfl (by decide) rfl rfl ?_
  have loop : ∀ (n i : Nat) (w : va_W), i ≤ j → j - i < n → keeps ws w (fun q => q = a) → w[a]? = some (ob xn 8 [.int (nI i), .int sx, .ref th, .ref tp, .ref te, .ref tw, .int 0, .int 0, .int 0, .int 0]) → w[a + 1]? = some (ob th 2 [.int 0, .ref hk, .ref ho]) → w[a + 9]? = some (ob te 1 [.int 0, .ref em, .ref el, .ref ey, .ref eo, .ref eb, .ref es]) → X E p l e (xRm 3 0 0) s m ([.ref xn, .int (nI j), .ref lw] : List Value).toArray below meth c A 4 0 0 (MQ below (va_Qv (fun w => keeps ws w (fun q => q = a) ∧ ∃ dd : Int32, w[a]? = some (ob xn 8 [.int dd, .int sx, .ref th, .ref tp, .ref te, .ref tw, .int 0, .int 0, .int 0, .int 0])) (xB E A) A) ([.ref xn, .int (nI j), .ref lw] : List Value).toArray s 0 0 A) w 22 [(3, .int (nI i)), (0, .ref xn), (1, .int (nI j)), (2, .ref lw)] [] := by
    intro n
    induction n with
    | zero => intro i w _ h; omega
    | succ n ih =>
      intro i w h1 h2 kq m0 m1 m2
      refine x_iload_n C dX9_passDays_22 rfl 0 rfl rfl ?_
      refine x_iload_n C dX9_passDays_23 rfl 2 rfl rfl ?_
      refine x_icmp_ge C (tgt := 42) dX9_passDays_24 (by decide) rfl (fun c25 => ?_) (fun c25 => ?_)
      · skip
        exact x_vret C hr hlk dX9_passDays_42 ⟨kq, ⟨_, m0⟩⟩
      · skip
        have hlt : i + 1 ≤ j := by
          rcases Nat.lt_or_ge i j with q | q
          · exact q
          · exact absurd (nI_le q (by omega)) c25
        have hd : nI i < 9999 := nI_lt (b := 9999) (by omega) (by decide)
        refine x_aload_n C dX9_passDays_27 rfl 1 rfl rfl ?_
        refine x_aload_n C dX9_passDays_28 rfl 3 rfl rfl ?_
        refine x_vi C (As := [.ref lw]) (rest := []) (t_passDay E l w a m0 (a + 1) m1 (a + 9) m2 hd) mf_X9_passDay w_822 a m0 rfl rfl rfl (Nat.le_of_ble_eq_true rfl) ⟨(Nat.le_of_ble_eq_true rfl), (Nat.le_of_ble_eq_true rfl)⟩ ⟨(Nat.le_of_ble_eq_true rfl), (Nat.le_of_ble_eq_true rfl)⟩ dX9_passDays_29 rfl (fun r27 w28 h26 => ?_)
        obtain ⟨e29, g30⟩ := h26
        refine x_top e29 ?_
        have k31 : w28[a]? = some (ob xn 8 [.int ((nI i) + 1), .int sx, .ref th, .ref tp, .ref te, .ref tw, .int 0, .int 0, .int 0, .int 0]) := by rw [g30]; exact (set_eq m0)
        have k32 : w28[a + 1]? = some (ob th 2 [.int 0, .ref hk, .ref ho]) := by rw [g30]; exact (set_ne m1 (by omega))
        have k33 : w28[a + 9]? = some (ob te 1 [.int 0, .ref em, .ref el, .ref ey, .ref eo, .ref eb, .ref es]) := by rw [g30]; exact (set_ne m2 (by omega))
        have kp34 := keeps_set kq g30 (by first | exact rfl | decide | omega | (dsimp only; omega))
        refine x_if_ne C (tgt := 36) dX9_passDays_32 (by decide) rfl (fun _ => ?_) (fun h => absurd h (by decide))
        refine x_iinc C (v := ((nI i) + 1)) (lv' := [(3, .int ((nI i) + 1)), (0, .ref xn), (1, .int (nI j)), (2, .ref lw)]) dX9_passDays_36 0 rfl rfl (by decide) rfl rfl ?_
        refine x_goto C (tgt := 22) dX9_passDays_39 (by decide) ?_
        refine x_lv (lv1 := [(3, .int (nI i + 1)), (0, .ref xn), (1, .int (nI j)), (2, .ref lw)]) [0, 1, 2, 3] rfl ?_
        have ei : nI i + 1 = nI (i + 1) := nI_1 i
        rw [ei]
        exact ih (i + 1) w28 hlt (by omega) kp34 (by rw [← ei]; exact k31) k32 k33
  exact loop (j + 1) 0 w19 (Nat.zero_le _) (by omega) kp24 k21 k22 k23
theorem dX11_days_0 : decode cX11_days 0 = .ok (.iload_n 1, 1) := by decide +kernel
theorem dX11_days_1 : decode cX11_days 1 = .ok (.iconst 1, 1) := by decide +kernel
theorem dX11_days_2 : decode cX11_days 2 = .ok (.bipush 60, 2) := by decide +kernel
theorem dX11_days_4 : decode cX11_days 4 = .ok (.invokestatic 102, 3) := by decide +kernel
theorem dX11_days_7 : decode cX11_days 7 = .ok (.ifCond .ne 5, 3) := by decide +kernel
theorem dX11_days_10 : decode cX11_days 10 = .ok (.iconst (-1), 1) := by decide +kernel
theorem dX11_days_11 : decode cX11_days 11 = .ok (.ireturn, 1) := by decide +kernel
theorem dX11_days_12 : decode cX11_days 12 = .ok (.aload_n 0, 1) := by decide +kernel
theorem dX11_days_13 : decode cX11_days 13 = .ok (.getfield 22, 3) := by decide +kernel
theorem dX11_days_16 : decode cX11_days 16 = .ok (.iload_n 1, 1) := by decide +kernel
theorem dX11_days_17 : decode cX11_days 17 = .ok (.aload_n 0, 1) := by decide +kernel
theorem dX11_days_18 : decode cX11_days 18 = .ok (.getfield 39, 3) := by decide +kernel
theorem dX11_days_21 : decode cX11_days 21 = .ok (.invokevirtual 187, 3) := by decide +kernel
theorem dX11_days_24 : decode cX11_days 24 = .ok (.aload_n 0, 1) := by decide +kernel
theorem dX11_days_25 : decode cX11_days 25 = .ok (.getfield 22, 3) := by decide +kernel
theorem dX11_days_28 : decode cX11_days 28 = .ok (.getfield 191, 3) := by decide +kernel
theorem dX11_days_31 : decode cX11_days 31 = .ok (.ireturn, 1) := by decide +kernel
set_option maxRecDepth 20000 in
set_option maxHeartbeats 4000000 in
theorem t_days (E : xE) (l : Launch) (ws : va_W) {x xt xk xn xp xtr xr xs xl xpl xse ah ald arm ahr ash arw abr aw th tp te tw hk ho em el ey eo eb es : Nat} (p_0 : Nat) (k_0 : ws[0]? = some (ob x 10 [.ref xt, .ref xk, .ref xn, .ref xp, .ref xtr, .int 0, .ref xr, .ref xs, .ref xl, .ref xpl, .ref xse, .ref ah, .ref ald, .ref arm, .ref ahr, .ref ash, .ref arw, .ref abr, .ref aw])) (p_1 : Nat) (k_1 : ws[5]? = some (ob xn 8 [.int 0, .int 1, .ref th, .ref tp, .ref te, .ref tw, .int 0, .int 0, .int 0, .int 0])) (p_2 : Nat) (k_2 : ws[6]? = some (ob th 2 [.int 0, .ref hk, .ref ho])) (p_3 : Nat) (k_3 : ws[14]? = some (ob te 1 [.int 0, .ref em, .ref el, .ref ey, .ref eo, .ref eb, .ref es])) (n : Int32) : xI E l yX11_days cX11_days 2 (some .int) 4 [.ref x, .int n] ws (fun r w => r = if wth n 1 60 then 0 else -1) := by
  refine xI_start (lv := [(0, .ref x), (1, .int n)]) RX11 (by decide) rfl (Nat.le_of_ble_eq_true rfl) rfl (fun p e s m below meth c A C hr hlk => ?_)
  refine x_iload_n C dX11_days_0 rfl 1 rfl rfl ?_
  refine x_iconst C (v := 1) dX11_days_1 (by decide) rfl ?_
  refine x_bipush C (v := 60) dX11_days_2 (by decide) rfl ?_
  refine x_si C (As := [.int n, .int 1, .int 60]) (rest := []) (t_isWithin E l ws n 1 60) mf_X11_isWithin w_462 rfl rfl (Nat.le_of_ble_eq_true rfl) ⟨(Nat.le_of_ble_eq_true rfl), (Nat.le_of_ble_eq_true rfl)⟩ ⟨(Nat.le_of_ble_eq_true rfl), (Nat.le_of_ble_eq_true rfl)⟩ dX11_days_4 rfl (fun r2 w3 h1 => ?_)
  obtain ⟨e4, g5⟩ := h1
  refine x_top e4 ?_
  refine x_ws g5 ?_
  refine x_if_ne C (tgt := 12) dX11_days_7 (by decide) rfl (fun c6 => ?_) (fun c6 => ?_)
  · skip
    have b7 := bI_n0 c6
    obtain ⟨j, hj1, hj, hjn⟩ := w_nat (a := 1) (b := 60) (by decide) (by decide) b7
    subst hjn
    refine x_aload_n C dX11_days_12 rfl 0 rfl rfl ?_
    refine x_get C (ci := 10) (k := 2) 0 k_0 rfl in_X11 (by decide) w_387 rfl dX11_days_13 rfl ?_
    refine x_iload_n C dX11_days_16 rfl 1 rfl rfl ?_
    refine x_aload_n C dX11_days_17 rfl 0 rfl rfl ?_
    refine x_get C (ci := 10) (k := 6) 0 k_0 rfl in_X11 (by decide) w_391 rfl dX11_days_18 rfl ?_
    refine x_vv C (As := [.int (nI j), .ref xr]) (rest := []) (t_passDays E l ws 5 k_1 6 k_2 14 k_3 j hj) mf_X9_passDays w_818 5 k_1 rfl rfl rfl (Nat.le_of_ble_eq_true rfl) ⟨(Nat.le_of_ble_eq_true rfl), (Nat.le_of_ble_eq_true rfl)⟩ ⟨(Nat.le_of_ble_eq_true rfl), (Nat.le_of_ble_eq_true rfl)⟩ dX11_days_21 rfl (fun w8 h9 => ?_)
    obtain ⟨kq10, dd11, k12⟩ := h9
    have k13 : w8[0]? = some (ob x 10 [.ref xt, .ref xk, .ref xn, .ref xp, .ref xtr, .int 0, .ref xr, .ref xs, .ref xl, .ref xpl, .ref xse, .ref ah, .ref ald, .ref arm, .ref ahr, .ref ash, .ref arw, .ref abr, .ref aw]) := keeps_at kq10 k_0 (by first | decide | omega | (dsimp only; omega))
    have k14 : w8[6]? = some (ob th 2 [.int 0, .ref hk, .ref ho]) := keeps_at kq10 k_2 (by first | decide | omega | (dsimp only; omega))
    have k15 : w8[14]? = some (ob te 1 [.int 0, .ref em, .ref el, .ref ey, .ref eo, .ref eb, .ref es]) := keeps_at kq10 k_3 (by first | decide | omega | (dsimp only; omega))
    refine x_aload_n C dX11_days_24 rfl 0 rfl rfl ?_
    refine x_get C (ci := 10) (k := 2) 0 k13 rfl in_X11 (by decide) w_387 rfl dX11_days_25 rfl ?_
    refine x_get C (ci := 8) (k := 6) 5 k12 rfl in_X9 (by decide) w_216 rfl dX11_days_28 rfl ?_
    exact x_zret C hr hlk rfl dX11_days_31 (by rw [if_pos b7])
  · skip
    have b16 := bI_e0 c6
    refine x_iconst C (v := (-1)) dX11_days_10 (by decide) rfl ?_
    exact x_zret C hr hlk rfl dX11_days_11 (by simp [b16])
theorem dX11_tried_0 : decode cX11_tried 0 = .ok (.iload_n 1, 1) := by decide +kernel
theorem dX11_tried_1 : decode cX11_tried 1 = .ok (.iconst 1, 1) := by decide +kernel
theorem dX11_tried_2 : decode cX11_tried 2 = .ok (.bipush 60, 2) := by decide +kernel
theorem dX11_tried_4 : decode cX11_tried 4 = .ok (.invokestatic 102, 3) := by decide +kernel
theorem dX11_tried_7 : decode cX11_tried 7 = .ok (.ifCond .eq 12, 3) := by decide +kernel
theorem dX11_tried_10 : decode cX11_tried 10 = .ok (.iload_n 2, 1) := by decide +kernel
theorem dX11_tried_11 : decode cX11_tried 11 = .ok (.iconst 0, 1) := by decide +kernel
theorem dX11_tried_12 : decode cX11_tried 12 = .ok (.iconst 4, 1) := by decide +kernel
theorem dX11_tried_13 : decode cX11_tried 13 = .ok (.invokestatic 102, 3) := by decide +kernel
theorem dX11_tried_16 : decode cX11_tried 16 = .ok (.ifCond .ne 5, 3) := by decide +kernel
theorem dX11_tried_19 : decode cX11_tried 19 = .ok (.iconst (-1), 1) := by decide +kernel
theorem dX11_tried_20 : decode cX11_tried 20 = .ok (.ireturn, 1) := by decide +kernel
theorem dX11_tried_21 : decode cX11_tried 21 = .ok (.aload_n 0, 1) := by decide +kernel
theorem dX11_tried_22 : decode cX11_tried 22 = .ok (.getfield 29, 3) := by decide +kernel
theorem dX11_tried_25 : decode cX11_tried 25 = .ok (.aload_n 0, 1) := by decide +kernel
theorem dX11_tried_26 : decode cX11_tried 26 = .ok (.getfield 22, 3) := by decide +kernel
theorem dX11_tried_29 : decode cX11_tried 29 = .ok (.invokevirtual 180, 3) := by decide +kernel
theorem dX11_tried_32 : decode cX11_tried 32 = .ok (.aload_n 0, 1) := by decide +kernel
theorem dX11_tried_33 : decode cX11_tried 33 = .ok (.getfield 29, 3) := by decide +kernel
theorem dX11_tried_36 : decode cX11_tried 36 = .ok (.iload_n 1, 1) := by decide +kernel
theorem dX11_tried_37 : decode cX11_tried 37 = .ok (.aload_n 0, 1) := by decide +kernel
theorem dX11_tried_38 : decode cX11_tried 38 = .ok (.getfield 39, 3) := by decide +kernel
theorem dX11_tried_41 : decode cX11_tried 41 = .ok (.invokevirtual 187, 3) := by decide +kernel
theorem dX11_tried_44 : decode cX11_tried 44 = .ok (.iload_n 2, 1) := by decide +kernel
theorem dX11_tried_45 : decode cX11_tried 45 = .ok (.tableswitch 63 0 3 #[31, 39, 47, 55], 31) := by decide +kernel
theorem dX11_tried_76 : decode cX11_tried 76 = .ok (.aload_n 0, 1) := by decide +kernel
theorem dX11_tried_77 : decode cX11_tried 77 = .ok (.getfield 29, 3) := by decide +kernel
theorem dX11_tried_80 : decode cX11_tried 80 = .ok (.getfield 191, 3) := by decide +kernel
theorem dX11_tried_83 : decode cX11_tried 83 = .ok (.ireturn, 1) := by decide +kernel
theorem dX11_tried_84 : decode cX11_tried 84 = .ok (.aload_n 0, 1) := by decide +kernel
theorem dX11_tried_85 : decode cX11_tried 85 = .ok (.getfield 29, 3) := by decide +kernel
theorem dX11_tried_88 : decode cX11_tried 88 = .ok (.getfield 194, 3) := by decide +kernel
theorem dX11_tried_91 : decode cX11_tried 91 = .ok (.ireturn, 1) := by decide +kernel
theorem dX11_tried_92 : decode cX11_tried 92 = .ok (.aload_n 0, 1) := by decide +kernel
theorem dX11_tried_93 : decode cX11_tried 93 = .ok (.getfield 29, 3) := by decide +kernel
theorem dX11_tried_96 : decode cX11_tried 96 = .ok (.getfield 197, 3) := by decide +kernel
theorem dX11_tried_99 : decode cX11_tried 99 = .ok (.ireturn, 1) := by decide +kernel
theorem dX11_tried_100 : decode cX11_tried 100 = .ok (.aload_n 0, 1) := by decide +kernel
theorem dX11_tried_101 : decode cX11_tried 101 = .ok (.getfield 29, 3) := by decide +kernel
theorem dX11_tried_104 : decode cX11_tried 104 = .ok (.getfield 200, 3) := by decide +kernel
theorem dX11_tried_107 : decode cX11_tried 107 = .ok (.ireturn, 1) := by decide +kernel
theorem dX11_tried_108 : decode cX11_tried 108 = .ok (.aload_n 0, 1) := by decide +kernel
theorem dX11_tried_109 : decode cX11_tried 109 = .ok (.getfield 29, 3) := by decide +kernel
theorem dX11_tried_112 : decode cX11_tried 112 = .ok (.getfield 132, 3) := by decide +kernel
theorem dX11_tried_115 : decode cX11_tried 115 = .ok (.iconst 0, 1) := by decide +kernel
theorem dX11_tried_116 : decode cX11_tried 116 = .ok (.invokevirtual 203, 3) := by decide +kernel
theorem dX11_tried_119 : decode cX11_tried 119 = .ok (.ireturn, 1) := by decide +kernel
set_option maxRecDepth 20000 in
set_option maxHeartbeats 4000000 in
theorem t_tried (E : xE) (l : Launch) (ws : va_W) {x xt xk xn xp xtr xr xs xl xpl xse ah ald arm ahr ash arw abr aw nh np ne nw nh1 nh2 np1 np2 np3 np4 ne1 ne2 ne3 ne4 ne5 ne6 nw1 nw2 nw3 nw4 nw5 rh rp re rw rh1 rh2 rp1 rp2 rp3 rp4 re1 re2 re3 re4 re5 re6 rw1 rw2 rw3 rw4 rw5 : Nat} {nfh1 nfh2 nfp1 nfp2 nfp3 nfp4 nfe1 nfe2 nfe3 nfe4 nfe5 nfe6 nfw1 nfw2 nfw3 nfw4 nfw5 rfh1 rfh2 rfp1 rfp2 rfp3 rfp4 rfe1 rfe2 rfe3 rfe4 rfe5 rfe6 rfw1 rfw2 rfw3 rfw4 rfw5 : Nat → Int32} (p_0 : Nat) (k_0 : ws[0]? = some (ob x 10 [.ref xt, .ref xk, .ref xn, .ref xp, .ref xtr, .int 0, .ref xr, .ref xs, .ref xl, .ref xpl, .ref xse, .ref ah, .ref ald, .ref arm, .ref ahr, .ref ash, .ref arw, .ref abr, .ref aw])) (p_1 : Nat) (k_1 : ws[5]? = some (ob xn 8 [.int 0, .int 1, .ref nh, .ref np, .ref ne, .ref nw, .int 0, .int 0, .int 0, .int 0])) (p_2 : Nat) (k_2 : ws[6]? = some (ob nh 2 [.int 0, .ref nh1, .ref nh2])) (p_3 : Nat) (k_3 : ws[7]? = some (iA E nh1 8 nfh1)) (p_4 : Nat) (k_4 : ws[8]? = some (iA E nh2 8 nfh2)) (p_5 : Nat) (k_5 : ws[9]? = some (ob np 4 [.int 0, .ref np1, .ref np2, .ref np3, .ref np4])) (p_6 : Nat) (k_6 : ws[10]? = some (iA E np1 8 nfp1)) (p_7 : Nat) (k_7 : ws[11]? = some (iA E np2 8 nfp2)) (p_8 : Nat) (k_8 : ws[12]? = some (iA E np3 8 nfp3)) (p_9 : Nat) (k_9 : ws[13]? = some (iA E np4 8 nfp4)) (p_10 : Nat) (k_10 : ws[14]? = some (ob ne 1 [.int 0, .ref ne1, .ref ne2, .ref ne3, .ref ne4, .ref ne5, .ref ne6])) (p_11 : Nat) (k_11 : ws[15]? = some (iA E ne1 48 nfe1)) (p_12 : Nat) (k_12 : ws[16]? = some (iA E ne2 48 nfe2)) (p_13 : Nat) (k_13 : ws[17]? = some (iA E ne3 48 nfe3)) (p_14 : Nat) (k_14 : ws[18]? = some (iA E ne4 48 nfe4)) (p_15 : Nat) (k_15 : ws[19]? = some (iA E ne5 48 nfe5)) (p_16 : Nat) (k_16 : ws[20]? = some (iA E ne6 48 nfe6)) (p_17 : Nat) (k_17 : ws[21]? = some (ob nw 9 [.int 0, .ref nw1, .ref nw2, .ref nw3, .ref nw4, .ref nw5])) (p_18 : Nat) (k_18 : ws[22]? = some (iA E nw1 8 nfw1)) (p_19 : Nat) (k_19 : ws[23]? = some (iA E nw2 8 nfw2)) (p_20 : Nat) (k_20 : ws[24]? = some (iA E nw3 8 nfw3)) (p_21 : Nat) (k_21 : ws[25]? = some (iA E nw4 8 nfw4)) (p_22 : Nat) (k_22 : ws[26]? = some (iA E nw5 8 nfw5)) (p_23 : Nat) (k_23 : ws[49]? = some (ob xtr 8 [.int 0, .int 1, .ref rh, .ref rp, .ref re, .ref rw, .int 0, .int 0, .int 0, .int 0])) (p_24 : Nat) (k_24 : ws[50]? = some (ob rh 2 [.int 0, .ref rh1, .ref rh2])) (p_25 : Nat) (k_25 : ws[51]? = some (iA E rh1 8 rfh1)) (p_26 : Nat) (k_26 : ws[52]? = some (iA E rh2 8 rfh2)) (p_27 : Nat) (k_27 : ws[53]? = some (ob rp 4 [.int 0, .ref rp1, .ref rp2, .ref rp3, .ref rp4])) (p_28 : Nat) (k_28 : ws[54]? = some (iA E rp1 8 rfp1)) (p_29 : Nat) (k_29 : ws[55]? = some (iA E rp2 8 rfp2)) (p_30 : Nat) (k_30 : ws[56]? = some (iA E rp3 8 rfp3)) (p_31 : Nat) (k_31 : ws[57]? = some (iA E rp4 8 rfp4)) (p_32 : Nat) (k_32 : ws[58]? = some (ob re 1 [.int 0, .ref re1, .ref re2, .ref re3, .ref re4, .ref re5, .ref re6])) (p_33 : Nat) (k_33 : ws[59]? = some (iA E re1 48 rfe1)) (p_34 : Nat) (k_34 : ws[60]? = some (iA E re2 48 rfe2)) (p_35 : Nat) (k_35 : ws[61]? = some (iA E re3 48 rfe3)) (p_36 : Nat) (k_36 : ws[62]? = some (iA E re4 48 rfe4)) (p_37 : Nat) (k_37 : ws[63]? = some (iA E re5 48 rfe5)) (p_38 : Nat) (k_38 : ws[64]? = some (iA E re6 48 rfe6)) (p_39 : Nat) (k_39 : ws[65]? = some (ob rw 9 [.int 0, .ref rw1, .ref rw2, .ref rw3, .ref rw4, .ref rw5])) (p_40 : Nat) (k_40 : ws[66]? = some (iA E rw1 8 rfw1)) (p_41 : Nat) (k_41 : ws[67]? = some (iA E rw2 8 rfw2)) (p_42 : Nat) (k_42 : ws[68]? = some (iA E rw3 8 rfw3)) (p_43 : Nat) (k_43 : ws[69]? = some (iA E rw4 8 rfw4)) (p_44 : Nat) (k_44 : ws[70]? = some (iA E rw5 8 rfw5)) (n wh : Int32) : xI E l yX11_tried cX11_tried 3 (some .int) 4 [.ref x, .int n, .int wh] ws (fun r w => r = if wth n 1 60 ∧ wth wh 0 4 then 0 else -1) := by
  refine xI_start (lv := [(0, .ref x), (1, .int n), (2, .int wh)]) RX11 (by decide) rfl (Nat.le_of_ble_eq_true rfl) rfl (fun p e s m below meth c A C hr hlk => ?_)
  refine x_iload_n C dX11_tried_0 rfl 1 rfl rfl ?_
  refine x_iconst C (v := 1) dX11_tried_1 (by decide) rfl ?_
  refine x_bipush C (v := 60) dX11_tried_2 (by decide) rfl ?_
  refine x_si C (As := [.int n, .int 1, .int 60]) (rest := []) (t_isWithin E l ws n 1 60) mf_X11_isWithin w_462 rfl rfl (Nat.le_of_ble_eq_true rfl) ⟨(Nat.le_of_ble_eq_true rfl), (Nat.le_of_ble_eq_true rfl)⟩ ⟨(Nat.le_of_ble_eq_true rfl), (Nat.le_of_ble_eq_true rfl)⟩ dX11_tried_4 rfl (fun r2 w3 h1 => ?_)
  obtain ⟨e4, g5⟩ := h1
  refine x_top e4 ?_
  refine x_ws g5 ?_
  refine x_if_eq C (tgt := 19) dX11_tried_7 (by decide) rfl (fun c6 => ?_) (fun c6 => ?_)
  · skip
    have b7 := bI_e0 c6
    refine x_iconst C (v := (-1)) dX11_tried_19 (by decide) rfl ?_
    exact x_zret C hr hlk rfl dX11_tried_20 (by simp [b7])
  · skip
    have b8 := bI_n0 c6
    refine x_iload_n C dX11_tried_10 rfl 2 rfl rfl ?_
    refine x_iconst C (v := 0) dX11_tried_11 (by decide) rfl ?_
    refine x_iconst C (v := 4) dX11_tried_12 (by decide) rfl ?_
    refine x_si C (As := [.int wh, .int 0, .int 4]) (rest := []) (t_isWithin E l ws wh 0 4) mf_X11_isWithin w_462 rfl rfl (Nat.le_of_ble_eq_true rfl) ⟨(Nat.le_of_ble_eq_true rfl), (Nat.le_of_ble_eq_true rfl)⟩ ⟨(Nat.le_of_ble_eq_true rfl), (Nat.le_of_ble_eq_true rfl)⟩ dX11_tried_13 rfl (fun r10 w11 h9 => ?_)
    obtain ⟨e12, g13⟩ := h9
    refine x_top e12 ?_
    refine x_ws g13 ?_
    refine x_if_ne C (tgt := 21) dX11_tried_16 (by decide) rfl (fun c14 => ?_) (fun c14 => ?_)
    · skip
      have b15 := bI_n0 c14
      obtain ⟨j, hj1, hj, hjn⟩ := w_nat (a := 1) (b := 60) (by decide) (by decide) b8
      subst hjn
      refine x_aload_n C dX11_tried_21 rfl 0 rfl rfl ?_
      refine x_get C (ci := 10) (k := 4) 0 k_0 rfl in_X11 (by decide) w_389 rfl dX11_tried_22 rfl ?_
      refine x_aload_n C dX11_tried_25 rfl 0 rfl rfl ?_
      refine x_get C (ci := 10) (k := 2) 0 k_0 rfl in_X11 (by decide) w_387 rfl dX11_tried_26 rfl ?_
      refine x_vv C (As := [.ref xn]) (rest := []) (t_Town_copy E l ws 49 k_23 50 k_24 51 k_25 52 k_26 53 k_27 54 k_28 55 k_29 56 k_30 57 k_31 58 k_32 59 k_33 60 k_34 61 k_35 62 k_36 63 k_37 64 k_38 65 k_39 66 k_40 67 k_41 68 k_42 69 k_43 70 k_44 5 k_1 6 k_2 7 k_3 8 k_4 9 k_5 10 k_6 11 k_7 12 k_8 13 k_9 14 k_10 15 k_11 16 k_12 17 k_13 18 k_14 19 k_15 20 k_16 21 k_17 22 k_18 23 k_19 24 k_20 25 k_21 26 k_22 (by omega)) mf_X9_copyFrom w_788 49 k_23 rfl rfl rfl (Nat.le_of_ble_eq_true rfl) ⟨(Nat.le_of_ble_eq_true rfl), (Nat.le_of_ble_eq_true rfl)⟩ ⟨(Nat.le_of_ble_eq_true rfl), (Nat.le_of_ble_eq_true rfl)⟩ dX11_tried_29 rfl (fun w18 h16 => ?_)
      obtain ⟨g19, g20, g21, g22⟩ := h16
      have k24 : w18[0]? = some (ob x 10 [.ref xt, .ref xk, .ref xn, .ref xp, .ref xtr, .int 0, .ref xr, .ref xs, .ref xl, .ref xpl, .ref xse, .ref ah, .ref ald, .ref arm, .ref ahr, .ref ash, .ref arw, .ref abr, .ref aw]) := keeps_at g19 k_0 (by first | decide | omega | (dsimp only; omega))
      have k25 : w18[5]? = some (ob xn 8 [.int 0, .int 1, .ref nh, .ref np, .ref ne, .ref nw, .int 0, .int 0, .int 0, .int 0]) := keeps_at g19 k_1 (by first | decide | omega | (dsimp only; omega))
      have k26 : w18[6]? = some (ob nh 2 [.int 0, .ref nh1, .ref nh2]) := keeps_at g19 k_2 (by first | decide | omega | (dsimp only; omega))
      have k27 : w18[7]? = some (iA E nh1 8 nfh1) := keeps_at g19 k_3 (by first | decide | omega | (dsimp only; omega))
      have k28 : w18[8]? = some (iA E nh2 8 nfh2) := keeps_at g19 k_4 (by first | decide | omega | (dsimp only; omega))
      have k29 : w18[9]? = some (ob np 4 [.int 0, .ref np1, .ref np2, .ref np3, .ref np4]) := keeps_at g19 k_5 (by first | decide | omega | (dsimp only; omega))
      have k30 : w18[10]? = some (iA E np1 8 nfp1) := keeps_at g19 k_6 (by first | decide | omega | (dsimp only; omega))
      have k31 : w18[11]? = some (iA E np2 8 nfp2) := keeps_at g19 k_7 (by first | decide | omega | (dsimp only; omega))
      have k32 : w18[12]? = some (iA E np3 8 nfp3) := keeps_at g19 k_8 (by first | decide | omega | (dsimp only; omega))
      have k33 : w18[13]? = some (iA E np4 8 nfp4) := keeps_at g19 k_9 (by first | decide | omega | (dsimp only; omega))
      have k34 : w18[14]? = some (ob ne 1 [.int 0, .ref ne1, .ref ne2, .ref ne3, .ref ne4, .ref ne5, .ref ne6]) := keeps_at g19 k_10 (by first | decide | omega | (dsimp only; omega))
      have k35 : w18[15]? = some (iA E ne1 48 nfe1) := keeps_at g19 k_11 (by first | decide | omega | (dsimp only; omega))
      have k36 : w18[16]? = some (iA E ne2 48 nfe2) := keeps_at g19 k_12 (by first | decide | omega | (dsimp only; omega))
      have k37 : w18[17]? = some (iA E ne3 48 nfe3) := keeps_at g19 k_13 (by first | decide | omega | (dsimp only; omega))
      have k38 : w18[18]? = some (iA E ne4 48 nfe4) := keeps_at g19 k_14 (by first | decide | omega | (dsimp only; omega))
      have k39 : w18[19]? = some (iA E ne5 48 nfe5) := keeps_at g19 k_15 (by first | decide | omega | (dsimp only; omega))
      have k40 : w18[20]? = some (iA E ne6 48 nfe6) := keeps_at g19 k_16 (by first | decide | omega | (dsimp only; omega))
      have k41 : w18[21]? = some (ob nw 9 [.int 0, .ref nw1, .ref nw2, .ref nw3, .ref nw4, .ref nw5]) := keeps_at g19 k_17 (by first | decide | omega | (dsimp only; omega))
      have k42 : w18[22]? = some (iA E nw1 8 nfw1) := keeps_at g19 k_18 (by first | decide | omega | (dsimp only; omega))
      have k43 : w18[23]? = some (iA E nw2 8 nfw2) := keeps_at g19 k_19 (by first | decide | omega | (dsimp only; omega))
      have k44 : w18[24]? = some (iA E nw3 8 nfw3) := keeps_at g19 k_20 (by first | decide | omega | (dsimp only; omega))
      have k45 : w18[25]? = some (iA E nw4 8 nfw4) := keeps_at g19 k_21 (by first | decide | omega | (dsimp only; omega))
      have k46 : w18[26]? = some (iA E nw5 8 nfw5) := keeps_at g19 k_22 (by first | decide | omega | (dsimp only; omega))
      refine x_aload_n C dX11_tried_32 rfl 0 rfl rfl ?_
      refine x_get C (ci := 10) (k := 4) 0 k24 rfl in_X11 (by decide) w_389 rfl dX11_tried_33 rfl ?_
      refine x_iload_n C dX11_tried_36 rfl 1 rfl rfl ?_
      refine x_aload_n C dX11_tried_37 rfl 0 rfl rfl ?_
      refine x_get C (ci := 10) (k := 6) 0 k24 rfl in_X11 (by decide) w_391 rfl dX11_tried_38 rfl ?_
      refine x_vv C (As := [.int (nI j), .ref xr]) (rest := []) (t_passDays E l w18 49 g20 50 g21 58 g22 j hj) mf_X9_passDays w_818 49 g20 rfl rfl rfl (Nat.le_of_ble_eq_true rfl) ⟨(Nat.le_of_ble_eq_true rfl), (Nat.le_of_ble_eq_true rfl)⟩ ⟨(Nat.le_of_ble_eq_true rfl), (Nat.le_of_ble_eq_true rfl)⟩ dX11_tried_41 rfl (fun w47 h48 => ?_)
      obtain ⟨kq49, dd50, k51⟩ := h48
      have k52 : w47[0]? = some (ob x 10 [.ref xt, .ref xk, .ref xn, .ref xp, .ref xtr, .int 0, .ref xr, .ref xs, .ref xl, .ref xpl, .ref xse, .ref ah, .ref ald, .ref arm, .ref ahr, .ref ash, .ref arw, .ref abr, .ref aw]) := keeps_at kq49 k24 (by first | decide | omega | (dsimp only; omega))
      have k53 : w47[5]? = some (ob xn 8 [.int 0, .int 1, .ref nh, .ref np, .ref ne, .ref nw, .int 0, .int 0, .int 0, .int 0]) := keeps_at kq49 k25 (by first | decide | omega | (dsimp only; omega))
      have k54 : w47[6]? = some (ob nh 2 [.int 0, .ref nh1, .ref nh2]) := keeps_at kq49 k26 (by first | decide | omega | (dsimp only; omega))
      have k55 : w47[7]? = some (iA E nh1 8 nfh1) := keeps_at kq49 k27 (by first | decide | omega | (dsimp only; omega))
      have k56 : w47[8]? = some (iA E nh2 8 nfh2) := keeps_at kq49 k28 (by first | decide | omega | (dsimp only; omega))
      have k57 : w47[9]? = some (ob np 4 [.int 0, .ref np1, .ref np2, .ref np3, .ref np4]) := keeps_at kq49 k29 (by first | decide | omega | (dsimp only; omega))
      have k58 : w47[10]? = some (iA E np1 8 nfp1) := keeps_at kq49 k30 (by first | decide | omega | (dsimp only; omega))
      have k59 : w47[11]? = some (iA E np2 8 nfp2) := keeps_at kq49 k31 (by first | decide | omega | (dsimp only; omega))
      have k60 : w47[12]? = some (iA E np3 8 nfp3) := keeps_at kq49 k32 (by first | decide | omega | (dsimp only; omega))
      have k61 : w47[13]? = some (iA E np4 8 nfp4) := keeps_at kq49 k33 (by first | decide | omega | (dsimp only; omega))
      have k62 : w47[14]? = some (ob ne 1 [.int 0, .ref ne1, .ref ne2, .ref ne3, .ref ne4, .ref ne5, .ref ne6]) := keeps_at kq49 k34 (by first | decide | omega | (dsimp only; omega))
      have k63 : w47[15]? = some (iA E ne1 48 nfe1) := keeps_at kq49 k35 (by first | decide | omega | (dsimp only; omega))
      have k64 : w47[16]? = some (iA E ne2 48 nfe2) := keeps_at kq49 k36 (by first | decide | omega | (dsimp only; omega))
      have k65 : w47[17]? = some (iA E ne3 48 nfe3) := keeps_at kq49 k37 (by first | decide | omega | (dsimp only; omega))
      have k66 : w47[18]? = some (iA E ne4 48 nfe4) := keeps_at kq49 k38 (by first | decide | omega | (dsimp only; omega))
      have k67 : w47[19]? = some (iA E ne5 48 nfe5) := keeps_at kq49 k39 (by first | decide | omega | (dsimp only; omega))
      have k68 : w47[20]? = some (iA E ne6 48 nfe6) := keeps_at kq49 k40 (by first | decide | omega | (dsimp only; omega))
      have k69 : w47[21]? = some (ob nw 9 [.int 0, .ref nw1, .ref nw2, .ref nw3, .ref nw4, .ref nw5]) := keeps_at kq49 k41 (by first | decide | omega | (dsimp only; omega))
      have k70 : w47[22]? = some (iA E nw1 8 nfw1) := keeps_at kq49 k42 (by first | decide | omega | (dsimp only; omega))
      have k71 : w47[23]? = some (iA E nw2 8 nfw2) := keeps_at kq49 k43 (by first | decide | omega | (dsimp only; omega))
      have k72 : w47[24]? = some (iA E nw3 8 nfw3) := keeps_at kq49 k44 (by first | decide | omega | (dsimp only; omega))
      have k73 : w47[25]? = some (iA E nw4 8 nfw4) := keeps_at kq49 k45 (by first | decide | omega | (dsimp only; omega))
      have k74 : w47[26]? = some (iA E nw5 8 nfw5) := keeps_at kq49 k46 (by first | decide | omega | (dsimp only; omega))
      have k75 : w47[50]? = some (ob rh 2 [.int 0, .ref rh1, .ref rh2]) := keeps_at kq49 g21 (by first | decide | omega | (dsimp only; omega))
      have k76 : w47[58]? = some (ob re 1 [.int 0, .ref re1, .ref re2, .ref re3, .ref re4, .ref re5, .ref re6]) := keeps_at kq49 g22 (by first | decide | omega | (dsimp only; omega))
      refine x_iload_n C dX11_tried_44 rfl 2 rfl rfl ?_
      by_cases s77 : (wh).toInt < 0
      · refine x_tabOut C (tgt := 108) dX11_tried_45 (Or.inl s77) (by decide) ?_
        have b79 : wh < 0 := sw_lo (by decide) s77
        refine x_aload_n C dX11_tried_108 rfl 0 rfl rfl ?_
        refine x_get C (ci := 10) (k := 4) 0 k52 rfl in_X11 (by decide) w_389 rfl dX11_tried_109 rfl ?_
        refine x_get C (ci := 8) (k := 4) 49 k51 rfl in_X9 (by decide) w_209 rfl dX11_tried_112 rfl ?_
        refine x_iconst C (v := 0) dX11_tried_115 (by decide) rfl ?_
        refine x_vi C (As := [.int 0]) (rest := []) (t_Eggs_howMany0 E l w47 58 k76 0) mf_X1_howMany w_853 58 k76 rfl rfl rfl (Nat.le_of_ble_eq_true rfl) ⟨(Nat.le_of_ble_eq_true rfl), (Nat.le_of_ble_eq_true rfl)⟩ ⟨(Nat.le_of_ble_eq_true rfl), (Nat.le_of_ble_eq_true rfl)⟩ dX11_tried_116 rfl (fun r81 w82 h80 => ?_)
        obtain ⟨e83, g84⟩ := h80
        refine x_top e83 ?_
        refine x_ws g84 ?_
        exact x_zret C hr hlk rfl dX11_tried_119 (by rw [if_pos ⟨b8, b15⟩])
      by_cases s78 : 3 < (wh).toInt
      · refine x_tabOut C (tgt := 108) dX11_tried_45 (Or.inr s78) (by decide) ?_
        have b85 : 3 < wh := sw_hi (by decide) s78
        refine x_aload_n C dX11_tried_108 rfl 0 rfl rfl ?_
        refine x_get C (ci := 10) (k := 4) 0 k52 rfl in_X11 (by decide) w_389 rfl dX11_tried_109 rfl ?_
        refine x_get C (ci := 8) (k := 4) 49 k51 rfl in_X9 (by decide) w_209 rfl dX11_tried_112 rfl ?_
        refine x_iconst C (v := 0) dX11_tried_115 (by decide) rfl ?_
        refine x_vi C (As := [.int 0]) (rest := []) (t_Eggs_howMany0 E l w47 58 k76 0) mf_X1_howMany w_853 58 k76 rfl rfl rfl (Nat.le_of_ble_eq_true rfl) ⟨(Nat.le_of_ble_eq_true rfl), (Nat.le_of_ble_eq_true rfl)⟩ ⟨(Nat.le_of_ble_eq_true rfl), (Nat.le_of_ble_eq_true rfl)⟩ dX11_tried_116 rfl (fun r87 w88 h86 => ?_)
        obtain ⟨e89, g90⟩ := h86
        refine x_top e89 ?_
        refine x_ws g90 ?_
        exact x_zret C hr hlk rfl dX11_tried_119 (by rw [if_pos ⟨b8, b15⟩])
      by_cases s91 : wh = 0
      · refine x_tabIn C (tgt := 76) dX11_tried_45 (by rw [s91]; decide) (by rw [s91]; decide) (by rw [s91]; rfl) (by decide) ?_
        have zs91 := sw_eq (by decide : (0 : Int32).toInt = 0) s91
        refine x_aload_n C dX11_tried_76 rfl 0 rfl rfl ?_
        refine x_get C (ci := 10) (k := 4) 0 k52 rfl in_X11 (by decide) w_389 rfl dX11_tried_77 rfl ?_
        refine x_get C (ci := 8) (k := 6) 49 k51 rfl in_X9 (by decide) w_216 rfl dX11_tried_80 rfl ?_
        exact x_zret C hr hlk rfl dX11_tried_83 (by rw [if_pos ⟨b8, b15⟩])
      have zs91 := sw_ne (by decide : (0 : Int32).toInt = 0) s91
      by_cases s92 : wh = 1
      · refine x_tabIn C (tgt := 84) dX11_tried_45 (by rw [s92]; decide) (by rw [s92]; decide) (by rw [s92]; rfl) (by decide) ?_
        have zs92 := sw_eq (by decide : (1 : Int32).toInt = 1) s92
        refine x_aload_n C dX11_tried_84 rfl 0 rfl rfl ?_
        refine x_get C (ci := 10) (k := 4) 0 k52 rfl in_X11 (by decide) w_389 rfl dX11_tried_85 rfl ?_
        refine x_get C (ci := 8) (k := 7) 49 k51 rfl in_X9 (by decide) w_218 rfl dX11_tried_88 rfl ?_
        exact x_zret C hr hlk rfl dX11_tried_91 (by rw [if_pos ⟨b8, b15⟩])
      have zs92 := sw_ne (by decide : (1 : Int32).toInt = 1) s92
      by_cases s93 : wh = 2
      · refine x_tabIn C (tgt := 92) dX11_tried_45 (by rw [s93]; decide) (by rw [s93]; decide) (by rw [s93]; rfl) (by decide) ?_
        have zs93 := sw_eq (by decide : (2 : Int32).toInt = 2) s93
        refine x_aload_n C dX11_tried_92 rfl 0 rfl rfl ?_
        refine x_get C (ci := 10) (k := 4) 0 k52 rfl in_X11 (by decide) w_389 rfl dX11_tried_93 rfl ?_
        refine x_get C (ci := 8) (k := 8) 49 k51 rfl in_X9 (by decide) w_220 rfl dX11_tried_96 rfl ?_
        exact x_zret C hr hlk rfl dX11_tried_99 (by rw [if_pos ⟨b8, b15⟩])
      have zs93 := sw_ne (by decide : (2 : Int32).toInt = 2) s93
      have s94 : wh = 3 := sw_last (n := 3) (by decide) s77 s78 (by omega)
      refine x_tabIn C (tgt := 100) dX11_tried_45 (by rw [s94]; decide) (by rw [s94]; decide) (by rw [s94]; rfl) (by decide) ?_
      refine x_aload_n C dX11_tried_100 rfl 0 rfl rfl ?_
      refine x_get C (ci := 10) (k := 4) 0 k52 rfl in_X11 (by decide) w_389 rfl dX11_tried_101 rfl ?_
      refine x_get C (ci := 8) (k := 9) 49 k51 rfl in_X9 (by decide) w_222 rfl dX11_tried_104 rfl ?_
      exact x_zret C hr hlk rfl dX11_tried_107 (by rw [if_pos ⟨b8, b15⟩])
    · skip
      have b95 := bI_e0 c14
      refine x_iconst C (v := (-1)) dX11_tried_19 (by decide) rfl ?_
      exact x_zret C hr hlk rfl dX11_tried_20 (by simp [b8, b95])
theorem dX8_copyFrom_0 : decode cX8_copyFrom 0 = .ok (.aload_n 1, 1) := by decide +kernel
theorem dX8_copyFrom_1 : decode cX8_copyFrom 1 = .ok (.getfield 9, 3) := by decide +kernel
theorem dX8_copyFrom_4 : decode cX8_copyFrom 4 = .ok (.iconst 0, 1) := by decide +kernel
theorem dX8_copyFrom_5 : decode cX8_copyFrom 5 = .ok (.aload_n 0, 1) := by decide +kernel
theorem dX8_copyFrom_6 : decode cX8_copyFrom 6 = .ok (.getfield 9, 3) := by decide +kernel
theorem dX8_copyFrom_9 : decode cX8_copyFrom 9 = .ok (.iconst 0, 1) := by decide +kernel
theorem dX8_copyFrom_10 : decode cX8_copyFrom 10 = .ok (.sipush 260, 3) := by decide +kernel
theorem dX8_copyFrom_13 : decode cX8_copyFrom 13 = .ok (.invokestatic 43, 3) := by decide +kernel
theorem dX8_copyFrom_16 : decode cX8_copyFrom 16 = .ok (.aload_n 0, 1) := by decide +kernel
theorem dX8_copyFrom_17 : decode cX8_copyFrom 17 = .ok (.aload_n 1, 1) := by decide +kernel
theorem dX8_copyFrom_18 : decode cX8_copyFrom 18 = .ok (.getfield 15, 3) := by decide +kernel
theorem dX8_copyFrom_21 : decode cX8_copyFrom 21 = .ok (.putfield 15, 3) := by decide +kernel
theorem dX8_copyFrom_24 : decode cX8_copyFrom 24 = .ok (.return_, 1) := by decide +kernel
set_option maxRecDepth 20000 in
set_option maxHeartbeats 4000000 in
theorem t_Tape_copy (E : xE) (l : Launch) (ws : va_W) {xk kb xt tb : Nat} {fk fb : Nat → Int32} (p_0 : Nat) (k_0 : ws[3]? = some (ob xk 7 [.ref kb, .int 0, .int 0, .int 0, .int 0])) (p_1 : Nat) (k_1 : ws[4]? = some (iA E kb 260 fk)) (p_2 : Nat) (k_2 : ws[1]? = some (ob xt 7 [.ref tb, .int 0, .int 0, .int 0, .int 0])) (p_3 : Nat) (k_3 : ws[2]? = some (iA E tb 260 fb)) : xV E l yX8_copyFrom cX8_copyFrom 2 1 0 0 [.ref xk, .ref xt] ws (fun w => keeps ws w (fun q => q = 3 ∨ q = 4)) := by
  refine xV_start (lv := [(0, .ref xk), (1, .ref xt)]) RX8 (by decide) rfl (Nat.le_of_ble_eq_true rfl) rfl (fun p e s m below meth c A C hr hlk hin => ?_)
  have kp0 : keeps ws ws (fun q => q = 3 ∨ q = 4) := keeps_rf
  refine x_aload_n C dX8_copyFrom_0 rfl 1 rfl rfl ?_
  refine x_get C (ci := 7) (k := 0) 1 k_2 rfl in_X8 (by decide) w_36 rfl dX8_copyFrom_1 rfl ?_
  refine x_iconst C (v := 0) dX8_copyFrom_4 (by decide) rfl ?_
  refine x_aload_n C dX8_copyFrom_5 rfl 0 rfl rfl ?_
  refine x_get C (ci := 7) (k := 0) 3 k_0 rfl in_X8 (by decide) w_36 rfl dX8_copyFrom_6 rfl ?_
  refine x_iconst C (v := 0) dX8_copyFrom_9 (by decide) rfl ?_
  refine x_sipush C (v := 260) dX8_copyFrom_10 (by decide) rfl ?_
  obtain ⟨w1, hw2⟩ : ∃ w : va_W, w = List.set ws 4 (iA E kb 260 (va_cpy fb fk 0 0 260)) := ⟨_, rfl⟩
  refine x_copy C 2 4 k_3 k_1 w_1094 w_798 w_797 w_20 (by decide) (by decide) (by decide) (by decide) (by decide) (Nat.le_of_ble_eq_true rfl) (Nat.le_of_ble_eq_true rfl) hw2.symm dX8_copyFrom_13 rfl ?_
  have k3 : w1[3]? = some (ob xk 7 [.ref kb, .int 0, .int 0, .int 0, .int 0]) := by rw [hw2]; exact set_ne k_0 (by decide)
  have k4 : w1[4]? = some (iA E kb 260 (va_cpy fb fk 0 0 260)) := by rw [hw2]; exact set_eq k_1
  have k5 : w1[1]? = some (ob xt 7 [.ref tb, .int 0, .int 0, .int 0, .int 0]) := by rw [hw2]; exact set_ne k_2 (by decide)
  have k6 : w1[2]? = some (iA E tb 260 fb) := by rw [hw2]; exact set_ne k_3 (by decide)
  have kp7 := keeps_set kp0 hw2 (by first | exact rfl | decide | omega | (dsimp only; omega))
  refine x_aload_n C dX8_copyFrom_16 rfl 0 rfl rfl ?_
  refine x_aload_n C dX8_copyFrom_17 rfl 1 rfl rfl ?_
  refine x_get C (ci := 7) (k := 1) 1 k5 rfl in_X8 (by decide) w_37 rfl dX8_copyFrom_18 rfl ?_
  obtain ⟨w8, hw9⟩ : ∃ w : va_W, w = List.set w1 3 (ob xk 7 [.ref kb, .int 0, .int 0, .int 0, .int 0]) := ⟨_, rfl⟩
  refine x_put C (ci := 7) (k := 1) (ty := .int) 3 k3 rfl in_X8 tyX8 tyX8_ok nmX8 (by decide) w_37 rfl rfl rfl rfl (Nat.le_of_ble_eq_true rfl) hw9.symm dX8_copyFrom_21 rfl ?_
  have k10 : w8[3]? = some (ob xk 7 [.ref kb, .int 0, .int 0, .int 0, .int 0]) := by rw [hw9]; exact set_eq k3
  have k11 : w8[4]? = some (iA E kb 260 (va_cpy fb fk 0 0 260)) := by rw [hw9]; exact set_ne k4 (by decide)
  have k12 : w8[1]? = some (ob xt 7 [.ref tb, .int 0, .int 0, .int 0, .int 0]) := by rw [hw9]; exact set_ne k5 (by decide)
  have k13 : w8[2]? = some (iA E tb 260 fb) := by rw [hw9]; exact set_ne k6 (by decide)
  have kp14 := keeps_set kp7 hw9 (by first | exact rfl | decide | omega | (dsimp only; omega))
  exact x_vret C hr hlk dX8_copyFrom_24 kp14
theorem dX11_keep_0 : decode cX11_keep 0 = .ok (.aload_n 0, 1) := by decide +kernel
theorem dX11_keep_1 : decode cX11_keep 1 = .ok (.getfield 26, 3) := by decide +kernel
theorem dX11_keep_4 : decode cX11_keep 4 = .ok (.aload_n 0, 1) := by decide +kernel
theorem dX11_keep_5 : decode cX11_keep 5 = .ok (.getfield 22, 3) := by decide +kernel
theorem dX11_keep_8 : decode cX11_keep 8 = .ok (.invokevirtual 180, 3) := by decide +kernel
theorem dX11_keep_11 : decode cX11_keep 11 = .ok (.aload_n 0, 1) := by decide +kernel
theorem dX11_keep_12 : decode cX11_keep 12 = .ok (.getfield 16, 3) := by decide +kernel
theorem dX11_keep_15 : decode cX11_keep 15 = .ok (.aload_n 0, 1) := by decide +kernel
theorem dX11_keep_16 : decode cX11_keep 16 = .ok (.getfield 10, 3) := by decide +kernel
theorem dX11_keep_19 : decode cX11_keep 19 = .ok (.invokevirtual 397, 3) := by decide +kernel
theorem dX11_keep_22 : decode cX11_keep 22 = .ok (.aload_n 0, 1) := by decide +kernel
theorem dX11_keep_23 : decode cX11_keep 23 = .ok (.iconst 1, 1) := by decide +kernel
theorem dX11_keep_24 : decode cX11_keep 24 = .ok (.putfield 32, 3) := by decide +kernel
theorem dX11_keep_27 : decode cX11_keep 27 = .ok (.aload_n 0, 1) := by decide +kernel
theorem dX11_keep_28 : decode cX11_keep 28 = .ok (.getfield 22, 3) := by decide +kernel
theorem dX11_keep_31 : decode cX11_keep 31 = .ok (.getfield 132, 3) := by decide +kernel
theorem dX11_keep_34 : decode cX11_keep 34 = .ok (.iconst 0, 1) := by decide +kernel
theorem dX11_keep_35 : decode cX11_keep 35 = .ok (.invokevirtual 203, 3) := by decide +kernel
theorem dX11_keep_38 : decode cX11_keep 38 = .ok (.ireturn, 1) := by decide +kernel
set_option maxRecDepth 20000 in
set_option maxHeartbeats 4000000 in
theorem t_keep (E : xE) (l : Launch) (ws : va_W) {x xt xk xn xp xtr xr xs xl xpl xse ah ald arm ahr ash arw abr aw nh np ne nw nh1 nh2 np1 np2 np3 np4 ne1 ne2 ne3 ne4 ne5 ne6 nw1 nw2 nw3 nw4 nw5 kh kp ke kw kh1 kh2 kp1 kp2 kp3 kp4 ke1 ke2 ke3 ke4 ke5 ke6 kw1 kw2 kw3 kw4 kw5 kb tb : Nat} {nfh1 nfh2 nfp1 nfp2 nfp3 nfp4 nfe1 nfe2 nfe3 nfe4 nfe5 nfe6 nfw1 nfw2 nfw3 nfw4 nfw5 kfh1 kfh2 kfp1 kfp2 kfp3 kfp4 kfe1 kfe2 kfe3 kfe4 kfe5 kfe6 kfw1 kfw2 kfw3 kfw4 kfw5 fk fb : Nat → Int32} (p_0 : Nat) (k_0 : ws[0]? = some (ob x 10 [.ref xt, .ref xk, .ref xn, .ref xp, .ref xtr, .int 0, .ref xr, .ref xs, .ref xl, .ref xpl, .ref xse, .ref ah, .ref ald, .ref arm, .ref ahr, .ref ash, .ref arw, .ref abr, .ref aw])) (p_1 : Nat) (k_1 : ws[5]? = some (ob xn 8 [.int 0, .int 1, .ref nh, .ref np, .ref ne, .ref nw, .int 0, .int 0, .int 0, .int 0])) (p_2 : Nat) (k_2 : ws[6]? = some (ob nh 2 [.int 0, .ref nh1, .ref nh2])) (p_3 : Nat) (k_3 : ws[7]? = some (iA E nh1 8 nfh1)) (p_4 : Nat) (k_4 : ws[8]? = some (iA E nh2 8 nfh2)) (p_5 : Nat) (k_5 : ws[9]? = some (ob np 4 [.int 0, .ref np1, .ref np2, .ref np3, .ref np4])) (p_6 : Nat) (k_6 : ws[10]? = some (iA E np1 8 nfp1)) (p_7 : Nat) (k_7 : ws[11]? = some (iA E np2 8 nfp2)) (p_8 : Nat) (k_8 : ws[12]? = some (iA E np3 8 nfp3)) (p_9 : Nat) (k_9 : ws[13]? = some (iA E np4 8 nfp4)) (p_10 : Nat) (k_10 : ws[14]? = some (ob ne 1 [.int 0, .ref ne1, .ref ne2, .ref ne3, .ref ne4, .ref ne5, .ref ne6])) (p_11 : Nat) (k_11 : ws[15]? = some (iA E ne1 48 nfe1)) (p_12 : Nat) (k_12 : ws[16]? = some (iA E ne2 48 nfe2)) (p_13 : Nat) (k_13 : ws[17]? = some (iA E ne3 48 nfe3)) (p_14 : Nat) (k_14 : ws[18]? = some (iA E ne4 48 nfe4)) (p_15 : Nat) (k_15 : ws[19]? = some (iA E ne5 48 nfe5)) (p_16 : Nat) (k_16 : ws[20]? = some (iA E ne6 48 nfe6)) (p_17 : Nat) (k_17 : ws[21]? = some (ob nw 9 [.int 0, .ref nw1, .ref nw2, .ref nw3, .ref nw4, .ref nw5])) (p_18 : Nat) (k_18 : ws[22]? = some (iA E nw1 8 nfw1)) (p_19 : Nat) (k_19 : ws[23]? = some (iA E nw2 8 nfw2)) (p_20 : Nat) (k_20 : ws[24]? = some (iA E nw3 8 nfw3)) (p_21 : Nat) (k_21 : ws[25]? = some (iA E nw4 8 nfw4)) (p_22 : Nat) (k_22 : ws[26]? = some (iA E nw5 8 nfw5)) (p_23 : Nat) (k_23 : ws[27]? = some (ob xp 8 [.int 0, .int 1, .ref kh, .ref kp, .ref ke, .ref kw, .int 0, .int 0, .int 0, .int 0])) (p_24 : Nat) (k_24 : ws[28]? = some (ob kh 2 [.int 0, .ref kh1, .ref kh2])) (p_25 : Nat) (k_25 : ws[29]? = some (iA E kh1 8 kfh1)) (p_26 : Nat) (k_26 : ws[30]? = some (iA E kh2 8 kfh2)) (p_27 : Nat) (k_27 : ws[31]? = some (ob kp 4 [.int 0, .ref kp1, .ref kp2, .ref kp3, .ref kp4])) (p_28 : Nat) (k_28 : ws[32]? = some (iA E kp1 8 kfp1)) (p_29 : Nat) (k_29 : ws[33]? = some (iA E kp2 8 kfp2)) (p_30 : Nat) (k_30 : ws[34]? = some (iA E kp3 8 kfp3)) (p_31 : Nat) (k_31 : ws[35]? = some (iA E kp4 8 kfp4)) (p_32 : Nat) (k_32 : ws[36]? = some (ob ke 1 [.int 0, .ref ke1, .ref ke2, .ref ke3, .ref ke4, .ref ke5, .ref ke6])) (p_33 : Nat) (k_33 : ws[37]? = some (iA E ke1 48 kfe1)) (p_34 : Nat) (k_34 : ws[38]? = some (iA E ke2 48 kfe2)) (p_35 : Nat) (k_35 : ws[39]? = some (iA E ke3 48 kfe3)) (p_36 : Nat) (k_36 : ws[40]? = some (iA E ke4 48 kfe4)) (p_37 : Nat) (k_37 : ws[41]? = some (iA E ke5 48 kfe5)) (p_38 : Nat) (k_38 : ws[42]? = some (iA E ke6 48 kfe6)) (p_39 : Nat) (k_39 : ws[43]? = some (ob kw 9 [.int 0, .ref kw1, .ref kw2, .ref kw3, .ref kw4, .ref kw5])) (p_40 : Nat) (k_40 : ws[44]? = some (iA E kw1 8 kfw1)) (p_41 : Nat) (k_41 : ws[45]? = some (iA E kw2 8 kfw2)) (p_42 : Nat) (k_42 : ws[46]? = some (iA E kw3 8 kfw3)) (p_43 : Nat) (k_43 : ws[47]? = some (iA E kw4 8 kfw4)) (p_44 : Nat) (k_44 : ws[48]? = some (iA E kw5 8 kfw5)) (p_45 : Nat) (k_45 : ws[3]? = some (ob xk 7 [.ref kb, .int 0, .int 0, .int 0, .int 0])) (p_46 : Nat) (k_46 : ws[4]? = some (iA E kb 260 fk)) (p_47 : Nat) (k_47 : ws[1]? = some (ob xt 7 [.ref tb, .int 0, .int 0, .int 0, .int 0])) (p_48 : Nat) (k_48 : ws[2]? = some (iA E tb 260 fb)) : xI E l yX11_keep cX11_keep 1 (some .int) 3 [.ref x] ws (fun r w => r = 0) := by
  refine xI_start (lv := [(0, .ref x)]) RX11 (by decide) rfl (Nat.le_of_ble_eq_true rfl) rfl (fun p e s m below meth c A C hr hlk => ?_)
  refine x_aload_n C dX11_keep_0 rfl 0 rfl rfl ?_
  refine x_get C (ci := 10) (k := 3) 0 k_0 rfl in_X11 (by decide) w_388 rfl dX11_keep_1 rfl ?_
  refine x_aload_n C dX11_keep_4 rfl 0 rfl rfl ?_
  refine x_get C (ci := 10) (k := 2) 0 k_0 rfl in_X11 (by decide) w_387 rfl dX11_keep_5 rfl ?_
  refine x_vv C (As := [.ref xn]) (rest := []) (t_Town_copy E l ws 27 k_23 28 k_24 29 k_25 30 k_26 31 k_27 32 k_28 33 k_29 34 k_30 35 k_31 36 k_32 37 k_33 38 k_34 39 k_35 40 k_36 41 k_37 42 k_38 43 k_39 44 k_40 45 k_41 46 k_42 47 k_43 48 k_44 5 k_1 6 k_2 7 k_3 8 k_4 9 k_5 10 k_6 11 k_7 12 k_8 13 k_9 14 k_10 15 k_11 16 k_12 17 k_13 18 k_14 19 k_15 20 k_16 21 k_17 22 k_18 23 k_19 24 k_20 25 k_21 26 k_22 (by omega)) mf_X9_copyFrom w_788 27 k_23 rfl rfl rfl (Nat.le_of_ble_eq_true rfl) ⟨(Nat.le_of_ble_eq_true rfl), (Nat.le_of_ble_eq_true rfl)⟩ ⟨(Nat.le_of_ble_eq_true rfl), (Nat.le_of_ble_eq_true rfl)⟩ dX11_keep_8 rfl (fun w3 h1 => ?_)
  obtain ⟨g4, g5, g6, g7⟩ := h1
  have k9 : w3[0]? = some (ob x 10 [.ref xt, .ref xk, .ref xn, .ref xp, .ref xtr, .int 0, .ref xr, .ref xs, .ref xl, .ref xpl, .ref xse, .ref ah, .ref ald, .ref arm, .ref ahr, .ref ash, .ref arw, .ref abr, .ref aw]) := keeps_at g4 k_0 (by first | decide | omega | (dsimp only; omega))
  have k10 : w3[5]? = some (ob xn 8 [.int 0, .int 1, .ref nh, .ref np, .ref ne, .ref nw, .int 0, .int 0, .int 0, .int 0]) := keeps_at g4 k_1 (by first | decide | omega | (dsimp only; omega))
  have k11 : w3[6]? = some (ob nh 2 [.int 0, .ref nh1, .ref nh2]) := keeps_at g4 k_2 (by first | decide | omega | (dsimp only; omega))
  have k12 : w3[7]? = some (iA E nh1 8 nfh1) := keeps_at g4 k_3 (by first | decide | omega | (dsimp only; omega))
  have k13 : w3[8]? = some (iA E nh2 8 nfh2) := keeps_at g4 k_4 (by first | decide | omega | (dsimp only; omega))
  have k14 : w3[9]? = some (ob np 4 [.int 0, .ref np1, .ref np2, .ref np3, .ref np4]) := keeps_at g4 k_5 (by first | decide | omega | (dsimp only; omega))
  have k15 : w3[10]? = some (iA E np1 8 nfp1) := keeps_at g4 k_6 (by first | decide | omega | (dsimp only; omega))
  have k16 : w3[11]? = some (iA E np2 8 nfp2) := keeps_at g4 k_7 (by first | decide | omega | (dsimp only; omega))
  have k17 : w3[12]? = some (iA E np3 8 nfp3) := keeps_at g4 k_8 (by first | decide | omega | (dsimp only; omega))
  have k18 : w3[13]? = some (iA E np4 8 nfp4) := keeps_at g4 k_9 (by first | decide | omega | (dsimp only; omega))
  have k19 : w3[14]? = some (ob ne 1 [.int 0, .ref ne1, .ref ne2, .ref ne3, .ref ne4, .ref ne5, .ref ne6]) := keeps_at g4 k_10 (by first | decide | omega | (dsimp only; omega))
  have k20 : w3[15]? = some (iA E ne1 48 nfe1) := keeps_at g4 k_11 (by first | decide | omega | (dsimp only; omega))
  have k21 : w3[16]? = some (iA E ne2 48 nfe2) := keeps_at g4 k_12 (by first | decide | omega | (dsimp only; omega))
  have k22 : w3[17]? = some (iA E ne3 48 nfe3) := keeps_at g4 k_13 (by first | decide | omega | (dsimp only; omega))
  have k23 : w3[18]? = some (iA E ne4 48 nfe4) := keeps_at g4 k_14 (by first | decide | omega | (dsimp only; omega))
  have k24 : w3[19]? = some (iA E ne5 48 nfe5) := keeps_at g4 k_15 (by first | decide | omega | (dsimp only; omega))
  have k25 : w3[20]? = some (iA E ne6 48 nfe6) := keeps_at g4 k_16 (by first | decide | omega | (dsimp only; omega))
  have k26 : w3[21]? = some (ob nw 9 [.int 0, .ref nw1, .ref nw2, .ref nw3, .ref nw4, .ref nw5]) := keeps_at g4 k_17 (by first | decide | omega | (dsimp only; omega))
  have k27 : w3[22]? = some (iA E nw1 8 nfw1) := keeps_at g4 k_18 (by first | decide | omega | (dsimp only; omega))
  have k28 : w3[23]? = some (iA E nw2 8 nfw2) := keeps_at g4 k_19 (by first | decide | omega | (dsimp only; omega))
  have k29 : w3[24]? = some (iA E nw3 8 nfw3) := keeps_at g4 k_20 (by first | decide | omega | (dsimp only; omega))
  have k30 : w3[25]? = some (iA E nw4 8 nfw4) := keeps_at g4 k_21 (by first | decide | omega | (dsimp only; omega))
  have k31 : w3[26]? = some (iA E nw5 8 nfw5) := keeps_at g4 k_22 (by first | decide | omega | (dsimp only; omega))
  have k32 : w3[3]? = some (ob xk 7 [.ref kb, .int 0, .int 0, .int 0, .int 0]) := keeps_at g4 k_45 (by first | decide | omega | (dsimp only; omega))
  have k33 : w3[4]? = some (iA E kb 260 fk) := keeps_at g4 k_46 (by first | decide | omega | (dsimp only; omega))
  have k34 : w3[1]? = some (ob xt 7 [.ref tb, .int 0, .int 0, .int 0, .int 0]) := keeps_at g4 k_47 (by first | decide | omega | (dsimp only; omega))
  have k35 : w3[2]? = some (iA E tb 260 fb) := keeps_at g4 k_48 (by first | decide | omega | (dsimp only; omega))
  refine x_aload_n C dX11_keep_11 rfl 0 rfl rfl ?_
  refine x_get C (ci := 10) (k := 1) 0 k9 rfl in_X11 (by decide) w_386 rfl dX11_keep_12 rfl ?_
  refine x_aload_n C dX11_keep_15 rfl 0 rfl rfl ?_
  refine x_get C (ci := 10) (k := 0) 0 k9 rfl in_X11 (by decide) w_385 rfl dX11_keep_16 rfl ?_
  refine x_vv C (As := [.ref xt]) (rest := []) (t_Tape_copy E l w3 3 k32 4 k33 1 k34 2 k35) mf_X8_copyFrom w_1090 3 k32 rfl rfl rfl (Nat.le_of_ble_eq_true rfl) ⟨(Nat.le_of_ble_eq_true rfl), (Nat.le_of_ble_eq_true rfl)⟩ ⟨(Nat.le_of_ble_eq_true rfl), (Nat.le_of_ble_eq_true rfl)⟩ dX11_keep_19 rfl (fun w38 h36 => ?_)
  have g39 := h36
  have k41 : w38[0]? = some (ob x 10 [.ref xt, .ref xk, .ref xn, .ref xp, .ref xtr, .int 0, .ref xr, .ref xs, .ref xl, .ref xpl, .ref xse, .ref ah, .ref ald, .ref arm, .ref ahr, .ref ash, .ref arw, .ref abr, .ref aw]) := keeps_at g39 k9 (by first | decide | omega | (dsimp only; omega))
  have k42 : w38[5]? = some (ob xn 8 [.int 0, .int 1, .ref nh, .ref np, .ref ne, .ref nw, .int 0, .int 0, .int 0, .int 0]) := keeps_at g39 k10 (by first | decide | omega | (dsimp only; omega))
  have k43 : w38[6]? = some (ob nh 2 [.int 0, .ref nh1, .ref nh2]) := keeps_at g39 k11 (by first | decide | omega | (dsimp only; omega))
  have k44 : w38[7]? = some (iA E nh1 8 nfh1) := keeps_at g39 k12 (by first | decide | omega | (dsimp only; omega))
  have k45 : w38[8]? = some (iA E nh2 8 nfh2) := keeps_at g39 k13 (by first | decide | omega | (dsimp only; omega))
  have k46 : w38[9]? = some (ob np 4 [.int 0, .ref np1, .ref np2, .ref np3, .ref np4]) := keeps_at g39 k14 (by first | decide | omega | (dsimp only; omega))
  have k47 : w38[10]? = some (iA E np1 8 nfp1) := keeps_at g39 k15 (by first | decide | omega | (dsimp only; omega))
  have k48 : w38[11]? = some (iA E np2 8 nfp2) := keeps_at g39 k16 (by first | decide | omega | (dsimp only; omega))
  have k49 : w38[12]? = some (iA E np3 8 nfp3) := keeps_at g39 k17 (by first | decide | omega | (dsimp only; omega))
  have k50 : w38[13]? = some (iA E np4 8 nfp4) := keeps_at g39 k18 (by first | decide | omega | (dsimp only; omega))
  have k51 : w38[14]? = some (ob ne 1 [.int 0, .ref ne1, .ref ne2, .ref ne3, .ref ne4, .ref ne5, .ref ne6]) := keeps_at g39 k19 (by first | decide | omega | (dsimp only; omega))
  have k52 : w38[15]? = some (iA E ne1 48 nfe1) := keeps_at g39 k20 (by first | decide | omega | (dsimp only; omega))
  have k53 : w38[16]? = some (iA E ne2 48 nfe2) := keeps_at g39 k21 (by first | decide | omega | (dsimp only; omega))
  have k54 : w38[17]? = some (iA E ne3 48 nfe3) := keeps_at g39 k22 (by first | decide | omega | (dsimp only; omega))
  have k55 : w38[18]? = some (iA E ne4 48 nfe4) := keeps_at g39 k23 (by first | decide | omega | (dsimp only; omega))
  have k56 : w38[19]? = some (iA E ne5 48 nfe5) := keeps_at g39 k24 (by first | decide | omega | (dsimp only; omega))
  have k57 : w38[20]? = some (iA E ne6 48 nfe6) := keeps_at g39 k25 (by first | decide | omega | (dsimp only; omega))
  have k58 : w38[21]? = some (ob nw 9 [.int 0, .ref nw1, .ref nw2, .ref nw3, .ref nw4, .ref nw5]) := keeps_at g39 k26 (by first | decide | omega | (dsimp only; omega))
  have k59 : w38[22]? = some (iA E nw1 8 nfw1) := keeps_at g39 k27 (by first | decide | omega | (dsimp only; omega))
  have k60 : w38[23]? = some (iA E nw2 8 nfw2) := keeps_at g39 k28 (by first | decide | omega | (dsimp only; omega))
  have k61 : w38[24]? = some (iA E nw3 8 nfw3) := keeps_at g39 k29 (by first | decide | omega | (dsimp only; omega))
  have k62 : w38[25]? = some (iA E nw4 8 nfw4) := keeps_at g39 k30 (by first | decide | omega | (dsimp only; omega))
  have k63 : w38[26]? = some (iA E nw5 8 nfw5) := keeps_at g39 k31 (by first | decide | omega | (dsimp only; omega))
  have k64 : w38[27]? = some (ob xp 8 [.int 0, .int 1, .ref kh, .ref kp, .ref ke, .ref kw, .int 0, .int 0, .int 0, .int 0]) := keeps_at g39 g5 (by first | decide | omega | (dsimp only; omega))
  have k65 : w38[28]? = some (ob kh 2 [.int 0, .ref kh1, .ref kh2]) := keeps_at g39 g6 (by first | decide | omega | (dsimp only; omega))
  have k66 : w38[36]? = some (ob ke 1 [.int 0, .ref ke1, .ref ke2, .ref ke3, .ref ke4, .ref ke5, .ref ke6]) := keeps_at g39 g7 (by first | decide | omega | (dsimp only; omega))
  have k67 : w38[1]? = some (ob xt 7 [.ref tb, .int 0, .int 0, .int 0, .int 0]) := keeps_at g39 k34 (by first | decide | omega | (dsimp only; omega))
  have k68 : w38[2]? = some (iA E tb 260 fb) := keeps_at g39 k35 (by first | decide | omega | (dsimp only; omega))
  refine x_aload_n C dX11_keep_22 rfl 0 rfl rfl ?_
  refine x_iconst C (v := 1) dX11_keep_23 (by decide) rfl ?_
  obtain ⟨w69, hw70⟩ : ∃ w : va_W, w = List.set w38 0 (ob x 10 [.ref xt, .ref xk, .ref xn, .ref xp, .ref xtr, .int 1, .ref xr, .ref xs, .ref xl, .ref xpl, .ref xse, .ref ah, .ref ald, .ref arm, .ref ahr, .ref ash, .ref arw, .ref abr, .ref aw]) := ⟨_, rfl⟩
  refine x_put C (ci := 10) (k := 5) (ty := .boolean) 0 k41 rfl in_X11 tyX11 tyX11_ok nmX11 (by decide) w_390 rfl rfl rfl rfl (Nat.le_of_ble_eq_true rfl) hw70.symm dX11_keep_24 rfl ?_
  have k71 : w69[0]? = some (ob x 10 [.ref xt, .ref xk, .ref xn, .ref xp, .ref xtr, .int 1, .ref xr, .ref xs, .ref xl, .ref xpl, .ref xse, .ref ah, .ref ald, .ref arm, .ref ahr, .ref ash, .ref arw, .ref abr, .ref aw]) := by rw [hw70]; exact set_eq k41
  have k72 : w69[5]? = some (ob xn 8 [.int 0, .int 1, .ref nh, .ref np, .ref ne, .ref nw, .int 0, .int 0, .int 0, .int 0]) := by rw [hw70]; exact set_ne k42 (by decide)
  have k73 : w69[6]? = some (ob nh 2 [.int 0, .ref nh1, .ref nh2]) := by rw [hw70]; exact set_ne k43 (by decide)
  have k74 : w69[7]? = some (iA E nh1 8 nfh1) := by rw [hw70]; exact set_ne k44 (by decide)
  have k75 : w69[8]? = some (iA E nh2 8 nfh2) := by rw [hw70]; exact set_ne k45 (by decide)
  have k76 : w69[9]? = some (ob np 4 [.int 0, .ref np1, .ref np2, .ref np3, .ref np4]) := by rw [hw70]; exact set_ne k46 (by decide)
  have k77 : w69[10]? = some (iA E np1 8 nfp1) := by rw [hw70]; exact set_ne k47 (by decide)
  have k78 : w69[11]? = some (iA E np2 8 nfp2) := by rw [hw70]; exact set_ne k48 (by decide)
  have k79 : w69[12]? = some (iA E np3 8 nfp3) := by rw [hw70]; exact set_ne k49 (by decide)
  have k80 : w69[13]? = some (iA E np4 8 nfp4) := by rw [hw70]; exact set_ne k50 (by decide)
  have k81 : w69[14]? = some (ob ne 1 [.int 0, .ref ne1, .ref ne2, .ref ne3, .ref ne4, .ref ne5, .ref ne6]) := by rw [hw70]; exact set_ne k51 (by decide)
  have k82 : w69[15]? = some (iA E ne1 48 nfe1) := by rw [hw70]; exact set_ne k52 (by decide)
  have k83 : w69[16]? = some (iA E ne2 48 nfe2) := by rw [hw70]; exact set_ne k53 (by decide)
  have k84 : w69[17]? = some (iA E ne3 48 nfe3) := by rw [hw70]; exact set_ne k54 (by decide)
  have k85 : w69[18]? = some (iA E ne4 48 nfe4) := by rw [hw70]; exact set_ne k55 (by decide)
  have k86 : w69[19]? = some (iA E ne5 48 nfe5) := by rw [hw70]; exact set_ne k56 (by decide)
  have k87 : w69[20]? = some (iA E ne6 48 nfe6) := by rw [hw70]; exact set_ne k57 (by decide)
  have k88 : w69[21]? = some (ob nw 9 [.int 0, .ref nw1, .ref nw2, .ref nw3, .ref nw4, .ref nw5]) := by rw [hw70]; exact set_ne k58 (by decide)
  have k89 : w69[22]? = some (iA E nw1 8 nfw1) := by rw [hw70]; exact set_ne k59 (by decide)
  have k90 : w69[23]? = some (iA E nw2 8 nfw2) := by rw [hw70]; exact set_ne k60 (by decide)
  have k91 : w69[24]? = some (iA E nw3 8 nfw3) := by rw [hw70]; exact set_ne k61 (by decide)
  have k92 : w69[25]? = some (iA E nw4 8 nfw4) := by rw [hw70]; exact set_ne k62 (by decide)
  have k93 : w69[26]? = some (iA E nw5 8 nfw5) := by rw [hw70]; exact set_ne k63 (by decide)
  have k94 : w69[27]? = some (ob xp 8 [.int 0, .int 1, .ref kh, .ref kp, .ref ke, .ref kw, .int 0, .int 0, .int 0, .int 0]) := by rw [hw70]; exact set_ne k64 (by decide)
  have k95 : w69[28]? = some (ob kh 2 [.int 0, .ref kh1, .ref kh2]) := by rw [hw70]; exact set_ne k65 (by decide)
  have k96 : w69[36]? = some (ob ke 1 [.int 0, .ref ke1, .ref ke2, .ref ke3, .ref ke4, .ref ke5, .ref ke6]) := by rw [hw70]; exact set_ne k66 (by decide)
  have k97 : w69[1]? = some (ob xt 7 [.ref tb, .int 0, .int 0, .int 0, .int 0]) := by rw [hw70]; exact set_ne k67 (by decide)
  have k98 : w69[2]? = some (iA E tb 260 fb) := by rw [hw70]; exact set_ne k68 (by decide)
  refine x_aload_n C dX11_keep_27 rfl 0 rfl rfl ?_
  refine x_get C (ci := 10) (k := 2) 0 k71 rfl in_X11 (by decide) w_387 rfl dX11_keep_28 rfl ?_
  refine x_get C (ci := 8) (k := 4) 5 k72 rfl in_X9 (by decide) w_209 rfl dX11_keep_31 rfl ?_
  refine x_iconst C (v := 0) dX11_keep_34 (by decide) rfl ?_
  refine x_vi C (As := [.int 0]) (rest := []) (t_Eggs_howMany0 E l w69 14 k81 0) mf_X1_howMany w_853 14 k81 rfl rfl rfl (Nat.le_of_ble_eq_true rfl) ⟨(Nat.le_of_ble_eq_true rfl), (Nat.le_of_ble_eq_true rfl)⟩ ⟨(Nat.le_of_ble_eq_true rfl), (Nat.le_of_ble_eq_true rfl)⟩ dX11_keep_35 rfl (fun r100 w101 h99 => ?_)
  obtain ⟨e102, g103⟩ := h99
  refine x_top e102 ?_
  refine x_ws g103 ?_
  exact x_zret C hr hlk rfl dX11_keep_38 (by first | rfl | trivial | (simp [bI]; done) | (simp_all [bI]; done))
end
