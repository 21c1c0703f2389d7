-- ===== PART A: goes FIRST, ahead of the names: the tables' words, and 'selects' of the private methods out of them =====
/-- a private method of a class that the tables say can be made, by its rows of tables_1 -/
def lw_okq (q : MethodName × Nat) : Prop := (q.1.cls ≠ "java/lang/invoke/MethodHandle" ∧ q.1.cls ≠ "java/lang/invoke/VarHandle") ∧ Cond.instantiable q.1.cls q.2 ∈ tables_1 ∧ Cond.privateMethod q.1 ∈ tables_1 ∧ Cond.instanceMethod q.1 ∈ tables_1
theorem lw_p0 : lw_okq (⟨"TubeChain", "isNoMan", "(I)Z"⟩, 11) := ⟨⟨by decide +kernel, by decide +kernel⟩, List.mem_of_getElem? (i := 23) (by decide +kernel), List.mem_of_getElem? (i := 336) (by decide +kernel), List.mem_of_getElem? (i := 337) (by decide +kernel)⟩
theorem lw_p1 : lw_okq (⟨"TubeChain$Scaffold", "reckonPace", "(LTubeChain$Man;II)I"⟩, 10) := ⟨⟨by decide +kernel, by decide +kernel⟩, List.mem_of_getElem? (i := 31) (by decide +kernel), List.mem_of_getElem? (i := 375) (by decide +kernel), List.mem_of_getElem? (i := 376) (by decide +kernel)⟩
theorem lw_p2 : lw_okq (⟨"TubeChain$Scaffold", "test", "(I)I"⟩, 10) := ⟨⟨by decide +kernel, by decide +kernel⟩, List.mem_of_getElem? (i := 31) (by decide +kernel), List.mem_of_getElem? (i := 383) (by decide +kernel), List.mem_of_getElem? (i := 384) (by decide +kernel)⟩
theorem lw_p3 : lw_okq (⟨"TubeChain$Scaffold", "readClause", "()Z"⟩, 10) := ⟨⟨by decide +kernel, by decide +kernel⟩, List.mem_of_getElem? (i := 31) (by decide +kernel), List.mem_of_getElem? (i := 447) (by decide +kernel), List.mem_of_getElem? (i := 448) (by decide +kernel)⟩
theorem lw_p4 : lw_okq (⟨"TubeChain$Scaffold", "readWord", "()I"⟩, 10) := ⟨⟨by decide +kernel, by decide +kernel⟩, List.mem_of_getElem? (i := 31) (by decide +kernel), List.mem_of_getElem? (i := 451) (by decide +kernel), List.mem_of_getElem? (i := 452) (by decide +kernel)⟩
theorem lw_p5 : lw_okq (⟨"TubeChain$Scaffold", "passes", "(C)Z"⟩, 10) := ⟨⟨by decide +kernel, by decide +kernel⟩, List.mem_of_getElem? (i := 31) (by decide +kernel), List.mem_of_getElem? (i := 504) (by decide +kernel), List.mem_of_getElem? (i := 505) (by decide +kernel)⟩
theorem lw_p6 : lw_okq (⟨"TubeChain$Scaffold", "readNumber", "()I"⟩, 10) := ⟨⟨by decide +kernel, by decide +kernel⟩, List.mem_of_getElem? (i := 31) (by decide +kernel), List.mem_of_getElem? (i := 508) (by decide +kernel), List.mem_of_getElem? (i := 509) (by decide +kernel)⟩
theorem lw_p7 : lw_okq (⟨"TubeChain$Scaffold", "readEither", "(I)Z"⟩, 10) := ⟨⟨by decide +kernel, by decide +kernel⟩, List.mem_of_getElem? (i := 31) (by decide +kernel), List.mem_of_getElem? (i := 512) (by decide +kernel), List.mem_of_getElem? (i := 513) (by decide +kernel)⟩
theorem lw_p8 : lw_okq (⟨"TubeChain$Scaffold", "readBoth", "(I)Z"⟩, 10) := ⟨⟨by decide +kernel, by decide +kernel⟩, List.mem_of_getElem? (i := 31) (by decide +kernel), List.mem_of_getElem? (i := 516) (by decide +kernel), List.mem_of_getElem? (i := 517) (by decide +kernel)⟩
theorem lw_p9 : lw_okq (⟨"TubeChain$Scaffold", "readOne", "(I)Z"⟩, 10) := ⟨⟨by decide +kernel, by decide +kernel⟩, List.mem_of_getElem? (i := 31) (by decide +kernel), List.mem_of_getElem? (i := 520) (by decide +kernel), List.mem_of_getElem? (i := 521) (by decide +kernel)⟩
theorem lw_p10 : lw_okq (⟨"TubeChain$Scaffold", "readTest", "()Z"⟩, 10) := ⟨⟨by decide +kernel, by decide +kernel⟩, List.mem_of_getElem? (i := 31) (by decide +kernel), List.mem_of_getElem? (i := 524) (by decide +kernel), List.mem_of_getElem? (i := 525) (by decide +kernel)⟩
theorem lw_p11 : lw_okq (⟨"TubeChain$Scaffold", "emit", "(I)Z"⟩, 10) := ⟨⟨by decide +kernel, by decide +kernel⟩, List.mem_of_getElem? (i := 31) (by decide +kernel), List.mem_of_getElem? (i := 585) (by decide +kernel), List.mem_of_getElem? (i := 586) (by decide +kernel)⟩
theorem lw_p12 : lw_okq (⟨"TubeChain$Trial", "blame", "(I)V"⟩, 6) := ⟨⟨by decide +kernel, by decide +kernel⟩, List.mem_of_getElem? (i := 173) (by decide +kernel), List.mem_of_getElem? (i := 650) (by decide +kernel), List.mem_of_getElem? (i := 651) (by decide +kernel)⟩
theorem lw_p13 : lw_okq (⟨"TubeChain", "pulleyLoses", "(II)I"⟩, 11) := ⟨⟨by decide +kernel, by decide +kernel⟩, List.mem_of_getElem? (i := 23) (by decide +kernel), List.mem_of_getElem? (i := 707) (by decide +kernel), List.mem_of_getElem? (i := 708) (by decide +kernel)⟩
theorem lw_p14 : lw_okq (⟨"TubeChain", "startWithTired", "(I)V"⟩, 11) := ⟨⟨by decide +kernel, by decide +kernel⟩, List.mem_of_getElem? (i := 23) (by decide +kernel), List.mem_of_getElem? (i := 738) (by decide +kernel), List.mem_of_getElem? (i := 739) (by decide +kernel)⟩
theorem lw_p15 : lw_okq (⟨"TubeChainModel", "in", "(III)Z"⟩, 70) := ⟨⟨by decide +kernel, by decide +kernel⟩, List.mem_of_getElem? (i := 916) (by decide +kernel), List.mem_of_getElem? (i := 1138) (by decide +kernel), List.mem_of_getElem? (i := 1139) (by decide +kernel)⟩
def lw_privs_1 : List (MethodName × Nat) := [(⟨"TubeChain", "isNoMan", "(I)Z"⟩, 11), (⟨"TubeChain$Scaffold", "reckonPace", "(LTubeChain$Man;II)I"⟩, 10), (⟨"TubeChain$Scaffold", "test", "(I)I"⟩, 10), (⟨"TubeChain$Scaffold", "readClause", "()Z"⟩, 10), (⟨"TubeChain$Scaffold", "readWord", "()I"⟩, 10), (⟨"TubeChain$Scaffold", "passes", "(C)Z"⟩, 10), (⟨"TubeChain$Scaffold", "readNumber", "()I"⟩, 10), (⟨"TubeChain$Scaffold", "readEither", "(I)Z"⟩, 10), (⟨"TubeChain$Scaffold", "readBoth", "(I)Z"⟩, 10), (⟨"TubeChain$Scaffold", "readOne", "(I)Z"⟩, 10), (⟨"TubeChain$Scaffold", "readTest", "()Z"⟩, 10), (⟨"TubeChain$Scaffold", "emit", "(I)Z"⟩, 10), (⟨"TubeChain$Trial", "blame", "(I)V"⟩, 6), (⟨"TubeChain", "pulleyLoses", "(II)I"⟩, 11), (⟨"TubeChain", "startWithTired", "(I)V"⟩, 11), (⟨"TubeChainModel", "in", "(III)Z"⟩, 70)]
theorem lw_r1 : ∀ q ∈ lw_privs_1, lw_okq q := List.forall_mem_cons.mpr ⟨lw_p0, List.forall_mem_cons.mpr ⟨lw_p1, List.forall_mem_cons.mpr ⟨lw_p2, List.forall_mem_cons.mpr ⟨lw_p3, List.forall_mem_cons.mpr ⟨lw_p4, List.forall_mem_cons.mpr ⟨lw_p5, List.forall_mem_cons.mpr ⟨lw_p6, List.forall_mem_cons.mpr ⟨lw_p7, List.forall_mem_cons.mpr ⟨lw_p8, List.forall_mem_cons.mpr ⟨lw_p9, List.forall_mem_cons.mpr ⟨lw_p10, List.forall_mem_cons.mpr ⟨lw_p11, List.forall_mem_cons.mpr ⟨lw_p12, List.forall_mem_cons.mpr ⟨lw_p13, List.forall_mem_cons.mpr ⟨lw_p14, List.forall_mem_cons.mpr ⟨lw_p15, fun _ h => absurd h List.not_mem_nil⟩⟩⟩⟩⟩⟩⟩⟩⟩⟩⟩⟩⟩⟩⟩⟩
theorem lw_p16 : lw_okq (⟨"TubeChainModel", "isMan", "(I)Z"⟩, 70) := ⟨⟨by decide +kernel, by decide +kernel⟩, List.mem_of_getElem? (i := 916) (by decide +kernel), List.mem_of_getElem? (i := 1146) (by decide +kernel), List.mem_of_getElem? (i := 1147) (by decide +kernel)⟩
theorem lw_p17 : lw_okq (⟨"TubeChainModel", "placeOf", "(I)I"⟩, 70) := ⟨⟨by decide +kernel, by decide +kernel⟩, List.mem_of_getElem? (i := 916) (by decide +kernel), List.mem_of_getElem? (i := 1158) (by decide +kernel), List.mem_of_getElem? (i := 1159) (by decide +kernel)⟩
theorem lw_p18 : lw_okq (⟨"TubeChainModel", "goesText", "(I)Z"⟩, 70) := ⟨⟨by decide +kernel, by decide +kernel⟩, List.mem_of_getElem? (i := 916) (by decide +kernel), List.mem_of_getElem? (i := 1170) (by decide +kernel), List.mem_of_getElem? (i := 1171) (by decide +kernel)⟩
theorem lw_p19 : lw_okq (⟨"TubeChainModel", "takesClause", "(I)Z"⟩, 70) := ⟨⟨by decide +kernel, by decide +kernel⟩, List.mem_of_getElem? (i := 916) (by decide +kernel), List.mem_of_getElem? (i := 1174) (by decide +kernel), List.mem_of_getElem? (i := 1175) (by decide +kernel)⟩
theorem lw_p20 : lw_okq (⟨"TubeChainModel", "takesHead", "(I)Z"⟩, 70) := ⟨⟨by decide +kernel, by decide +kernel⟩, List.mem_of_getElem? (i := 916) (by decide +kernel), List.mem_of_getElem? (i := 1178) (by decide +kernel), List.mem_of_getElem? (i := 1179) (by decide +kernel)⟩
theorem lw_p21 : lw_okq (⟨"TubeChainModel", "next", "()I"⟩, 70) := ⟨⟨by decide +kernel, by decide +kernel⟩, List.mem_of_getElem? (i := 916) (by decide +kernel), List.mem_of_getElem? (i := 1182) (by decide +kernel), List.mem_of_getElem? (i := 1183) (by decide +kernel)⟩
theorem lw_p22 : lw_okq (⟨"TubeChainModel", "takesWord", "(II)Z"⟩, 70) := ⟨⟨by decide +kernel, by decide +kernel⟩, List.mem_of_getElem? (i := 916) (by decide +kernel), List.mem_of_getElem? (i := 1186) (by decide +kernel), List.mem_of_getElem? (i := 1187) (by decide +kernel)⟩
theorem lw_p23 : lw_okq (⟨"TubeChainModel", "takes", "(I)Z"⟩, 70) := ⟨⟨by decide +kernel, by decide +kernel⟩, List.mem_of_getElem? (i := 916) (by decide +kernel), List.mem_of_getElem? (i := 1190) (by decide +kernel), List.mem_of_getElem? (i := 1191) (by decide +kernel)⟩
theorem lw_p24 : lw_okq (⟨"TubeChainModel", "second", "()I"⟩, 70) := ⟨⟨by decide +kernel, by decide +kernel⟩, List.mem_of_getElem? (i := 916) (by decide +kernel), List.mem_of_getElem? (i := 1194) (by decide +kernel), List.mem_of_getElem? (i := 1195) (by decide +kernel)⟩
theorem lw_p25 : lw_okq (⟨"TubeChainModel", "takesNumber", "()Z"⟩, 70) := ⟨⟨by decide +kernel, by decide +kernel⟩, List.mem_of_getElem? (i := 916) (by decide +kernel), List.mem_of_getElem? (i := 1198) (by decide +kernel), List.mem_of_getElem? (i := 1199) (by decide +kernel)⟩
theorem lw_p26 : lw_okq (⟨"TubeChainModel", "isDigit", "()Z"⟩, 70) := ⟨⟨by decide +kernel, by decide +kernel⟩, List.mem_of_getElem? (i := 916) (by decide +kernel), List.mem_of_getElem? (i := 1202) (by decide +kernel), List.mem_of_getElem? (i := 1203) (by decide +kernel)⟩
theorem lw_p27 : lw_okq (⟨"TubeChainModel", "takesE", "(I)Z"⟩, 70) := ⟨⟨by decide +kernel, by decide +kernel⟩, List.mem_of_getElem? (i := 916) (by decide +kernel), List.mem_of_getElem? (i := 1206) (by decide +kernel), List.mem_of_getElem? (i := 1207) (by decide +kernel)⟩
theorem lw_p28 : lw_okq (⟨"TubeChainModel", "takesTest", "()Z"⟩, 70) := ⟨⟨by decide +kernel, by decide +kernel⟩, List.mem_of_getElem? (i := 916) (by decide +kernel), List.mem_of_getElem? (i := 1210) (by decide +kernel), List.mem_of_getElem? (i := 1211) (by decide +kernel)⟩
theorem lw_p29 : lw_okq (⟨"TubeChainModel", "letterAt", "(I)I"⟩, 70) := ⟨⟨by decide +kernel, by decide +kernel⟩, List.mem_of_getElem? (i := 916) (by decide +kernel), List.mem_of_getElem? (i := 1214) (by decide +kernel), List.mem_of_getElem? (i := 1215) (by decide +kernel)⟩
theorem lw_p30 : lw_okq (⟨"TubeChainModel", "emits", "(I)V"⟩, 70) := ⟨⟨by decide +kernel, by decide +kernel⟩, List.mem_of_getElem? (i := 916) (by decide +kernel), List.mem_of_getElem? (i := 1218) (by decide +kernel), List.mem_of_getElem? (i := 1219) (by decide +kernel)⟩
theorem lw_p31 : lw_okq (⟨"TubeChainModel", "whole", "()V"⟩, 70) := ⟨⟨by decide +kernel, by decide +kernel⟩, List.mem_of_getElem? (i := 916) (by decide +kernel), List.mem_of_getElem? (i := 1222) (by decide +kernel), List.mem_of_getElem? (i := 1223) (by decide +kernel)⟩
def lw_privs_2 : List (MethodName × Nat) := [(⟨"TubeChainModel", "isMan", "(I)Z"⟩, 70), (⟨"TubeChainModel", "placeOf", "(I)I"⟩, 70), (⟨"TubeChainModel", "goesText", "(I)Z"⟩, 70), (⟨"TubeChainModel", "takesClause", "(I)Z"⟩, 70), (⟨"TubeChainModel", "takesHead", "(I)Z"⟩, 70), (⟨"TubeChainModel", "next", "()I"⟩, 70), (⟨"TubeChainModel", "takesWord", "(II)Z"⟩, 70), (⟨"TubeChainModel", "takes", "(I)Z"⟩, 70), (⟨"TubeChainModel", "second", "()I"⟩, 70), (⟨"TubeChainModel", "takesNumber", "()Z"⟩, 70), (⟨"TubeChainModel", "isDigit", "()Z"⟩, 70), (⟨"TubeChainModel", "takesE", "(I)Z"⟩, 70), (⟨"TubeChainModel", "takesTest", "()Z"⟩, 70), (⟨"TubeChainModel", "letterAt", "(I)I"⟩, 70), (⟨"TubeChainModel", "emits", "(I)V"⟩, 70), (⟨"TubeChainModel", "whole", "()V"⟩, 70)]
theorem lw_r2 : ∀ q ∈ lw_privs_2, lw_okq q := List.forall_mem_cons.mpr ⟨lw_p16, List.forall_mem_cons.mpr ⟨lw_p17, List.forall_mem_cons.mpr ⟨lw_p18, List.forall_mem_cons.mpr ⟨lw_p19, List.forall_mem_cons.mpr ⟨lw_p20, List.forall_mem_cons.mpr ⟨lw_p21, List.forall_mem_cons.mpr ⟨lw_p22, List.forall_mem_cons.mpr ⟨lw_p23, List.forall_mem_cons.mpr ⟨lw_p24, List.forall_mem_cons.mpr ⟨lw_p25, List.forall_mem_cons.mpr ⟨lw_p26, List.forall_mem_cons.mpr ⟨lw_p27, List.forall_mem_cons.mpr ⟨lw_p28, List.forall_mem_cons.mpr ⟨lw_p29, List.forall_mem_cons.mpr ⟨lw_p30, List.forall_mem_cons.mpr ⟨lw_p31, fun _ h => absurd h List.not_mem_nil⟩⟩⟩⟩⟩⟩⟩⟩⟩⟩⟩⟩⟩⟩⟩⟩
theorem lw_p32 : lw_okq (⟨"TubeChainModel", "settle", "(I)V"⟩, 70) := ⟨⟨by decide +kernel, by decide +kernel⟩, List.mem_of_getElem? (i := 916) (by decide +kernel), List.mem_of_getElem? (i := 1226) (by decide +kernel), List.mem_of_getElem? (i := 1227) (by decide +kernel)⟩
theorem lw_p33 : lw_okq (⟨"TubeChainModel", "pace", "(I)I"⟩, 70) := ⟨⟨by decide +kernel, by decide +kernel⟩, List.mem_of_getElem? (i := 916) (by decide +kernel), List.mem_of_getElem? (i := 1234) (by decide +kernel), List.mem_of_getElem? (i := 1235) (by decide +kernel)⟩
theorem lw_p34 : lw_okq (⟨"TubeChainModel", "begin", "()I"⟩, 70) := ⟨⟨by decide +kernel, by decide +kernel⟩, List.mem_of_getElem? (i := 916) (by decide +kernel), List.mem_of_getElem? (i := 1238) (by decide +kernel), List.mem_of_getElem? (i := 1239) (by decide +kernel)⟩
theorem lw_p35 : lw_okq (⟨"TubeChainModel", "behind", "()I"⟩, 70) := ⟨⟨by decide +kernel, by decide +kernel⟩, List.mem_of_getElem? (i := 916) (by decide +kernel), List.mem_of_getElem? (i := 1242) (by decide +kernel), List.mem_of_getElem? (i := 1243) (by decide +kernel)⟩
theorem lw_p36 : lw_okq (⟨"TubeChainModel", "holdsTest", "(II)Z"⟩, 70) := ⟨⟨by decide +kernel, by decide +kernel⟩, List.mem_of_getElem? (i := 916) (by decide +kernel), List.mem_of_getElem? (i := 1246) (by decide +kernel), List.mem_of_getElem? (i := 1247) (by decide +kernel)⟩
theorem lw_p37 : lw_okq (⟨"TubeChainModel", "factOf", "(II)I"⟩, 70) := ⟨⟨by decide +kernel, by decide +kernel⟩, List.mem_of_getElem? (i := 916) (by decide +kernel), List.mem_of_getElem? (i := 1250) (by decide +kernel), List.mem_of_getElem? (i := 1251) (by decide +kernel)⟩
theorem lw_p38 : lw_okq (⟨"TubeChainModel", "atLeastOne", "(I)I"⟩, 70) := ⟨⟨by decide +kernel, by decide +kernel⟩, List.mem_of_getElem? (i := 916) (by decide +kernel), List.mem_of_getElem? (i := 1254) (by decide +kernel), List.mem_of_getElem? (i := 1255) (by decide +kernel)⟩
theorem lw_p39 : lw_okq (⟨"TubeChainModel", "holdsFor", "(I)I"⟩, 70) := ⟨⟨by decide +kernel, by decide +kernel⟩, List.mem_of_getElem? (i := 916) (by decide +kernel), List.mem_of_getElem? (i := 1258) (by decide +kernel), List.mem_of_getElem? (i := 1259) (by decide +kernel)⟩
theorem lw_p40 : lw_okq (⟨"TubeChainModel", "strongly", "(II)I"⟩, 70) := ⟨⟨by decide +kernel, by decide +kernel⟩, List.mem_of_getElem? (i := 916) (by decide +kernel), List.mem_of_getElem? (i := 1262) (by decide +kernel), List.mem_of_getElem? (i := 1263) (by decide +kernel)⟩
theorem lw_p41 : lw_okq (⟨"TubeChainModel", "rise", "()I"⟩, 70) := ⟨⟨by decide +kernel, by decide +kernel⟩, List.mem_of_getElem? (i := 916) (by decide +kernel), List.mem_of_getElem? (i := 1270) (by decide +kernel), List.mem_of_getElem? (i := 1271) (by decide +kernel)⟩
theorem lw_p42 : lw_okq (⟨"TubeChainModel", "lastOf", "(II)I"⟩, 70) := ⟨⟨by decide +kernel, by decide +kernel⟩, List.mem_of_getElem? (i := 916) (by decide +kernel), List.mem_of_getElem? (i := 1274) (by decide +kernel), List.mem_of_getElem? (i := 1275) (by decide +kernel)⟩
theorem lw_p43 : lw_okq (⟨"TubeChainModel", "rest", "()I"⟩, 70) := ⟨⟨by decide +kernel, by decide +kernel⟩, List.mem_of_getElem? (i := 916) (by decide +kernel), List.mem_of_getElem? (i := 1278) (by decide +kernel), List.mem_of_getElem? (i := 1279) (by decide +kernel)⟩
theorem lw_p44 : lw_okq (⟨"TubeChainModel", "pull", "()I"⟩, 70) := ⟨⟨by decide +kernel, by decide +kernel⟩, List.mem_of_getElem? (i := 916) (by decide +kernel), List.mem_of_getElem? (i := 1282) (by decide +kernel), List.mem_of_getElem? (i := 1283) (by decide +kernel)⟩
theorem lw_p45 : lw_okq (⟨"TubeChainModel", "isBeat", "(I)Z"⟩, 70) := ⟨⟨by decide +kernel, by decide +kernel⟩, List.mem_of_getElem? (i := 916) (by decide +kernel), List.mem_of_getElem? (i := 1290) (by decide +kernel), List.mem_of_getElem? (i := 1291) (by decide +kernel)⟩
theorem lw_p46 : lw_okq (⟨"TubeChainModel", "goTube", "()Z"⟩, 70) := ⟨⟨by decide +kernel, by decide +kernel⟩, List.mem_of_getElem? (i := 916) (by decide +kernel), List.mem_of_getElem? (i := 1295) (by decide +kernel), List.mem_of_getElem? (i := 1296) (by decide +kernel)⟩
theorem lw_p47 : lw_okq (⟨"TubeChainModel", "holdsOnce", "(I)V"⟩, 70) := ⟨⟨by decide +kernel, by decide +kernel⟩, List.mem_of_getElem? (i := 916) (by decide +kernel), List.mem_of_getElem? (i := 1299) (by decide +kernel), List.mem_of_getElem? (i := 1300) (by decide +kernel)⟩
def lw_privs_3 : List (MethodName × Nat) := [(⟨"TubeChainModel", "settle", "(I)V"⟩, 70), (⟨"TubeChainModel", "pace", "(I)I"⟩, 70), (⟨"TubeChainModel", "begin", "()I"⟩, 70), (⟨"TubeChainModel", "behind", "()I"⟩, 70), (⟨"TubeChainModel", "holdsTest", "(II)Z"⟩, 70), (⟨"TubeChainModel", "factOf", "(II)I"⟩, 70), (⟨"TubeChainModel", "atLeastOne", "(I)I"⟩, 70), (⟨"TubeChainModel", "holdsFor", "(I)I"⟩, 70), (⟨"TubeChainModel", "strongly", "(II)I"⟩, 70), (⟨"TubeChainModel", "rise", "()I"⟩, 70), (⟨"TubeChainModel", "lastOf", "(II)I"⟩, 70), (⟨"TubeChainModel", "rest", "()I"⟩, 70), (⟨"TubeChainModel", "pull", "()I"⟩, 70), (⟨"TubeChainModel", "isBeat", "(I)Z"⟩, 70), (⟨"TubeChainModel", "goTube", "()Z"⟩, 70), (⟨"TubeChainModel", "holdsOnce", "(I)V"⟩, 70)]
theorem lw_r3 : ∀ q ∈ lw_privs_3, lw_okq q := List.forall_mem_cons.mpr ⟨lw_p32, List.forall_mem_cons.mpr ⟨lw_p33, List.forall_mem_cons.mpr ⟨lw_p34, List.forall_mem_cons.mpr ⟨lw_p35, List.forall_mem_cons.mpr ⟨lw_p36, List.forall_mem_cons.mpr ⟨lw_p37, List.forall_mem_cons.mpr ⟨lw_p38, List.forall_mem_cons.mpr ⟨lw_p39, List.forall_mem_cons.mpr ⟨lw_p40, List.forall_mem_cons.mpr ⟨lw_p41, List.forall_mem_cons.mpr ⟨lw_p42, List.forall_mem_cons.mpr ⟨lw_p43, List.forall_mem_cons.mpr ⟨lw_p44, List.forall_mem_cons.mpr ⟨lw_p45, List.forall_mem_cons.mpr ⟨lw_p46, List.forall_mem_cons.mpr ⟨lw_p47, fun _ h => absurd h List.not_mem_nil⟩⟩⟩⟩⟩⟩⟩⟩⟩⟩⟩⟩⟩⟩⟩⟩
theorem lw_p48 : lw_okq (⟨"TubeChainModel", "layTubes", "(IIII)V"⟩, 70) := ⟨⟨by decide +kernel, by decide +kernel⟩, List.mem_of_getElem? (i := 916) (by decide +kernel), List.mem_of_getElem? (i := 1311) (by decide +kernel), List.mem_of_getElem? (i := 1312) (by decide +kernel)⟩
theorem lw_p49 : lw_okq (⟨"TubeChainModel", "save", "()V"⟩, 70) := ⟨⟨by decide +kernel, by decide +kernel⟩, List.mem_of_getElem? (i := 916) (by decide +kernel), List.mem_of_getElem? (i := 1315) (by decide +kernel), List.mem_of_getElem? (i := 1316) (by decide +kernel)⟩
theorem lw_p50 : lw_okq (⟨"TubeChainModel", "putBack", "()V"⟩, 70) := ⟨⟨by decide +kernel, by decide +kernel⟩, List.mem_of_getElem? (i := 916) (by decide +kernel), List.mem_of_getElem? (i := 1320) (by decide +kernel), List.mem_of_getElem? (i := 1321) (by decide +kernel)⟩
theorem lw_p51 : lw_okq (⟨"TubeChainModel", "mostDrops", "()I"⟩, 70) := ⟨⟨by decide +kernel, by decide +kernel⟩, List.mem_of_getElem? (i := 916) (by decide +kernel), List.mem_of_getElem? (i := 1324) (by decide +kernel), List.mem_of_getElem? (i := 1325) (by decide +kernel)⟩
theorem lw_p52 : lw_okq (⟨"TubeChainModel", "safeNow", "(I)I"⟩, 70) := ⟨⟨by decide +kernel, by decide +kernel⟩, List.mem_of_getElem? (i := 916) (by decide +kernel), List.mem_of_getElem? (i := 1332) (by decide +kernel), List.mem_of_getElem? (i := 1333) (by decide +kernel)⟩
theorem lw_p53 : lw_okq (⟨"TubeChainModel", "upBy", "(II)I"⟩, 70) := ⟨⟨by decide +kernel, by decide +kernel⟩, List.mem_of_getElem? (i := 916) (by decide +kernel), List.mem_of_getElem? (i := 1336) (by decide +kernel), List.mem_of_getElem? (i := 1337) (by decide +kernel)⟩
theorem lw_p54 : lw_okq (⟨"TubeChainModel", "keepChain", "()V"⟩, 70) := ⟨⟨by decide +kernel, by decide +kernel⟩, List.mem_of_getElem? (i := 916) (by decide +kernel), List.mem_of_getElem? (i := 1352) (by decide +kernel), List.mem_of_getElem? (i := 1353) (by decide +kernel)⟩
theorem lw_p55 : lw_okq (⟨"TubeChainModel", "layOrder", "(I)Z"⟩, 70) := ⟨⟨by decide +kernel, by decide +kernel⟩, List.mem_of_getElem? (i := 916) (by decide +kernel), List.mem_of_getElem? (i := 1356) (by decide +kernel), List.mem_of_getElem? (i := 1357) (by decide +kernel)⟩
theorem lw_p56 : lw_okq (⟨"TubeChainModel", "has", "(II)Z"⟩, 70) := ⟨⟨by decide +kernel, by decide +kernel⟩, List.mem_of_getElem? (i := 916) (by decide +kernel), List.mem_of_getElem? (i := 1360) (by decide +kernel), List.mem_of_getElem? (i := 1361) (by decide +kernel)⟩
theorem lw_p57 : lw_okq (⟨"TubeChainModel", "putChain", "()V"⟩, 70) := ⟨⟨by decide +kernel, by decide +kernel⟩, List.mem_of_getElem? (i := 916) (by decide +kernel), List.mem_of_getElem? (i := 1364) (by decide +kernel), List.mem_of_getElem? (i := 1365) (by decide +kernel)⟩
theorem lw_p58 : lw_okq (⟨"TubeChainModel", "pulleyOf", "(II)I"⟩, 70) := ⟨⟨by decide +kernel, by decide +kernel⟩, List.mem_of_getElem? (i := 916) (by decide +kernel), List.mem_of_getElem? (i := 1376) (by decide +kernel), List.mem_of_getElem? (i := 1377) (by decide +kernel)⟩
theorem lw_p59 : lw_okq (⟨"TubeChainModel", "swaps", "(II)V"⟩, 70) := ⟨⟨by decide +kernel, by decide +kernel⟩, List.mem_of_getElem? (i := 916) (by decide +kernel), List.mem_of_getElem? (i := 1394) (by decide +kernel), List.mem_of_getElem? (i := 1395) (by decide +kernel)⟩
theorem lw_p60 : lw_okq (⟨"TubeChainModel", "lowest", "(III)J"⟩, 70) := ⟨⟨by decide +kernel, by decide +kernel⟩, List.mem_of_getElem? (i := 916) (by decide +kernel), List.mem_of_getElem? (i := 1412) (by decide +kernel), List.mem_of_getElem? (i := 1413) (by decide +kernel)⟩
theorem lw_p61 : lw_okq (⟨"TubeChainModel", "divisor", "(II)I"⟩, 70) := ⟨⟨by decide +kernel, by decide +kernel⟩, List.mem_of_getElem? (i := 916) (by decide +kernel), List.mem_of_getElem? (i := 1416) (by decide +kernel), List.mem_of_getElem? (i := 1417) (by decide +kernel)⟩
theorem lw_p62 : lw_okq (⟨"TubeChainModel", "isTape", "(I)Z"⟩, 70) := ⟨⟨by decide +kernel, by decide +kernel⟩, List.mem_of_getElem? (i := 916) (by decide +kernel), List.mem_of_getElem? (i := 1436) (by decide +kernel), List.mem_of_getElem? (i := 1437) (by decide +kernel)⟩
theorem lw_p63 : lw_okq (⟨"TubeChainModel", "throwsAct", "(II)I"⟩, 70) := ⟨⟨by decide +kernel, by decide +kernel⟩, List.mem_of_getElem? (i := 916) (by decide +kernel), List.mem_of_getElem? (i := 1452) (by decide +kernel), List.mem_of_getElem? (i := 1453) (by decide +kernel)⟩
def lw_privs_4 : List (MethodName × Nat) := [(⟨"TubeChainModel", "layTubes", "(IIII)V"⟩, 70), (⟨"TubeChainModel", "save", "()V"⟩, 70), (⟨"TubeChainModel", "putBack", "()V"⟩, 70), (⟨"TubeChainModel", "mostDrops", "()I"⟩, 70), (⟨"TubeChainModel", "safeNow", "(I)I"⟩, 70), (⟨"TubeChainModel", "upBy", "(II)I"⟩, 70), (⟨"TubeChainModel", "keepChain", "()V"⟩, 70), (⟨"TubeChainModel", "layOrder", "(I)Z"⟩, 70), (⟨"TubeChainModel", "has", "(II)Z"⟩, 70), (⟨"TubeChainModel", "putChain", "()V"⟩, 70), (⟨"TubeChainModel", "pulleyOf", "(II)I"⟩, 70), (⟨"TubeChainModel", "swaps", "(II)V"⟩, 70), (⟨"TubeChainModel", "lowest", "(III)J"⟩, 70), (⟨"TubeChainModel", "divisor", "(II)I"⟩, 70), (⟨"TubeChainModel", "isTape", "(I)Z"⟩, 70), (⟨"TubeChainModel", "throwsAct", "(II)I"⟩, 70)]
theorem lw_r4 : ∀ q ∈ lw_privs_4, lw_okq q := List.forall_mem_cons.mpr ⟨lw_p48, List.forall_mem_cons.mpr ⟨lw_p49, List.forall_mem_cons.mpr ⟨lw_p50, List.forall_mem_cons.mpr ⟨lw_p51, List.forall_mem_cons.mpr ⟨lw_p52, List.forall_mem_cons.mpr ⟨lw_p53, List.forall_mem_cons.mpr ⟨lw_p54, List.forall_mem_cons.mpr ⟨lw_p55, List.forall_mem_cons.mpr ⟨lw_p56, List.forall_mem_cons.mpr ⟨lw_p57, List.forall_mem_cons.mpr ⟨lw_p58, List.forall_mem_cons.mpr ⟨lw_p59, List.forall_mem_cons.mpr ⟨lw_p60, List.forall_mem_cons.mpr ⟨lw_p61, List.forall_mem_cons.mpr ⟨lw_p62, List.forall_mem_cons.mpr ⟨lw_p63, fun _ h => absurd h List.not_mem_nil⟩⟩⟩⟩⟩⟩⟩⟩⟩⟩⟩⟩⟩⟩⟩⟩
theorem lw_p64 : lw_okq (⟨"TubeChainModel", "body", "(I)V"⟩, 70) := ⟨⟨by decide +kernel, by decide +kernel⟩, List.mem_of_getElem? (i := 916) (by decide +kernel), List.mem_of_getElem? (i := 1456) (by decide +kernel), List.mem_of_getElem? (i := 1457) (by decide +kernel)⟩
theorem lw_p65 : lw_okq (⟨"TubeChainModel", "manThrows", "(II)I"⟩, 70) := ⟨⟨by decide +kernel, by decide +kernel⟩, List.mem_of_getElem? (i := 916) (by decide +kernel), List.mem_of_getElem? (i := 1460) (by decide +kernel), List.mem_of_getElem? (i := 1461) (by decide +kernel)⟩
theorem lw_p66 : lw_okq (⟨"TubeChainModel", "takesAct", "(II)I"⟩, 70) := ⟨⟨by decide +kernel, by decide +kernel⟩, List.mem_of_getElem? (i := 916) (by decide +kernel), List.mem_of_getElem? (i := 1464) (by decide +kernel), List.mem_of_getElem? (i := 1465) (by decide +kernel)⟩
theorem lw_p67 : lw_okq (⟨"TubeChainModel", "strongTakes", "(II)I"⟩, 70) := ⟨⟨by decide +kernel, by decide +kernel⟩, List.mem_of_getElem? (i := 916) (by decide +kernel), List.mem_of_getElem? (i := 1468) (by decide +kernel), List.mem_of_getElem? (i := 1469) (by decide +kernel)⟩
theorem lw_p68 : lw_okq (⟨"TubeChainModel", "manTakes", "(II)I"⟩, 70) := ⟨⟨by decide +kernel, by decide +kernel⟩, List.mem_of_getElem? (i := 916) (by decide +kernel), List.mem_of_getElem? (i := 1472) (by decide +kernel), List.mem_of_getElem? (i := 1473) (by decide +kernel)⟩
theorem lw_p69 : lw_okq (⟨"TubeChainModel", "tellsAct", "(II)I"⟩, 70) := ⟨⟨by decide +kernel, by decide +kernel⟩, List.mem_of_getElem? (i := 916) (by decide +kernel), List.mem_of_getElem? (i := 1476) (by decide +kernel), List.mem_of_getElem? (i := 1477) (by decide +kernel)⟩
theorem lw_p70 : lw_okq (⟨"TubeChainModel", "manTells", "(II)I"⟩, 70) := ⟨⟨by decide +kernel, by decide +kernel⟩, List.mem_of_getElem? (i := 916) (by decide +kernel), List.mem_of_getElem? (i := 1480) (by decide +kernel), List.mem_of_getElem? (i := 1481) (by decide +kernel)⟩
theorem lw_p71 : lw_okq (⟨"TubeChainModel", "narrow", "(IJ)J"⟩, 70) := ⟨⟨by decide +kernel, by decide +kernel⟩, List.mem_of_getElem? (i := 916) (by decide +kernel), List.mem_of_getElem? (i := 1504) (by decide +kernel), List.mem_of_getElem? (i := 1505) (by decide +kernel)⟩
def lw_privs_5 : List (MethodName × Nat) := [(⟨"TubeChainModel", "body", "(I)V"⟩, 70), (⟨"TubeChainModel", "manThrows", "(II)I"⟩, 70), (⟨"TubeChainModel", "takesAct", "(II)I"⟩, 70), (⟨"TubeChainModel", "strongTakes", "(II)I"⟩, 70), (⟨"TubeChainModel", "manTakes", "(II)I"⟩, 70), (⟨"TubeChainModel", "tellsAct", "(II)I"⟩, 70), (⟨"TubeChainModel", "manTells", "(II)I"⟩, 70), (⟨"TubeChainModel", "narrow", "(IJ)J"⟩, 70)]
theorem lw_r5 : ∀ q ∈ lw_privs_5, lw_okq q := List.forall_mem_cons.mpr ⟨lw_p64, List.forall_mem_cons.mpr ⟨lw_p65, List.forall_mem_cons.mpr ⟨lw_p66, List.forall_mem_cons.mpr ⟨lw_p67, List.forall_mem_cons.mpr ⟨lw_p68, List.forall_mem_cons.mpr ⟨lw_p69, List.forall_mem_cons.mpr ⟨lw_p70, List.forall_mem_cons.mpr ⟨lw_p71, fun _ h => absurd h List.not_mem_nil⟩⟩⟩⟩⟩⟩⟩⟩
def lw_privs : List (MethodName × Nat) := lw_privs_1 ++ (lw_privs_2 ++ (lw_privs_3 ++ (lw_privs_4 ++ (lw_privs_5))))
def lw_tbl : List Cond := k2_sels lw_privs ++ tables_1
theorem lw_privs_ok : ∀ q ∈ lw_privs, lw_okq q := by
  show ∀ q ∈ lw_privs_1 ++ (lw_privs_2 ++ (lw_privs_3 ++ (lw_privs_4 ++ (lw_privs_5)))), lw_okq q
  exact List.forall_mem_append.mpr ⟨lw_r1, List.forall_mem_append.mpr ⟨lw_r2, List.forall_mem_append.mpr ⟨lw_r3, List.forall_mem_append.mpr ⟨lw_r4, lw_r5⟩⟩⟩⟩
-- names: the classes whose objects the heap holds
def R_0 : String := "TubeChain"
def T_0 : u_T := fun k => match k with
  | 0 => ("TubeChain", "now", "LTubeChain$Site;", true)
  | 1 => ("TubeChain", "image", "LTubeChain$Site;", true)
  | 2 => ("TubeChain", "trial", "LTubeChain$Trial;", true)
  | 3 => ("TubeChain", "scaffolds", "[LTubeChain$Scaffold;", true)
  | 4 => ("TubeChain", "text", "[C", true)
  | 5 => ("TubeChain", "tapes", "[LTubeChain$Tape;", true)
  | 6 => ("TubeChain", "ran", "[I", true)
  | 7 => ("TubeChain", "bestRow", "[I", true)
  | 8 => ("TubeChain", "scaffoldCount", "I", false)
  | 9 => ("TubeChain", "textLength", "I", false)
  | _ => ("TubeChain", "hasImage", "Z", false)
def ty_0 : Nat → FieldType := fun k => match k with
  | 0 => (.object "TubeChain$Site")
  | 1 => (.object "TubeChain$Site")
  | 2 => (.object "TubeChain$Trial")
  | 3 => (.array (.object "TubeChain$Scaffold"))
  | 4 => (.array .char)
  | 5 => (.array (.object "TubeChain$Tape"))
  | 6 => (.array .int)
  | 7 => (.array .int)
  | 8 => .int
  | 9 => .int
  | _ => .boolean
theorem nm_0 : ∀ a, a < 11 → ∀ b, b < 11 → a ≠ b → (T_0 a).2.1 ≠ (T_0 b).2.1 := by decide +kernel
theorem ty_0_ok : ∀ k, k < 11 → parseFieldDescriptor (T_0 k).2.2.1 = some (ty_0 k) := by decide +kernel
theorem in_0 : ∀ w ∈ u_ws R_0 T_0 11, w ∈ lw_tbl := by decide +kernel
def R_1 : String := "TubeChain$Site"
def T_1 : u_T := fun k => match k with
  | 0 => ("TubeChain$Site", "men", "[LTubeChain$Man;", true)
  | 1 => ("TubeChain$Site", "held", "[I", true)
  | 2 => ("TubeChain$Site", "free", "[I", true)
  | 3 => ("TubeChain$Site", "rows", "[I", true)
  | 4 => ("TubeChain$Site", "line", "[I", true)
  | 5 => ("TubeChain$Site", "seen", "[I", true)
  | 6 => ("TubeChain$Site", "book", "[I", true)
  | 7 => ("TubeChain$Site", "manCount", "I", false)
  | 8 => ("TubeChain$Site", "lineLength", "I", false)
  | 9 => ("TubeChain$Site", "tenth", "I", false)
  | 10 => ("TubeChain$Site", "risen", "I", false)
  | 11 => ("TubeChain$Site", "fallen", "I", false)
  | 12 => ("TubeChain$Site", "seenCount", "I", false)
  | 13 => ("TubeChain$Site", "bookCount", "I", false)
  | _ => ("TubeChain$Site", "scaffold", "LTubeChain$Scaffold;", false)
def ty_1 : Nat → FieldType := fun k => match k with
  | 0 => (.array (.object "TubeChain$Man"))
  | 1 => (.array .int)
  | 2 => (.array .int)
  | 3 => (.array .int)
  | 4 => (.array .int)
  | 5 => (.array .int)
  | 6 => (.array .int)
  | 7 => .int
  | 8 => .int
  | 9 => .int
  | 10 => .int
  | 11 => .int
  | 12 => .int
  | 13 => .int
  | _ => (.object "TubeChain$Scaffold")
theorem nm_1 : ∀ a, a < 15 → ∀ b, b < 15 → a ≠ b → (T_1 a).2.1 ≠ (T_1 b).2.1 := by decide +kernel
theorem ty_1_ok : ∀ k, k < 15 → parseFieldDescriptor (T_1 k).2.2.1 = some (ty_1 k) := by decide +kernel
theorem in_1 : ∀ w ∈ u_ws R_1 T_1 15, w ∈ lw_tbl := by decide +kernel
def R_2 : String := "TubeChain$Trial"
def T_2 : u_T := fun k => match k with
  | 0 => ("TubeChain$Trial", "start", "LTubeChain$Site;", true)
  | 1 => ("TubeChain$Trial", "run", "LTubeChain$Site;", true)
  | 2 => ("TubeChain$Trial", "fellBy", "[I", true)
  | 3 => ("TubeChain$Trial", "risen", "I", false)
  | 4 => ("TubeChain$Trial", "latest", "I", false)
  | _ => ("TubeChain$Trial", "fell", "I", false)
def ty_2 : Nat → FieldType := fun k => match k with
  | 0 => (.object "TubeChain$Site")
  | 1 => (.object "TubeChain$Site")
  | 2 => (.array .int)
  | 3 => .int
  | 4 => .int
  | _ => .int
theorem nm_2 : ∀ a, a < 6 → ∀ b, b < 6 → a ≠ b → (T_2 a).2.1 ≠ (T_2 b).2.1 := by decide +kernel
theorem ty_2_ok : ∀ k, k < 6 → parseFieldDescriptor (T_2 k).2.2.1 = some (ty_2 k) := by decide +kernel
theorem in_2 : ∀ w ∈ u_ws R_2 T_2 6, w ∈ lw_tbl := by decide +kernel
def R_3 : String := "TubeChain$Scaffold"
def T_3 : u_T := fun k => match k with
  | 0 => ("TubeChain$Scaffold", "codes", "[I", true)
  | 1 => ("TubeChain$Scaffold", "values", "[I", true)
  | 2 => ("TubeChain$Scaffold", "known", "[J", true)
  | 3 => ("TubeChain$Scaffold", "text", "[C", false)
  | 4 => ("TubeChain$Scaffold", "codeCount", "I", false)
  | 5 => ("TubeChain$Scaffold", "length", "I", false)
  | 6 => ("TubeChain$Scaffold", "at", "I", false)
  | 7 => ("TubeChain$Scaffold", "rise", "I", false)
  | 8 => ("TubeChain$Scaffold", "rest", "I", false)
  | _ => ("TubeChain$Scaffold", "pull", "I", false)
def ty_3 : Nat → FieldType := fun k => match k with
  | 0 => (.array .int)
  | 1 => (.array .int)
  | 2 => (.array .long)
  | 3 => (.array .char)
  | 4 => .int
  | 5 => .int
  | 6 => .int
  | 7 => .int
  | 8 => .int
  | _ => .int
theorem nm_3 : ∀ a, a < 10 → ∀ b, b < 10 → a ≠ b → (T_3 a).2.1 ≠ (T_3 b).2.1 := by decide +kernel
theorem ty_3_ok : ∀ k, k < 10 → parseFieldDescriptor (T_3 k).2.2.1 = some (ty_3 k) := by decide +kernel
theorem in_3 : ∀ w ∈ u_ws R_3 T_3 10, w ∈ lw_tbl := by decide +kernel
def R_4 : String := "TubeChain$Tape"
def T_4 : u_T := fun k => match k with
  | 0 => ("TubeChain$Tape", "items", "[J", true)
  | 1 => ("TubeChain$Tape", "sort", "I", false)
  | _ => ("TubeChain$Tape", "length", "I", false)
def ty_4 : Nat → FieldType := fun k => match k with
  | 0 => (.array .long)
  | 1 => .int
  | _ => .int
theorem nm_4 : ∀ a, a < 3 → ∀ b, b < 3 → a ≠ b → (T_4 a).2.1 ≠ (T_4 b).2.1 := by decide +kernel
theorem ty_4_ok : ∀ k, k < 3 → parseFieldDescriptor (T_4 k).2.2.1 = some (ty_4 k) := by decide +kernel
theorem in_4 : ∀ w ∈ u_ws R_4 T_4 3, w ∈ lw_tbl := by decide +kernel
def R_5 : String := "TubeChain$Man"
def T_5 : u_T := fun k => match k with
  | 0 => ("TubeChain$Man", "number", "I", true)
  | _ => ("TubeChain$Man", "v", "I", true)
def ty_5 : Nat → FieldType := fun k => match k with
  | 0 => .int
  | _ => .int
theorem nm_5 : ∀ a, a < 2 → ∀ b, b < 2 → a ≠ b → (T_5 a).2.1 ≠ (T_5 b).2.1 := by decide +kernel
theorem ty_5_ok : ∀ k, k < 2 → parseFieldDescriptor (T_5 k).2.2.1 = some (ty_5 k) := by decide +kernel
theorem in_5 : ∀ w ∈ u_ws R_5 T_5 2, w ∈ lw_tbl := by decide +kernel
def R_6 : String := "TubeChain$Strong"
def T_6 : u_T := fun k => match k with
  | 0 => ("TubeChain$Man", "number", "I", true)
  | _ => ("TubeChain$Man", "v", "I", true)
def ty_6 : Nat → FieldType := fun k => match k with
  | 0 => .int
  | _ => .int
theorem nm_6 : ∀ a, a < 2 → ∀ b, b < 2 → a ≠ b → (T_6 a).2.1 ≠ (T_6 b).2.1 := by decide +kernel
theorem ty_6_ok : ∀ k, k < 2 → parseFieldDescriptor (T_6 k).2.2.1 = some (ty_6 k) := by decide +kernel
theorem in_6 : ∀ w ∈ u_ws R_6 T_6 2, w ∈ lw_tbl := by decide +kernel
def R_7 : String := "TubeChain$Gloved"
def T_7 : u_T := fun k => match k with
  | 0 => ("TubeChain$Man", "number", "I", true)
  | _ => ("TubeChain$Man", "v", "I", true)
def ty_7 : Nat → FieldType := fun k => match k with
  | 0 => .int
  | _ => .int
theorem nm_7 : ∀ a, a < 2 → ∀ b, b < 2 → a ≠ b → (T_7 a).2.1 ≠ (T_7 b).2.1 := by decide +kernel
theorem ty_7_ok : ∀ k, k < 2 → parseFieldDescriptor (T_7 k).2.2.1 = some (ty_7 k) := by decide +kernel
theorem in_7 : ∀ w ∈ u_ws R_7 T_7 2, w ∈ lw_tbl := by decide +kernel
def R_8 : String := "TubeChain$Tiring"
def T_8 : u_T := fun k => match k with
  | 0 => ("TubeChain$Man", "number", "I", true)
  | _ => ("TubeChain$Man", "v", "I", true)
def ty_8 : Nat → FieldType := fun k => match k with
  | 0 => .int
  | _ => .int
theorem nm_8 : ∀ a, a < 2 → ∀ b, b < 2 → a ≠ b → (T_8 a).2.1 ≠ (T_8 b).2.1 := by decide +kernel
theorem ty_8_ok : ∀ k, k < 2 → parseFieldDescriptor (T_8 k).2.2.1 = some (ty_8 k) := by decide +kernel
theorem in_8 : ∀ w ∈ u_ws R_8 T_8 2, w ∈ lw_tbl := by decide +kernel
def R_9 : String := "TubeChain$Calling"
def T_9 : u_T := fun k => match k with
  | 0 => ("TubeChain$Man", "number", "I", true)
  | _ => ("TubeChain$Man", "v", "I", true)
def ty_9 : Nat → FieldType := fun k => match k with
  | 0 => .int
  | _ => .int
theorem nm_9 : ∀ a, a < 2 → ∀ b, b < 2 → a ≠ b → (T_9 a).2.1 ≠ (T_9 b).2.1 := by decide +kernel
theorem ty_9_ok : ∀ k, k < 2 → parseFieldDescriptor (T_9 k).2.2.1 = some (ty_9 k) := by decide +kernel
theorem in_9 : ∀ w ∈ u_ws R_9 T_9 2, w ∈ lw_tbl := by decide +kernel
def R_10 : String := "TubeChain$Slipping"
def T_10 : u_T := fun k => match k with
  | 0 => ("TubeChain$Man", "number", "I", true)
  | _ => ("TubeChain$Man", "v", "I", true)
def ty_10 : Nat → FieldType := fun k => match k with
  | 0 => .int
  | _ => .int
theorem nm_10 : ∀ a, a < 2 → ∀ b, b < 2 → a ≠ b → (T_10 a).2.1 ≠ (T_10 b).2.1 := by decide +kernel
theorem ty_10_ok : ∀ k, k < 2 → parseFieldDescriptor (T_10 k).2.2.1 = some (ty_10 k) := by decide +kernel
theorem in_10 : ∀ w ∈ u_ws R_10 T_10 2, w ∈ lw_tbl := by decide +kernel
def R_11 : String := "TubeChain$Told"
def T_11 : u_T := fun k => match k with
  | 0 => ("TubeChain$Man", "number", "I", true)
  | _ => ("TubeChain$Man", "v", "I", true)
def ty_11 : Nat → FieldType := fun k => match k with
  | 0 => .int
  | _ => .int
theorem nm_11 : ∀ a, a < 2 → ∀ b, b < 2 → a ≠ b → (T_11 a).2.1 ≠ (T_11 b).2.1 := by decide +kernel
theorem ty_11_ok : ∀ k, k < 2 → parseFieldDescriptor (T_11 k).2.2.1 = some (ty_11 k) := by decide +kernel
theorem in_11 : ∀ w ∈ u_ws R_11 T_11 2, w ∈ lw_tbl := by decide +kernel
def R_12 : String := "TubeChainModel"
def T_12 : u_T := fun k => match k with
  | 0 => ("TubeChainModel", "men", "I", false)
  | 1 => ("TubeChainModel", "chained", "I", false)
  | 2 => ("TubeChainModel", "tenths", "I", false)
  | 3 => ("TubeChainModel", "ups", "I", false)
  | 4 => ("TubeChainModel", "fallen", "I", false)
  | 5 => ("TubeChainModel", "kind", "[I", true)
  | 6 => ("TubeChainModel", "v", "[I", true)
  | 7 => ("TubeChainModel", "times", "[I", true)
  | 8 => ("TubeChainModel", "free", "[I", true)
  | 9 => ("TubeChainModel", "rows", "[I", true)
  | 10 => ("TubeChainModel", "chain", "[I", true)
  | 11 => ("TubeChainModel", "scaffolds", "I", false)
  | 12 => ("TubeChainModel", "the", "I", false)
  | 13 => ("TubeChainModel", "fed", "I", false)
  | 14 => ("TubeChainModel", "at", "I", false)
  | 15 => ("TubeChainModel", "digits", "I", false)
  | 16 => ("TubeChainModel", "text", "[I", true)
  | 17 => ("TubeChainModel", "clauses", "[I", true)
  | 18 => ("TubeChainModel", "word", "[I", true)
  | 19 => ("TubeChainModel", "number", "[I", true)
  | 20 => ("TubeChainModel", "from", "[I", true)
  | 21 => ("TubeChainModel", "to", "[I", true)
  | 22 => ("TubeChainModel", "sign", "[I", true)
  | 23 => ("TubeChainModel", "waits", "[I", true)
  | 24 => ("TubeChainModel", "signs", "I", false)
  | 25 => ("TubeChainModel", "waiting", "I", false)
  | 26 => ("TubeChainModel", "open", "I", false)
  | 27 => ("TubeChainModel", "letters", "[I", true)
  | 28 => ("TubeChainModel", "pile", "[Z", true)
  | 29 => ("TubeChainModel", "placeSeen", "I", false)
  | 30 => ("TubeChainModel", "faller", "I", false)
  | 31 => ("TubeChainModel", "cameUp", "I", false)
  | 32 => ("TubeChainModel", "mostTimes", "I", false)
  | 33 => ("TubeChainModel", "keptTenths", "I", false)
  | 34 => ("TubeChainModel", "keptTimes", "[I", true)
  | 35 => ("TubeChainModel", "keptFree", "[I", true)
  | 36 => ("TubeChainModel", "many", "I", false)
  | 37 => ("TubeChainModel", "upSet", "I", false)
  | 38 => ("TubeChainModel", "latest", "I", false)
  | 39 => ("TubeChainModel", "drops", "[I", true)
  | 40 => ("TubeChainModel", "keptChain", "[I", true)
  | 41 => ("TubeChainModel", "bestChain", "[I", true)
  | 42 => ("TubeChainModel", "seen", "I", false)
  | 43 => ("TubeChainModel", "seenTube", "[I", true)
  | 44 => ("TubeChainModel", "books", "I", false)
  | 45 => ("TubeChainModel", "bookTube", "[I", true)
  | 46 => ("TubeChainModel", "bookUp", "[Z", true)
  | 47 => ("TubeChainModel", "hasImage", "Z", false)
  | 48 => ("TubeChainModel", "imageThe", "I", false)
  | 49 => ("TubeChainModel", "imageMen", "I", false)
  | 50 => ("TubeChainModel", "imageTenths", "I", false)
  | 51 => ("TubeChainModel", "imageUps", "I", false)
  | 52 => ("TubeChainModel", "imageFallen", "I", false)
  | 53 => ("TubeChainModel", "imageSeen", "I", false)
  | 54 => ("TubeChainModel", "imageBooks", "I", false)
  | 55 => ("TubeChainModel", "imageKind", "[I", true)
  | 56 => ("TubeChainModel", "imageV", "[I", true)
  | 57 => ("TubeChainModel", "imageTimes", "[I", true)
  | 58 => ("TubeChainModel", "imageFree", "[I", true)
  | 59 => ("TubeChainModel", "imageChain", "[I", true)
  | 60 => ("TubeChainModel", "imageRows", "[I", true)
  | 61 => ("TubeChainModel", "imageTube", "[I", true)
  | 62 => ("TubeChainModel", "imageBook", "[I", true)
  | 63 => ("TubeChainModel", "imageUp", "[Z", true)
  | 64 => ("TubeChainModel", "ran", "I", false)
  | 65 => ("TubeChainModel", "bodies", "[I", true)
  | 66 => ("TubeChainModel", "sort", "[I", true)
  | 67 => ("TubeChainModel", "length", "[I", true)
  | 68 => ("TubeChainModel", "item", "[J", true)
  | _ => ("TubeChainModel", "aside", "[J", true)
def ty_12 : Nat → FieldType := fun k => match k with
  | 0 => .int
  | 1 => .int
  | 2 => .int
  | 3 => .int
  | 4 => .int
  | 5 => (.array .int)
  | 6 => (.array .int)
  | 7 => (.array .int)
  | 8 => (.array .int)
  | 9 => (.array .int)
  | 10 => (.array .int)
  | 11 => .int
  | 12 => .int
  | 13 => .int
  | 14 => .int
  | 15 => .int
  | 16 => (.array .int)
  | 17 => (.array .int)
  | 18 => (.array .int)
  | 19 => (.array .int)
  | 20 => (.array .int)
  | 21 => (.array .int)
  | 22 => (.array .int)
  | 23 => (.array .int)
  | 24 => .int
  | 25 => .int
  | 26 => .int
  | 27 => (.array .int)
  | 28 => (.array .boolean)
  | 29 => .int
  | 30 => .int
  | 31 => .int
  | 32 => .int
  | 33 => .int
  | 34 => (.array .int)
  | 35 => (.array .int)
  | 36 => .int
  | 37 => .int
  | 38 => .int
  | 39 => (.array .int)
  | 40 => (.array .int)
  | 41 => (.array .int)
  | 42 => .int
  | 43 => (.array .int)
  | 44 => .int
  | 45 => (.array .int)
  | 46 => (.array .boolean)
  | 47 => .boolean
  | 48 => .int
  | 49 => .int
  | 50 => .int
  | 51 => .int
  | 52 => .int
  | 53 => .int
  | 54 => .int
  | 55 => (.array .int)
  | 56 => (.array .int)
  | 57 => (.array .int)
  | 58 => (.array .int)
  | 59 => (.array .int)
  | 60 => (.array .int)
  | 61 => (.array .int)
  | 62 => (.array .int)
  | 63 => (.array .boolean)
  | 64 => .int
  | 65 => (.array .int)
  | 66 => (.array .int)
  | 67 => (.array .int)
  | 68 => (.array .long)
  | _ => (.array .long)
theorem nm_12 : ∀ a, a < 70 → ∀ b, b < 70 → a ≠ b → (T_12 a).2.1 ≠ (T_12 b).2.1 := by decide +kernel
theorem ty_12_ok : ∀ k, k < 70 → parseFieldDescriptor (T_12 k).2.2.1 = some (ty_12 k) := by decide +kernel
theorem in_12 : ∀ w ∈ u_ws R_12 T_12 70, w ∈ lw_tbl := by decide +kernel
def px_cls : List vw_C := [(R_0, T_0, 11), (R_1, T_1, 15), (R_2, T_2, 6), (R_3, T_3, 10), (R_4, T_4, 3), (R_5, T_5, 2), (R_6, T_6, 2), (R_7, T_7, 2), (R_8, T_8, 2), (R_9, T_9, 2), (R_10, T_10, 2), (R_11, T_11, 2), (R_12, T_12, 70)]
theorem px_cls_in : ∀ (ci : Nat) (r : vw_C), px_cls[ci]? = some r → (∀ w ∈ u_ws r.1 r.2.1 r.2.2, w ∈ lw_tbl) ∧ (∃ ty : Nat → FieldType, ∀ k, k < r.2.2 → parseFieldDescriptor (r.2.1 k).2.2.1 = some (ty k)) ∧ (∀ a, a < r.2.2 → ∀ b, b < r.2.2 → a ≠ b → (r.2.1 a).2.1 ≠ (r.2.1 b).2.1) := by
  intro ci r h
  match ci, h with
  | 0, h => cases h; exact ⟨in_0, ⟨ty_0, ty_0_ok⟩, nm_0⟩
  | 1, h => cases h; exact ⟨in_1, ⟨ty_1, ty_1_ok⟩, nm_1⟩
  | 2, h => cases h; exact ⟨in_2, ⟨ty_2, ty_2_ok⟩, nm_2⟩
  | 3, h => cases h; exact ⟨in_3, ⟨ty_3, ty_3_ok⟩, nm_3⟩
  | 4, h => cases h; exact ⟨in_4, ⟨ty_4, ty_4_ok⟩, nm_4⟩
  | 5, h => cases h; exact ⟨in_5, ⟨ty_5, ty_5_ok⟩, nm_5⟩
  | 6, h => cases h; exact ⟨in_6, ⟨ty_6, ty_6_ok⟩, nm_6⟩
  | 7, h => cases h; exact ⟨in_7, ⟨ty_7, ty_7_ok⟩, nm_7⟩
  | 8, h => cases h; exact ⟨in_8, ⟨ty_8, ty_8_ok⟩, nm_8⟩
  | 9, h => cases h; exact ⟨in_9, ⟨ty_9, ty_9_ok⟩, nm_9⟩
  | 10, h => cases h; exact ⟨in_10, ⟨ty_10, ty_10_ok⟩, nm_10⟩
  | 11, h => cases h; exact ⟨in_11, ⟨ty_11, ty_11_ok⟩, nm_11⟩
  | 12, h => cases h; exact ⟨in_12, ⟨ty_12, ty_12_ok⟩, nm_12⟩
  | k + 13, h => simp [px_cls] at h
