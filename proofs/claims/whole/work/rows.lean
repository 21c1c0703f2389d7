section
-- ===== PART A: goes FIRST, ahead of the names: the tables' words, and 'selects' of the private methods out of them =====
/-- a private method of a class that the tables say can be made, by its rows of tables_1 -/
def lw_okq (q : MethodName × Nat) : Prop := (q.1.cls ≠ "java/lang/invoke/MethodHandle" ∧ q.1.cls ≠ "java/lang/invoke/VarHandle") ∧ Cond.instantiable q.1.cls q.2 ∈ tables_1 ∧ Cond.privateMethod q.1 ∈ tables_1 ∧ Cond.instanceMethod q.1 ∈ tables_1
theorem lw_p0 : lw_okq (⟨"TubeChain", "isNoMan", "(I)Z"⟩, 11) := ⟨⟨by decide +kernel, by decide +kernel⟩, List.mem_of_getElem? (i := 23) (by decide +kernel), List.mem_of_getElem? (i := 336) (by decide +kernel), List.mem_of_getElem? (i := 337) (by decide +kernel)⟩
theorem lw_p1 : lw_okq (⟨"TubeChain$Scaffold", "reckonPace", "(LTubeChain$Man;II)I"⟩, 10) := ⟨⟨by decide +kernel, by decide +kernel⟩, List.mem_of_getElem? (i := 31) (by decide +kernel), List.mem_of_getElem? (i := 375) (by decide +kernel), List.mem_of_getElem? (i := 376) (by decide +kernel)⟩
theorem lw_p2 : lw_okq (⟨"TubeChain$Scaffold", "test", "(I)I"⟩, 10) := ⟨⟨by decide +kernel, by decide +kernel⟩, List.mem_of_getElem? (i := 31) (by decide +kernel), List.mem_of_getElem? (i := 383) (by decide +kernel), List.mem_of_getElem? (i := 384) (by decide +kernel)⟩
theorem lw_p3 : lw_okq (⟨"TubeChain$Scaffold", "readClause", "()Z"⟩, 10) := ⟨⟨by decide +kernel, by decide +kernel⟩, List.mem_of_getElem? (i := 31) (by decide +kernel), List.mem_of_getElem? (i := 447) (by decide +kernel), List.mem_of_getElem? (i := 448) (by decide +kernel)⟩
theorem lw_p4 : lw_okq (⟨"TubeChain$Scaffold", "readWord", "()I"⟩, 10) := ⟨⟨by decide +kernel, by decide +kernel⟩, List.mem_of_getElem? (i := 31) (by decide +kernel), List.mem_of_getElem? (i := 451) (by decide +kernel), List.mem_of_getElem? (i := 452) (by decide +kernel)⟩
theorem lw_p5 : lw_okq (⟨"TubeChain$Scaffold", "passes", "(C)Z"⟩, 10) := ⟨⟨by decide +kernel, by decide +kernel⟩, List.mem_of_getElem? (i := 31) (by decide +kernel), List.mem_of_getElem? (i := 504) (by decide +kernel), List.mem_of_getElem? (i := 505) (by decide +kernel)⟩
theorem lw_p6 : lw_okq (⟨"TubeChain$Scaffold", "readNumber", "()I"⟩, 10) := ⟨⟨by decide +kernel, by decide +kernel⟩, List.mem_of_getElem? (i := 31) (by decide +kernel), List.mem_of_getElem? (i := 508) (by decide +kernel), List.mem_of_getElem? (i := 509) (by decide +kernel)⟩
theorem lw_p7 : lw_okq (⟨"TubeChain$Scaffold", "readEither", "(I)Z"⟩, 10) := ⟨⟨by decide +kernel, by decide +kernel⟩, List.mem_of_getElem? (i := 31) (by decide +kernel), List.mem_of_getElem? (i := 512) (by decide +kernel), List.mem_of_getElem? (i := 513) (by decide +kernel)⟩
theorem lw_p8 : lw_okq (⟨"TubeChain$Scaffold", "readBoth", "(I)Z"⟩, 10) := ⟨⟨by decide +kernel, by decide +kernel⟩, List.mem_of_getElem? (i := 31) (by decide +kernel), List.mem_of_getElem? (i := 516) (by decide +kernel), List.mem_of_getElem? (i := 517) (by decide +kernel)⟩
theorem lw_p9 : lw_okq (⟨"TubeChain$Scaffold", "readOne", "(I)Z"⟩, 10) := ⟨⟨by decide +kernel, by decide +kernel⟩, List.mem_of_getElem? (i := 31) (by decide +kernel), List.mem_of_getElem? (i := 520) (by decide +kernel), List.mem_of_getElem? (i := 521) (by decide +kernel)⟩
theorem lw_p10 : lw_okq (⟨"TubeChain$Scaffold", "readTest", "()Z"⟩, 10) := ⟨⟨by decide +kernel, by decide +kernel⟩, List.mem_of_getElem? (i := 31) (by decide +kernel), List.mem_of_getElem? (i := 524) (by decide +kernel), List.mem_of_getElem? (i := 525) (by decide +kernel)⟩
theorem lw_p11 : lw_okq (⟨"TubeChain$Scaffold", "emit", "(I)Z"⟩, 10) := ⟨⟨by decide +kernel, by decide +kernel⟩, List.mem_of_getElem? (i := 31) (by decide +kernel), List.mem_of_getElem? (i := 585) (by decide +kernel), List.mem_of_getElem? (i := 586) (by decide +kernel)⟩
theorem lw_p12 : lw_okq (⟨"TubeChain$Trial", "blame", "(I)V"⟩, 6) := ⟨⟨by decide +kernel, by decide +kernel⟩, List.mem_of_getElem? (i := 173) (by decide +kernel), List.mem_of_getElem? (i := 650) (by decide +kernel), List.mem_of_getElem? (i := 651) (by decide +kernel)⟩
theorem lw_p13 : lw_okq (⟨"TubeChain", "pulleyLoses", "(II)I"⟩, 11) := ⟨⟨by decide +kernel, by decide +kernel⟩, List.mem_of_getElem? (i := 23) (by decide +kernel), List.mem_of_getElem? (i := 707) (by decide +kernel), List.mem_of_getElem? (i := 708) (by decide +kernel)⟩
theorem lw_p14 : lw_okq (⟨"TubeChain", "startWithTired", "(I)V"⟩, 11) := ⟨⟨by decide +kernel, by decide +kernel⟩, List.mem_of_getElem? (i := 23) (by decide +kernel), List.mem_of_getElem? (i := 738) (by decide +kernel), List.mem_of_getElem? (i := 739) (by decide +kernel)⟩
theorem lw_p15 : lw_okq (⟨"TubeChainModel", "in", "(III)Z"⟩, 70) := ⟨⟨by decide +kernel, by decide +kernel⟩, List.mem_of_getElem? (i := 916) (by decide +kernel), List.mem_of_getElem? (i := 1138) (by decide +kernel), List.mem_of_getElem? (i := 1139) (by decide +kernel)⟩
def lw_privs_1 : List (MethodName × Nat) := [(⟨"TubeChain", "isNoMan", "(I)Z"⟩, 11), (⟨"TubeChain$Scaffold", "reckonPace", "(LTubeChain$Man;II)I"⟩, 10), (⟨"TubeChain$Scaffold", "test", "(I)I"⟩, 10), (⟨"TubeChain$Scaffold", "readClause", "()Z"⟩, 10), (⟨"TubeChain$Scaffold", "readWord", "()I"⟩, 10), (⟨"TubeChain$Scaffold", "passes", "(C)Z"⟩, 10), (⟨"TubeChain$Scaffold", "readNumber", "()I"⟩, 10), (⟨"TubeChain$Scaffold", "readEither", "(I)Z"⟩, 10), (⟨"TubeChain$Scaffold", "readBoth", "(I)Z"⟩, 10), (⟨"TubeChain$Scaffold", "readOne", "(I)Z"⟩, 10), (⟨"TubeChain$Scaffold", "readTest", "()Z"⟩, 10), (⟨"TubeChain$Scaffold", "emit", "(I)Z"⟩, 10), (⟨"TubeChain$Trial", "blame", "(I)V"⟩, 6), (⟨"TubeChain", "pulleyLoses", "(II)I"⟩, 11), (⟨"TubeChain", "startWithTired", "(I)V"⟩, 11), (⟨"TubeChainModel", "in", "(III)Z"⟩, 70)]
theorem lw_r1 : ∀ q ∈ lw_privs_1, lw_okq q := List.forall_mem_cons.mpr ⟨lw_p0, List.forall_mem_cons.mpr ⟨lw_p1, List.forall_mem_cons.mpr ⟨lw_p2, List.forall_mem_cons.mpr ⟨lw_p3, List.forall_mem_cons.mpr ⟨lw_p4, List.forall_mem_cons.mpr ⟨lw_p5, List.forall_mem_cons.mpr ⟨lw_p6, List.forall_mem_cons.mpr ⟨lw_p7, List.forall_mem_cons.mpr ⟨lw_p8, List.forall_mem_cons.mpr ⟨lw_p9, List.forall_mem_cons.mpr ⟨lw_p10, List.forall_mem_cons.mpr ⟨lw_p11, List.forall_mem_cons.mpr ⟨lw_p12, List.forall_mem_cons.mpr ⟨lw_p13, List.forall_mem_cons.mpr ⟨lw_p14, List.forall_mem_cons.mpr ⟨lw_p15, fun _ h => absurd h List.not_mem_nil⟩⟩⟩⟩⟩⟩⟩⟩⟩⟩⟩⟩⟩⟩⟩⟩
theorem lw_p16 : lw_okq (⟨"TubeChainModel", "isMan", "(I)Z"⟩, 70) := ⟨⟨by decide +kernel, by decide +kernel⟩, List.mem_of_getElem? (i := 916) (by decide +kernel), List.mem_of_getElem? (i := 1146) (by decide +kernel), List.mem_of_getElem? (i := 1147) (by decide +kernel)⟩
theorem lw_p17 : lw_okq (⟨"TubeChainModel", "placeOf", "(I)I"⟩, 70) := ⟨⟨by decide +kernel, by decide +kernel⟩, List.mem_of_getElem? (i := 916) (by decide +kernel), List.mem_of_getElem? (i := 1158) (by decide +kernel), List.mem_of_getElem? (i := 1159) (by decide +kernel)⟩
theorem lw_p18 : lw_okq (⟨"TubeChainModel", "goesText", "(I)Z"⟩, 70) := ⟨⟨by decide +kernel, by decide +kernel⟩, List.mem_of_getElem? (i := 916) (by decide +kernel), List.mem_of_getElem? (i := 1170) (by decide +kernel), List.mem_of_getElem? (i := 1171) (by decide +kernel)⟩
theorem lw_p19 : lw_okq (⟨"TubeChainModel", "takesClause", "(I)Z"⟩, 70) := ⟨⟨by decide +kernel, by decide +kernel⟩, List.mem_of_getElem? (i := 916) (by decide +kernel), List.mem_of_getElem? (i := 1174) (by decide +kernel), List.mem_of_getElem? (i := 1175) (by decide +kernel)⟩
theorem lw_p20 : lw_okq (⟨"TubeChainModel", "takesHead", "(I)Z"⟩, 70) := ⟨⟨by decide +kernel, by decide +kernel⟩, List.mem_of_getElem? (i := 916) (by decide +kernel), List.mem_of_getElem? (i := 1178) (by decide +kernel), List.mem_of_getElem? (i := 1179) (by decide +kernel)⟩
theorem lw_p21 : lw_okq (⟨"TubeChainModel", "next", "()I"⟩, 70) := ⟨⟨by decide +kernel, by decide +kernel⟩, List.mem_of_getElem? (i := 916) (by decide +kernel), List.mem_of_getElem? (i := 1182) (by decide +kernel), List.mem_of_getElem? (i := 1183) (by decide +kernel)⟩
theorem lw_p22 : lw_okq (⟨"TubeChainModel", "takesWord", "(II)Z"⟩, 70) := ⟨⟨by decide +kernel, by decide +kernel⟩, List.mem_of_getElem? (i := 916) (by decide +kernel), List.mem_of_getElem? (i := 1186) (by decide +kernel), List.mem_of_getElem? (i := 1187) (by decide +kernel)⟩
theorem lw_p23 : lw_okq (⟨"TubeChainModel", "takes", "(I)Z"⟩, 70) := ⟨⟨by decide +kernel, by decide +kernel⟩, List.mem_of_getElem? (i := 916) (by decide +kernel), List.mem_of_getElem? (i := 1190) (by decide +kernel), List.mem_of_getElem? (i := 1191) (by decide +kernel)⟩
theorem lw_p24 : lw_okq (⟨"TubeChainModel", "second", "()I"⟩, 70) := ⟨⟨by decide +kernel, by decide +kernel⟩, List.mem_of_getElem? (i := 916) (by decide +kernel), List.mem_of_getElem? (i := 1194) (by decide +kernel), List.mem_of_getElem? (i := 1195) (by decide +kernel)⟩
theorem lw_p25 : lw_okq (⟨"TubeChainModel", "takesNumber", "()Z"⟩, 70) := ⟨⟨by decide +kernel, by decide +kernel⟩, List.mem_of_getElem? (i := 916) (by decide +kernel), List.mem_of_getElem? (i := 1198) (by decide +kernel), List.mem_of_getElem? (i := 1199) (by decide +kernel)⟩
theorem lw_p26 : lw_okq (⟨"TubeChainModel", "isDigit", "()Z"⟩, 70) := ⟨⟨by decide +kernel, by decide +kernel⟩, List.mem_of_getElem? (i := 916) (by decide +kernel), List.mem_of_getElem? (i := 1202) (by decide +kernel), List.mem_of_getElem? (i := 1203) (by decide +kernel)⟩
theorem lw_p27 : lw_okq (⟨"TubeChainModel", "takesE", "(I)Z"⟩, 70) := ⟨⟨by decide +kernel, by decide +kernel⟩, List.mem_of_getElem? (i := 916) (by decide +kernel), List.mem_of_getElem? (i := 1206) (by decide +kernel), List.mem_of_getElem? (i := 1207) (by decide +kernel)⟩
theorem lw_p28 : lw_okq (⟨"TubeChainModel", "takesTest", "()Z"⟩, 70) := ⟨⟨by decide +kernel, by decide +kernel⟩, List.mem_of_getElem? (i := 916) (by decide +kernel), List.mem_of_getElem? (i := 1210) (by decide +kernel), List.mem_of_getElem? (i := 1211) (by decide +kernel)⟩
theorem lw_p29 : lw_okq (⟨"TubeChainModel", "letterAt", "(I)I"⟩, 70) := ⟨⟨by decide +kernel, by decide +kernel⟩, List.mem_of_getElem? (i := 916) (by decide +kernel), List.mem_of_getElem? (i := 1214) (by decide +kernel), List.mem_of_getElem? (i := 1215) (by decide +kernel)⟩
theorem lw_p30 : lw_okq (⟨"TubeChainModel", "emits", "(I)V"⟩, 70) := ⟨⟨by decide +kernel, by decide +kernel⟩, List.mem_of_getElem? (i := 916) (by decide +kernel), List.mem_of_getElem? (i := 1218) (by decide +kernel), List.mem_of_getElem? (i := 1219) (by decide +kernel)⟩
theorem lw_p31 : lw_okq (⟨"TubeChainModel", "whole", "()V"⟩, 70) := ⟨⟨by decide +kernel, by decide +kernel⟩, List.mem_of_getElem? (i := 916) (by decide +kernel), List.mem_of_getElem? (i := 1222) (by decide +kernel), List.mem_of_getElem? (i := 1223) (by decide +kernel)⟩
def lw_privs_2 : List (MethodName × Nat) := [(⟨"TubeChainModel", "isMan", "(I)Z"⟩, 70), (⟨"TubeChainModel", "placeOf", "(I)I"⟩, 70), (⟨"TubeChainModel", "goesText", "(I)Z"⟩, 70), (⟨"TubeChainModel", "takesClause", "(I)Z"⟩, 70), (⟨"TubeChainModel", "takesHead", "(I)Z"⟩, 70), (⟨"TubeChainModel", "next", "()I"⟩, 70), (⟨"TubeChainModel", "takesWord", "(II)Z"⟩, 70), (⟨"TubeChainModel", "takes", "(I)Z"⟩, 70), (⟨"TubeChainModel", "second", "()I"⟩, 70), (⟨"TubeChainModel", "takesNumber", "()Z"⟩, 70), (⟨"TubeChainModel", "isDigit", "()Z"⟩, 70), (⟨"TubeChainModel", "takesE", "(I)Z"⟩, 70), (⟨"TubeChainModel", "takesTest", "()Z"⟩, 70), (⟨"TubeChainModel", "letterAt", "(I)I"⟩, 70), (⟨"TubeChainModel", "emits", "(I)V"⟩, 70), (⟨"TubeChainModel", "whole", "()V"⟩, 70)]
theorem lw_r2 : ∀ q ∈ lw_privs_2, lw_okq q := List.forall_mem_cons.mpr ⟨lw_p16, List.forall_mem_cons.mpr ⟨lw_p17, List.forall_mem_cons.mpr ⟨lw_p18, List.forall_mem_cons.mpr ⟨lw_p19, List.forall_mem_cons.mpr ⟨lw_p20, List.forall_mem_cons.mpr ⟨lw_p21, List.forall_mem_cons.mpr ⟨lw_p22, List.forall_mem_cons.mpr ⟨lw_p23, List.forall_mem_cons.mpr ⟨lw_p24, List.forall_mem_cons.mpr ⟨lw_p25, List.forall_mem_cons.mpr ⟨lw_p26, List.forall_mem_cons.mpr ⟨lw_p27, List.forall_mem_cons.mpr ⟨lw_p28, List.forall_mem_cons.mpr ⟨lw_p29, List.forall_mem_cons.mpr ⟨lw_p30, List.forall_mem_cons.mpr ⟨lw_p31, fun _ h => absurd h List.not_mem_nil⟩⟩⟩⟩⟩⟩⟩⟩⟩⟩⟩⟩⟩⟩⟩⟩
theorem lw_p32 : lw_okq (⟨"TubeChainModel", "settle", "(I)V"⟩, 70) := ⟨⟨by decide +kernel, by decide +kernel⟩, List.mem_of_getElem? (i := 916) (by decide +kernel), List.mem_of_getElem? (i := 1226) (by decide +kernel), List.mem_of_getElem? (i := 1227) (by decide +kernel)⟩
theorem lw_p33 : lw_okq (⟨"TubeChainModel", "pace", "(I)I"⟩, 70) := ⟨⟨by decide +kernel, by decide +kernel⟩, List.mem_of_getElem? (i := 916) (by decide +kernel), List.mem_of_getElem? (i := 1234) (by decide +kernel), List.mem_of_getElem? (i := 1235) (by decide +kernel)⟩
theorem lw_p34 : lw_okq (⟨"TubeChainModel", "begin", "()I"⟩, 70) := ⟨⟨by decide +kernel, by decide +kernel⟩, List.mem_of_getElem? (i := 916) (by decide +kernel), List.mem_of_getElem? (i := 1238) (by decide +kernel), List.mem_of_getElem? (i := 1239) (by decide +kernel)⟩
theorem lw_p35 : lw_okq (⟨"TubeChainModel", "behind", "()I"⟩, 70) := ⟨⟨by decide +kernel, by decide +kernel⟩, List.mem_of_getElem? (i := 916) (by decide +kernel), List.mem_of_getElem? (i := 1242) (by decide +kernel), List.mem_of_getElem? (i := 1243) (by decide +kernel)⟩
theorem lw_p36 : lw_okq (⟨"TubeChainModel", "holdsTest", "(II)Z"⟩, 70) := ⟨⟨by decide +kernel, by decide +kernel⟩, List.mem_of_getElem? (i := 916) (by decide +kernel), List.mem_of_getElem? (i := 1246) (by decide +kernel), List.mem_of_getElem? (i := 1247) (by decide +kernel)⟩
theorem lw_p37 : lw_okq (⟨"TubeChainModel", "factOf", "(II)I"⟩, 70) := ⟨⟨by decide +kernel, by decide +kernel⟩, List.mem_of_getElem? (i := 916) (by decide +kernel), List.mem_of_getElem? (i := 1250) (by decide +kernel), List.mem_of_getElem? (i := 1251) (by decide +kernel)⟩
theorem lw_p38 : lw_okq (⟨"TubeChainModel", "atLeastOne", "(I)I"⟩, 70) := ⟨⟨by decide +kernel, by decide +kernel⟩, List.mem_of_getElem? (i := 916) (by decide +kernel), List.mem_of_getElem? (i := 1254) (by decide +kernel), List.mem_of_getElem? (i := 1255) (by decide +kernel)⟩
theorem lw_p39 : lw_okq (⟨"TubeChainModel", "holdsFor", "(I)I"⟩, 70) := ⟨⟨by decide +kernel, by decide +kernel⟩, List.mem_of_getElem? (i := 916) (by decide +kernel), List.mem_of_getElem? (i := 1258) (by decide +kernel), List.mem_of_getElem? (i := 1259) (by decide +kernel)⟩
theorem lw_p40 : lw_okq (⟨"TubeChainModel", "strongly", "(II)I"⟩, 70) := ⟨⟨by decide +kernel, by decide +kernel⟩, List.mem_of_getElem? (i := 916) (by decide +kernel), List.mem_of_getElem? (i := 1262) (by decide +kernel), List.mem_of_getElem? (i := 1263) (by decide +kernel)⟩
theorem lw_p41 : lw_okq (⟨"TubeChainModel", "rise", "()I"⟩, 70) := ⟨⟨by decide +kernel, by decide +kernel⟩, List.mem_of_getElem? (i := 916) (by decide +kernel), List.mem_of_getElem? (i := 1270) (by decide +kernel), List.mem_of_getElem? (i := 1271) (by decide +kernel)⟩
theorem lw_p42 : lw_okq (⟨"TubeChainModel", "lastOf", "(II)I"⟩, 70) := ⟨⟨by decide +kernel, by decide +kernel⟩, List.mem_of_getElem? (i := 916) (by decide +kernel), List.mem_of_getElem? (i := 1274) (by decide +kernel), List.mem_of_getElem? (i := 1275) (by decide +kernel)⟩
theorem lw_p43 : lw_okq (⟨"TubeChainModel", "rest", "()I"⟩, 70) := ⟨⟨by decide +kernel, by decide +kernel⟩, List.mem_of_getElem? (i := 916) (by decide +kernel), List.mem_of_getElem? (i := 1278) (by decide +kernel), List.mem_of_getElem? (i := 1279) (by decide +kernel)⟩
theorem lw_p44 : lw_okq (⟨"TubeChainModel", "pull", "()I"⟩, 70) := ⟨⟨by decide +kernel, by decide +kernel⟩, List.mem_of_getElem? (i := 916) (by decide +kernel), List.mem_of_getElem? (i := 1282) (by decide +kernel), List.mem_of_getElem? (i := 1283) (by decide +kernel)⟩
theorem lw_p45 : lw_okq (⟨"TubeChainModel", "isBeat", "(I)Z"⟩, 70) := ⟨⟨by decide +kernel, by decide +kernel⟩, List.mem_of_getElem? (i := 916) (by decide +kernel), List.mem_of_getElem? (i := 1290) (by decide +kernel), List.mem_of_getElem? (i := 1291) (by decide +kernel)⟩
theorem lw_p46 : lw_okq (⟨"TubeChainModel", "goTube", "()Z"⟩, 70) := ⟨⟨by decide +kernel, by decide +kernel⟩, List.mem_of_getElem? (i := 916) (by decide +kernel), List.mem_of_getElem? (i := 1295) (by decide +kernel), List.mem_of_getElem? (i := 1296) (by decide +kernel)⟩
theorem lw_p47 : lw_okq (⟨"TubeChainModel", "holdsOnce", "(I)V"⟩, 70) := ⟨⟨by decide +kernel, by decide +kernel⟩, List.mem_of_getElem? (i := 916) (by decide +kernel), List.mem_of_getElem? (i := 1299) (by decide +kernel), List.mem_of_getElem? (i := 1300) (by decide +kernel)⟩
def lw_privs_3 : List (MethodName × Nat) := [(⟨"TubeChainModel", "settle", "(I)V"⟩, 70), (⟨"TubeChainModel", "pace", "(I)I"⟩, 70), (⟨"TubeChainModel", "begin", "()I"⟩, 70), (⟨"TubeChainModel", "behind", "()I"⟩, 70), (⟨"TubeChainModel", "holdsTest", "(II)Z"⟩, 70), (⟨"TubeChainModel", "factOf", "(II)I"⟩, 70), (⟨"TubeChainModel", "atLeastOne", "(I)I"⟩, 70), (⟨"TubeChainModel", "holdsFor", "(I)I"⟩, 70), (⟨"TubeChainModel", "strongly", "(II)I"⟩, 70), (⟨"TubeChainModel", "rise", "()I"⟩, 70), (⟨"TubeChainModel", "lastOf", "(II)I"⟩, 70), (⟨"TubeChainModel", "rest", "()I"⟩, 70), (⟨"TubeChainModel", "pull", "()I"⟩, 70), (⟨"TubeChainModel", "isBeat", "(I)Z"⟩, 70), (⟨"TubeChainModel", "goTube", "()Z"⟩, 70), (⟨"TubeChainModel", "holdsOnce", "(I)V"⟩, 70)]
theorem lw_r3 : ∀ q ∈ lw_privs_3, lw_okq q := List.forall_mem_cons.mpr ⟨lw_p32, List.forall_mem_cons.mpr ⟨lw_p33, List.forall_mem_cons.mpr ⟨lw_p34, List.forall_mem_cons.mpr ⟨lw_p35, List.forall_mem_cons.mpr ⟨lw_p36, List.forall_mem_cons.mpr ⟨lw_p37, List.forall_mem_cons.mpr ⟨lw_p38, List.forall_mem_cons.mpr ⟨lw_p39, List.forall_mem_cons.mpr ⟨lw_p40, List.forall_mem_cons.mpr ⟨lw_p41, List.forall_mem_cons.mpr ⟨lw_p42, List.forall_mem_cons.mpr ⟨lw_p43, List.forall_mem_cons.mpr ⟨lw_p44, List.forall_mem_cons.mpr ⟨lw_p45, List.forall_mem_cons.mpr ⟨lw_p46, List.forall_mem_cons.mpr ⟨lw_p47, fun _ h => absurd h List.not_mem_nil⟩⟩⟩⟩⟩⟩⟩⟩⟩⟩⟩⟩⟩⟩⟩⟩
theorem lw_p48 : lw_okq (⟨"TubeChainModel", "layTubes", "(IIII)V"⟩, 70) := ⟨⟨by decide +kernel, by decide +kernel⟩, List.mem_of_getElem? (i := 916) (by decide +kernel), List.mem_of_getElem? (i := 1311) (by decide +kernel), List.mem_of_getElem? (i := 1312) (by decide +kernel)⟩
theorem lw_p49 : lw_okq (⟨"TubeChainModel", "save", "()V"⟩, 70) := ⟨⟨by decide +kernel, by decide +kernel⟩, List.mem_of_getElem? (i := 916) (by decide +kernel), List.mem_of_getElem? (i := 1315) (by decide +kernel), List.mem_of_getElem? (i := 1316) (by decide +kernel)⟩
theorem lw_p50 : lw_okq (⟨"TubeChainModel", "putBack", "()V"⟩, 70) := ⟨⟨by decide +kernel, by decide +kernel⟩, List.mem_of_getElem? (i := 916) (by decide +kernel), List.mem_of_getElem? (i := 1320) (by decide +kernel), List.mem_of_getElem? (i := 1321) (by decide +kernel)⟩
theorem lw_p51 : lw_okq (⟨"TubeChainModel", "mostDrops", "()I"⟩, 70) := ⟨⟨by decide +kernel, by decide +kernel⟩, List.mem_of_getElem? (i := 916) (by decide +kernel), List.mem_of_getElem? (i := 1324) (by decide +kernel), List.mem_of_getElem? (i := 1325) (by decide +kernel)⟩
theorem lw_p52 : lw_okq (⟨"TubeChainModel", "safeNow", "(I)I"⟩, 70) := ⟨⟨by decide +kernel, by decide +kernel⟩, List.mem_of_getElem? (i := 916) (by decide +kernel), List.mem_of_getElem? (i := 1332) (by decide +kernel), List.mem_of_getElem? (i := 1333) (by decide +kernel)⟩
theorem lw_p53 : lw_okq (⟨"TubeChainModel", "upBy", "(II)I"⟩, 70) := ⟨⟨by decide +kernel, by decide +kernel⟩, List.mem_of_getElem? (i := 916) (by decide +kernel), List.mem_of_getElem? (i := 1336) (by decide +kernel), List.mem_of_getElem? (i := 1337) (by decide +kernel)⟩
theorem lw_p54 : lw_okq (⟨"TubeChainModel", "keepChain", "()V"⟩, 70) := ⟨⟨by decide +kernel, by decide +kernel⟩, List.mem_of_getElem? (i := 916) (by decide +kernel), List.mem_of_getElem? (i := 1352) (by decide +kernel), List.mem_of_getElem? (i := 1353) (by decide +kernel)⟩
theorem lw_p55 : lw_okq (⟨"TubeChainModel", "layOrder", "(I)Z"⟩, 70) := ⟨⟨by decide +kernel, by decide +kernel⟩, List.mem_of_getElem? (i := 916) (by decide +kernel), List.mem_of_getElem? (i := 1356) (by decide +kernel), List.mem_of_getElem? (i := 1357) (by decide +kernel)⟩
theorem lw_p56 : lw_okq (⟨"TubeChainModel", "has", "(II)Z"⟩, 70) := ⟨⟨by decide +kernel, by decide +kernel⟩, List.mem_of_getElem? (i := 916) (by decide +kernel), List.mem_of_getElem? (i := 1360) (by decide +kernel), List.mem_of_getElem? (i := 1361) (by decide +kernel)⟩
theorem lw_p57 : lw_okq (⟨"TubeChainModel", "putChain", "()V"⟩, 70) := ⟨⟨by decide +kernel, by decide +kernel⟩, List.mem_of_getElem? (i := 916) (by decide +kernel), List.mem_of_getElem? (i := 1364) (by decide +kernel), List.mem_of_getElem? (i := 1365) (by decide +kernel)⟩
theorem lw_p58 : lw_okq (⟨"TubeChainModel", "pulleyOf", "(II)I"⟩, 70) := ⟨⟨by decide +kernel, by decide +kernel⟩, List.mem_of_getElem? (i := 916) (by decide +kernel), List.mem_of_getElem? (i := 1376) (by decide +kernel), List.mem_of_getElem? (i := 1377) (by decide +kernel)⟩
theorem lw_p59 : lw_okq (⟨"TubeChainModel", "swaps", "(II)V"⟩, 70) := ⟨⟨by decide +kernel, by decide +kernel⟩, List.mem_of_getElem? (i := 916) (by decide +kernel), List.mem_of_getElem? (i := 1394) (by decide +kernel), List.mem_of_getElem? (i := 1395) (by decide +kernel)⟩
theorem lw_p60 : lw_okq (⟨"TubeChainModel", "lowest", "(III)J"⟩, 70) := ⟨⟨by decide +kernel, by decide +kernel⟩, List.mem_of_getElem? (i := 916) (by decide +kernel), List.mem_of_getElem? (i := 1412) (by decide +kernel), List.mem_of_getElem? (i := 1413) (by decide +kernel)⟩
theorem lw_p61 : lw_okq (⟨"TubeChainModel", "divisor", "(II)I"⟩, 70) := ⟨⟨by decide +kernel, by decide +kernel⟩, List.mem_of_getElem? (i := 916) (by decide +kernel), List.mem_of_getElem? (i := 1416) (by decide +kernel), List.mem_of_getElem? (i := 1417) (by decide +kernel)⟩
theorem lw_p62 : lw_okq (⟨"TubeChainModel", "isTape", "(I)Z"⟩, 70) := ⟨⟨by decide +kernel, by decide +kernel⟩, List.mem_of_getElem? (i := 916) (by decide +kernel), List.mem_of_getElem? (i := 1436) (by decide +kernel), List.mem_of_getElem? (i := 1437) (by decide +kernel)⟩
theorem lw_p63 : lw_okq (⟨"TubeChainModel", "throwsAct", "(II)I"⟩, 70) := ⟨⟨by decide +kernel, by decide +kernel⟩, List.mem_of_getElem? (i := 916) (by decide +kernel), List.mem_of_getElem? (i := 1452) (by decide +kernel), List.mem_of_getElem? (i := 1453) (by decide +kernel)⟩
def lw_privs_4 : List (MethodName × Nat) := [(⟨"TubeChainModel", "layTubes", "(IIII)V"⟩, 70), (⟨"TubeChainModel", "save", "()V"⟩, 70), (⟨"TubeChainModel", "putBack", "()V"⟩, 70), (⟨"TubeChainModel", "mostDrops", "()I"⟩, 70), (⟨"TubeChainModel", "safeNow", "(I)I"⟩, 70), (⟨"TubeChainModel", "upBy", "(II)I"⟩, 70), (⟨"TubeChainModel", "keepChain", "()V"⟩, 70), (⟨"TubeChainModel", "layOrder", "(I)Z"⟩, 70), (⟨"TubeChainModel", "has", "(II)Z"⟩, 70), (⟨"TubeChainModel", "putChain", "()V"⟩, 70), (⟨"TubeChainModel", "pulleyOf", "(II)I"⟩, 70), (⟨"TubeChainModel", "swaps", "(II)V"⟩, 70), (⟨"TubeChainModel", "lowest", "(III)J"⟩, 70), (⟨"TubeChainModel", "divisor", "(II)I"⟩, 70), (⟨"TubeChainModel", "isTape", "(I)Z"⟩, 70), (⟨"TubeChainModel", "throwsAct", "(II)I"⟩, 70)]
theorem lw_r4 : ∀ q ∈ lw_privs_4, lw_okq q := List.forall_mem_cons.mpr ⟨lw_p48, List.forall_mem_cons.mpr ⟨lw_p49, List.forall_mem_cons.mpr ⟨lw_p50, List.forall_mem_cons.mpr ⟨lw_p51, List.forall_mem_cons.mpr ⟨lw_p52, List.forall_mem_cons.mpr ⟨lw_p53, List.forall_mem_cons.mpr ⟨lw_p54, List.forall_mem_cons.mpr ⟨lw_p55, List.forall_mem_cons.mpr ⟨lw_p56, List.forall_mem_cons.mpr ⟨lw_p57, List.forall_mem_cons.mpr ⟨lw_p58, List.forall_mem_cons.mpr ⟨lw_p59, List.forall_mem_cons.mpr ⟨lw_p60, List.forall_mem_cons.mpr ⟨lw_p61, List.forall_mem_cons.mpr ⟨lw_p62, List.forall_mem_cons.mpr ⟨lw_p63, fun _ h => absurd h List.not_mem_nil⟩⟩⟩⟩⟩⟩⟩⟩⟩⟩⟩⟩⟩⟩⟩⟩
theorem lw_p64 : lw_okq (⟨"TubeChainModel", "body", "(I)V"⟩, 70) := ⟨⟨by decide +kernel, by decide +kernel⟩, List.mem_of_getElem? (i := 916) (by decide +kernel), List.mem_of_getElem? (i := 1456) (by decide +kernel), List.mem_of_getElem? (i := 1457) (by decide +kernel)⟩
theorem lw_p65 : lw_okq (⟨"TubeChainModel", "manThrows", "(II)I"⟩, 70) := ⟨⟨by decide +kernel, by decide +kernel⟩, List.mem_of_getElem? (i := 916) (by decide +kernel), List.mem_of_getElem? (i := 1460) (by decide +kernel), List.mem_of_getElem? (i := 1461) (by decide +kernel)⟩
theorem lw_p66 : lw_okq (⟨"TubeChainModel", "takesAct", "(II)I"⟩, 70) := ⟨⟨by decide +kernel, by decide +kernel⟩, List.mem_of_getElem? (i := 916) (by decide +kernel), List.mem_of_getElem? (i := 1464) (by decide +kernel), List.mem_of_getElem? (i := 1465) (by decide +kernel)⟩
theorem lw_p67 : lw_okq (⟨"TubeChainModel", "strongTakes", "(II)I"⟩, 70) := ⟨⟨by decide +kernel, by decide +kernel⟩, List.mem_of_getElem? (i := 916) (by decide +kernel), List.mem_of_getElem? (i := 1468) (by decide +kernel), List.mem_of_getElem? (i := 1469) (by decide +kernel)⟩
theorem lw_p68 : lw_okq (⟨"TubeChainModel", "manTakes", "(II)I"⟩, 70) := ⟨⟨by decide +kernel, by decide +kernel⟩, List.mem_of_getElem? (i := 916) (by decide +kernel), List.mem_of_getElem? (i := 1472) (by decide +kernel), List.mem_of_getElem? (i := 1473) (by decide +kernel)⟩
theorem lw_p69 : lw_okq (⟨"TubeChainModel", "tellsAct", "(II)I"⟩, 70) := ⟨⟨by decide +kernel, by decide +kernel⟩, List.mem_of_getElem? (i := 916) (by decide +kernel), List.mem_of_getElem? (i := 1476) (by decide +kernel), List.mem_of_getElem? (i := 1477) (by decide +kernel)⟩
theorem lw_p70 : lw_okq (⟨"TubeChainModel", "manTells", "(II)I"⟩, 70) := ⟨⟨by decide +kernel, by decide +kernel⟩, List.mem_of_getElem? (i := 916) (by decide +kernel), List.mem_of_getElem? (i := 1480) (by decide +kernel), List.mem_of_getElem? (i := 1481) (by decide +kernel)⟩
theorem lw_p71 : lw_okq (⟨"TubeChainModel", "narrow", "(IJ)J"⟩, 70) := ⟨⟨by decide +kernel, by decide +kernel⟩, List.mem_of_getElem? (i := 916) (by decide +kernel), List.mem_of_getElem? (i := 1504) (by decide +kernel), List.mem_of_getElem? (i := 1505) (by decide +kernel)⟩
def lw_privs_5 : List (MethodName × Nat) := [(⟨"TubeChainModel", "body", "(I)V"⟩, 70), (⟨"TubeChainModel", "manThrows", "(II)I"⟩, 70), (⟨"TubeChainModel", "takesAct", "(II)I"⟩, 70), (⟨"TubeChainModel", "strongTakes", "(II)I"⟩, 70), (⟨"TubeChainModel", "manTakes", "(II)I"⟩, 70), (⟨"TubeChainModel", "tellsAct", "(II)I"⟩, 70), (⟨"TubeChainModel", "manTells", "(II)I"⟩, 70), (⟨"TubeChainModel", "narrow", "(IJ)J"⟩, 70)]
theorem lw_r5 : ∀ q ∈ lw_privs_5, lw_okq q := List.forall_mem_cons.mpr ⟨lw_p64, List.forall_mem_cons.mpr ⟨lw_p65, List.forall_mem_cons.mpr ⟨lw_p66, List.forall_mem_cons.mpr ⟨lw_p67, List.forall_mem_cons.mpr ⟨lw_p68, List.forall_mem_cons.mpr ⟨lw_p69, List.forall_mem_cons.mpr ⟨lw_p70, List.forall_mem_cons.mpr ⟨lw_p71, fun _ h => absurd h List.not_mem_nil⟩⟩⟩⟩⟩⟩⟩⟩
def lw_privs : List (MethodName × Nat) := lw_privs_1 ++ (lw_privs_2 ++ (lw_privs_3 ++ (lw_privs_4 ++ (lw_privs_5))))
def lw_tbl : List Cond := k2_sels lw_privs ++ tables_1
theorem lw_privs_ok : ∀ q ∈ lw_privs, lw_okq q := by
  show ∀ q ∈ lw_privs_1 ++ (lw_privs_2 ++ (lw_privs_3 ++ (lw_privs_4 ++ (lw_privs_5)))), lw_okq q
  exact List.forall_mem_append.mpr ⟨lw_r1, List.forall_mem_append.mpr ⟨lw_r2, List.forall_mem_append.mpr ⟨lw_r3, List.forall_mem_append.mpr ⟨lw_r4, lw_r5⟩⟩⟩⟩
-- names: the classes whose objects the heap holds
def R_0 : String := "TubeChain"
def T_0 : u_T := fun k => match k with
  | 0 => ("TubeChain", "now", "LTubeChain$Site;", true)
  | 1 => ("TubeChain", "image", "LTubeChain$Site;", true)
  | 2 => ("TubeChain", "trial", "LTubeChain$Trial;", true)
  | 3 => ("TubeChain", "scaffolds", "[LTubeChain$Scaffold;", true)
  | 4 => ("TubeChain", "text", "[C", true)
  | 5 => ("TubeChain", "tapes", "[LTubeChain$Tape;", true)
  | 6 => ("TubeChain", "ran", "[I", true)
  | 7 => ("TubeChain", "bestRow", "[I", true)
  | 8 => ("TubeChain", "scaffoldCount", "I", false)
  | 9 => ("TubeChain", "textLength", "I", false)
  | _ => ("TubeChain", "hasImage", "Z", false)
def ty_0 : Nat → FieldType := fun k => match k with
  | 0 => (.object "TubeChain$Site")
  | 1 => (.object "TubeChain$Site")
  | 2 => (.object "TubeChain$Trial")
  | 3 => (.array (.object "TubeChain$Scaffold"))
  | 4 => (.array .char)
  | 5 => (.array (.object "TubeChain$Tape"))
  | 6 => (.array .int)
  | 7 => (.array .int)
  | 8 => .int
  | 9 => .int
  | _ => .boolean
theorem nm_0 : ∀ a, a < 11 → ∀ b, b < 11 → a ≠ b → (T_0 a).2.1 ≠ (T_0 b).2.1 := by decide +kernel
theorem ty_0_ok : ∀ k, k < 11 → parseFieldDescriptor (T_0 k).2.2.1 = some (ty_0 k) := by decide +kernel
theorem in_0 : ∀ w ∈ u_ws R_0 T_0 11, w ∈ lw_tbl := by decide +kernel
def R_1 : String := "TubeChain$Site"
def T_1 : u_T := fun k => match k with
  | 0 => ("TubeChain$Site", "men", "[LTubeChain$Man;", true)
  | 1 => ("TubeChain$Site", "held", "[I", true)
  | 2 => ("TubeChain$Site", "free", "[I", true)
  | 3 => ("TubeChain$Site", "rows", "[I", true)
  | 4 => ("TubeChain$Site", "line", "[I", true)
  | 5 => ("TubeChain$Site", "seen", "[I", true)
  | 6 => ("TubeChain$Site", "book", "[I", true)
  | 7 => ("TubeChain$Site", "manCount", "I", false)
  | 8 => ("TubeChain$Site", "lineLength", "I", false)
  | 9 => ("TubeChain$Site", "tenth", "I", false)
  | 10 => ("TubeChain$Site", "risen", "I", false)
  | 11 => ("TubeChain$Site", "fallen", "I", false)
  | 12 => ("TubeChain$Site", "seenCount", "I", false)
  | 13 => ("TubeChain$Site", "bookCount", "I", false)
  | _ => ("TubeChain$Site", "scaffold", "LTubeChain$Scaffold;", false)
def ty_1 : Nat → FieldType := fun k => match k with
  | 0 => (.array (.object "TubeChain$Man"))
  | 1 => (.array .int)
  | 2 => (.array .int)
  | 3 => (.array .int)
  | 4 => (.array .int)
  | 5 => (.array .int)
  | 6 => (.array .int)
  | 7 => .int
  | 8 => .int
  | 9 => .int
  | 10 => .int
  | 11 => .int
  | 12 => .int
  | 13 => .int
  | _ => (.object "TubeChain$Scaffold")
theorem nm_1 : ∀ a, a < 15 → ∀ b, b < 15 → a ≠ b → (T_1 a).2.1 ≠ (T_1 b).2.1 := by decide +kernel
theorem ty_1_ok : ∀ k, k < 15 → parseFieldDescriptor (T_1 k).2.2.1 = some (ty_1 k) := by decide +kernel
theorem in_1 : ∀ w ∈ u_ws R_1 T_1 15, w ∈ lw_tbl := by decide +kernel
def R_2 : String := "TubeChain$Trial"
def T_2 : u_T := fun k => match k with
  | 0 => ("TubeChain$Trial", "start", "LTubeChain$Site;", true)
  | 1 => ("TubeChain$Trial", "run", "LTubeChain$Site;", true)
  | 2 => ("TubeChain$Trial", "fellBy", "[I", true)
  | 3 => ("TubeChain$Trial", "risen", "I", false)
  | 4 => ("TubeChain$Trial", "latest", "I", false)
  | _ => ("TubeChain$Trial", "fell", "I", false)
def ty_2 : Nat → FieldType := fun k => match k with
  | 0 => (.object "TubeChain$Site")
  | 1 => (.object "TubeChain$Site")
  | 2 => (.array .int)
  | 3 => .int
  | 4 => .int
  | _ => .int
theorem nm_2 : ∀ a, a < 6 → ∀ b, b < 6 → a ≠ b → (T_2 a).2.1 ≠ (T_2 b).2.1 := by decide +kernel
theorem ty_2_ok : ∀ k, k < 6 → parseFieldDescriptor (T_2 k).2.2.1 = some (ty_2 k) := by decide +kernel
theorem in_2 : ∀ w ∈ u_ws R_2 T_2 6, w ∈ lw_tbl := by decide +kernel
def R_3 : String := "TubeChain$Scaffold"
def T_3 : u_T := fun k => match k with
  | 0 => ("TubeChain$Scaffold", "codes", "[I", true)
  | 1 => ("TubeChain$Scaffold", "values", "[I", true)
  | 2 => ("TubeChain$Scaffold", "known", "[J", true)
  | 3 => ("TubeChain$Scaffold", "text", "[C", false)
  | 4 => ("TubeChain$Scaffold", "codeCount", "I", false)
  | 5 => ("TubeChain$Scaffold", "length", "I", false)
  | 6 => ("TubeChain$Scaffold", "at", "I", false)
  | 7 => ("TubeChain$Scaffold", "rise", "I", false)
  | 8 => ("TubeChain$Scaffold", "rest", "I", false)
  | _ => ("TubeChain$Scaffold", "pull", "I", false)
def ty_3 : Nat → FieldType := fun k => match k with
  | 0 => (.array .int)
  | 1 => (.array .int)
  | 2 => (.array .long)
  | 3 => (.array .char)
  | 4 => .int
  | 5 => .int
  | 6 => .int
  | 7 => .int
  | 8 => .int
  | _ => .int
theorem nm_3 : ∀ a, a < 10 → ∀ b, b < 10 → a ≠ b → (T_3 a).2.1 ≠ (T_3 b).2.1 := by decide +kernel
theorem ty_3_ok : ∀ k, k < 10 → parseFieldDescriptor (T_3 k).2.2.1 = some (ty_3 k) := by decide +kernel
theorem in_3 : ∀ w ∈ u_ws R_3 T_3 10, w ∈ lw_tbl := by decide +kernel
def R_4 : String := "TubeChain$Tape"
def T_4 : u_T := fun k => match k with
  | 0 => ("TubeChain$Tape", "items", "[J", true)
  | 1 => ("TubeChain$Tape", "sort", "I", false)
  | _ => ("TubeChain$Tape", "length", "I", false)
def ty_4 : Nat → FieldType := fun k => match k with
  | 0 => (.array .long)
  | 1 => .int
  | _ => .int
theorem nm_4 : ∀ a, a < 3 → ∀ b, b < 3 → a ≠ b → (T_4 a).2.1 ≠ (T_4 b).2.1 := by decide +kernel
theorem ty_4_ok : ∀ k, k < 3 → parseFieldDescriptor (T_4 k).2.2.1 = some (ty_4 k) := by decide +kernel
theorem in_4 : ∀ w ∈ u_ws R_4 T_4 3, w ∈ lw_tbl := by decide +kernel
def R_5 : String := "TubeChain$Man"
def T_5 : u_T := fun k => match k with
  | 0 => ("TubeChain$Man", "number", "I", true)
  | _ => ("TubeChain$Man", "v", "I", true)
def ty_5 : Nat → FieldType := fun k => match k with
  | 0 => .int
  | _ => .int
theorem nm_5 : ∀ a, a < 2 → ∀ b, b < 2 → a ≠ b → (T_5 a).2.1 ≠ (T_5 b).2.1 := by decide +kernel
theorem ty_5_ok : ∀ k, k < 2 → parseFieldDescriptor (T_5 k).2.2.1 = some (ty_5 k) := by decide +kernel
theorem in_5 : ∀ w ∈ u_ws R_5 T_5 2, w ∈ lw_tbl := by decide +kernel
def R_6 : String := "TubeChain$Strong"
def T_6 : u_T := fun k => match k with
  | 0 => ("TubeChain$Man", "number", "I", true)
  | _ => ("TubeChain$Man", "v", "I", true)
def ty_6 : Nat → FieldType := fun k => match k with
  | 0 => .int
  | _ => .int
theorem nm_6 : ∀ a, a < 2 → ∀ b, b < 2 → a ≠ b → (T_6 a).2.1 ≠ (T_6 b).2.1 := by decide +kernel
theorem ty_6_ok : ∀ k, k < 2 → parseFieldDescriptor (T_6 k).2.2.1 = some (ty_6 k) := by decide +kernel
theorem in_6 : ∀ w ∈ u_ws R_6 T_6 2, w ∈ lw_tbl := by decide +kernel
def R_7 : String := "TubeChain$Gloved"
def T_7 : u_T := fun k => match k with
  | 0 => ("TubeChain$Man", "number", "I", true)
  | _ => ("TubeChain$Man", "v", "I", true)
def ty_7 : Nat → FieldType := fun k => match k with
  | 0 => .int
  | _ => .int
theorem nm_7 : ∀ a, a < 2 → ∀ b, b < 2 → a ≠ b → (T_7 a).2.1 ≠ (T_7 b).2.1 := by decide +kernel
theorem ty_7_ok : ∀ k, k < 2 → parseFieldDescriptor (T_7 k).2.2.1 = some (ty_7 k) := by decide +kernel
theorem in_7 : ∀ w ∈ u_ws R_7 T_7 2, w ∈ lw_tbl := by decide +kernel
def R_8 : String := "TubeChain$Tiring"
def T_8 : u_T := fun k => match k with
  | 0 => ("TubeChain$Man", "number", "I", true)
  | _ => ("TubeChain$Man", "v", "I", true)
def ty_8 : Nat → FieldType := fun k => match k with
  | 0 => .int
  | _ => .int
theorem nm_8 : ∀ a, a < 2 → ∀ b, b < 2 → a ≠ b → (T_8 a).2.1 ≠ (T_8 b).2.1 := by decide +kernel
theorem ty_8_ok : ∀ k, k < 2 → parseFieldDescriptor (T_8 k).2.2.1 = some (ty_8 k) := by decide +kernel
theorem in_8 : ∀ w ∈ u_ws R_8 T_8 2, w ∈ lw_tbl := by decide +kernel
def R_9 : String := "TubeChain$Calling"
def T_9 : u_T := fun k => match k with
  | 0 => ("TubeChain$Man", "number", "I", true)
  | _ => ("TubeChain$Man", "v", "I", true)
def ty_9 : Nat → FieldType := fun k => match k with
  | 0 => .int
  | _ => .int
theorem nm_9 : ∀ a, a < 2 → ∀ b, b < 2 → a ≠ b → (T_9 a).2.1 ≠ (T_9 b).2.1 := by decide +kernel
theorem ty_9_ok : ∀ k, k < 2 → parseFieldDescriptor (T_9 k).2.2.1 = some (ty_9 k) := by decide +kernel
theorem in_9 : ∀ w ∈ u_ws R_9 T_9 2, w ∈ lw_tbl := by decide +kernel
def R_10 : String := "TubeChain$Slipping"
def T_10 : u_T := fun k => match k with
  | 0 => ("TubeChain$Man", "number", "I", true)
  | _ => ("TubeChain$Man", "v", "I", true)
def ty_10 : Nat → FieldType := fun k => match k with
  | 0 => .int
  | _ => .int
theorem nm_10 : ∀ a, a < 2 → ∀ b, b < 2 → a ≠ b → (T_10 a).2.1 ≠ (T_10 b).2.1 := by decide +kernel
theorem ty_10_ok : ∀ k, k < 2 → parseFieldDescriptor (T_10 k).2.2.1 = some (ty_10 k) := by decide +kernel
theorem in_10 : ∀ w ∈ u_ws R_10 T_10 2, w ∈ lw_tbl := by decide +kernel
def R_11 : String := "TubeChain$Told"
def T_11 : u_T := fun k => match k with
  | 0 => ("TubeChain$Man", "number", "I", true)
  | _ => ("TubeChain$Man", "v", "I", true)
def ty_11 : Nat → FieldType := fun k => match k with
  | 0 => .int
  | _ => .int
theorem nm_11 : ∀ a, a < 2 → ∀ b, b < 2 → a ≠ b → (T_11 a).2.1 ≠ (T_11 b).2.1 := by decide +kernel
theorem ty_11_ok : ∀ k, k < 2 → parseFieldDescriptor (T_11 k).2.2.1 = some (ty_11 k) := by decide +kernel
theorem in_11 : ∀ w ∈ u_ws R_11 T_11 2, w ∈ lw_tbl := by decide +kernel
def R_12 : String := "TubeChainModel"
def T_12 : u_T := fun k => match k with
  | 0 => ("TubeChainModel", "men", "I", false)
  | 1 => ("TubeChainModel", "chained", "I", false)
  | 2 => ("TubeChainModel", "tenths", "I", false)
  | 3 => ("TubeChainModel", "ups", "I", false)
  | 4 => ("TubeChainModel", "fallen", "I", false)
  | 5 => ("TubeChainModel", "kind", "[I", true)
  | 6 => ("TubeChainModel", "v", "[I", true)
  | 7 => ("TubeChainModel", "times", "[I", true)
  | 8 => ("TubeChainModel", "free", "[I", true)
  | 9 => ("TubeChainModel", "rows", "[I", true)
  | 10 => ("TubeChainModel", "chain", "[I", true)
  | 11 => ("TubeChainModel", "scaffolds", "I", false)
  | 12 => ("TubeChainModel", "the", "I", false)
  | 13 => ("TubeChainModel", "fed", "I", false)
  | 14 => ("TubeChainModel", "at", "I", false)
  | 15 => ("TubeChainModel", "digits", "I", false)
  | 16 => ("TubeChainModel", "text", "[I", true)
  | 17 => ("TubeChainModel", "clauses", "[I", true)
  | 18 => ("TubeChainModel", "word", "[I", true)
  | 19 => ("TubeChainModel", "number", "[I", true)
  | 20 => ("TubeChainModel", "from", "[I", true)
  | 21 => ("TubeChainModel", "to", "[I", true)
  | 22 => ("TubeChainModel", "sign", "[I", true)
  | 23 => ("TubeChainModel", "waits", "[I", true)
  | 24 => ("TubeChainModel", "signs", "I", false)
  | 25 => ("TubeChainModel", "waiting", "I", false)
  | 26 => ("TubeChainModel", "open", "I", false)
  | 27 => ("TubeChainModel", "letters", "[I", true)
  | 28 => ("TubeChainModel", "pile", "[Z", true)
  | 29 => ("TubeChainModel", "placeSeen", "I", false)
  | 30 => ("TubeChainModel", "faller", "I", false)
  | 31 => ("TubeChainModel", "cameUp", "I", false)
  | 32 => ("TubeChainModel", "mostTimes", "I", false)
  | 33 => ("TubeChainModel", "keptTenths", "I", false)
  | 34 => ("TubeChainModel", "keptTimes", "[I", true)
  | 35 => ("TubeChainModel", "keptFree", "[I", true)
  | 36 => ("TubeChainModel", "many", "I", false)
  | 37 => ("TubeChainModel", "upSet", "I", false)
  | 38 => ("TubeChainModel", "latest", "I", false)
  | 39 => ("TubeChainModel", "drops", "[I", true)
  | 40 => ("TubeChainModel", "keptChain", "[I", true)
  | 41 => ("TubeChainModel", "bestChain", "[I", true)
  | 42 => ("TubeChainModel", "seen", "I", false)
  | 43 => ("TubeChainModel", "seenTube", "[I", true)
  | 44 => ("TubeChainModel", "books", "I", false)
  | 45 => ("TubeChainModel", "bookTube", "[I", true)
  | 46 => ("TubeChainModel", "bookUp", "[Z", true)
  | 47 => ("TubeChainModel", "hasImage", "Z", false)
  | 48 => ("TubeChainModel", "imageThe", "I", false)
  | 49 => ("TubeChainModel", "imageMen", "I", false)
  | 50 => ("TubeChainModel", "imageTenths", "I", false)
  | 51 => ("TubeChainModel", "imageUps", "I", false)
  | 52 => ("TubeChainModel", "imageFallen", "I", false)
  | 53 => ("TubeChainModel", "imageSeen", "I", false)
  | 54 => ("TubeChainModel", "imageBooks", "I", false)
  | 55 => ("TubeChainModel", "imageKind", "[I", true)
  | 56 => ("TubeChainModel", "imageV", "[I", true)
  | 57 => ("TubeChainModel", "imageTimes", "[I", true)
  | 58 => ("TubeChainModel", "imageFree", "[I", true)
  | 59 => ("TubeChainModel", "imageChain", "[I", true)
  | 60 => ("TubeChainModel", "imageRows", "[I", true)
  | 61 => ("TubeChainModel", "imageTube", "[I", true)
  | 62 => ("TubeChainModel", "imageBook", "[I", true)
  | 63 => ("TubeChainModel", "imageUp", "[Z", true)
  | 64 => ("TubeChainModel", "ran", "I", false)
  | 65 => ("TubeChainModel", "bodies", "[I", true)
  | 66 => ("TubeChainModel", "sort", "[I", true)
  | 67 => ("TubeChainModel", "length", "[I", true)
  | 68 => ("TubeChainModel", "item", "[J", true)
  | _ => ("TubeChainModel", "aside", "[J", true)
def ty_12 : Nat → FieldType := fun k => match k with
  | 0 => .int
  | 1 => .int
  | 2 => .int
  | 3 => .int
  | 4 => .int
  | 5 => (.array .int)
  | 6 => (.array .int)
  | 7 => (.array .int)
  | 8 => (.array .int)
  | 9 => (.array .int)
  | 10 => (.array .int)
  | 11 => .int
  | 12 => .int
  | 13 => .int
  | 14 => .int
  | 15 => .int
  | 16 => (.array .int)
  | 17 => (.array .int)
  | 18 => (.array .int)
  | 19 => (.array .int)
  | 20 => (.array .int)
  | 21 => (.array .int)
  | 22 => (.array .int)
  | 23 => (.array .int)
  | 24 => .int
  | 25 => .int
  | 26 => .int
  | 27 => (.array .int)
  | 28 => (.array .boolean)
  | 29 => .int
  | 30 => .int
  | 31 => .int
  | 32 => .int
  | 33 => .int
  | 34 => (.array .int)
  | 35 => (.array .int)
  | 36 => .int
  | 37 => .int
  | 38 => .int
  | 39 => (.array .int)
  | 40 => (.array .int)
  | 41 => (.array .int)
  | 42 => .int
  | 43 => (.array .int)
  | 44 => .int
  | 45 => (.array .int)
  | 46 => (.array .boolean)
  | 47 => .boolean
  | 48 => .int
  | 49 => .int
  | 50 => .int
  | 51 => .int
  | 52 => .int
  | 53 => .int
  | 54 => .int
  | 55 => (.array .int)
  | 56 => (.array .int)
  | 57 => (.array .int)
  | 58 => (.array .int)
  | 59 => (.array .int)
  | 60 => (.array .int)
  | 61 => (.array .int)
  | 62 => (.array .int)
  | 63 => (.array .boolean)
  | 64 => .int
  | 65 => (.array .int)
  | 66 => (.array .int)
  | 67 => (.array .int)
  | 68 => (.array .long)
  | _ => (.array .long)
theorem nm_12 : ∀ a, a < 70 → ∀ b, b < 70 → a ≠ b → (T_12 a).2.1 ≠ (T_12 b).2.1 := by decide +kernel
theorem ty_12_ok : ∀ k, k < 70 → parseFieldDescriptor (T_12 k).2.2.1 = some (ty_12 k) := by decide +kernel
theorem in_12 : ∀ w ∈ u_ws R_12 T_12 70, w ∈ lw_tbl := by decide +kernel
def px_cls : List vw_C := [(R_0, T_0, 11), (R_1, T_1, 15), (R_2, T_2, 6), (R_3, T_3, 10), (R_4, T_4, 3), (R_5, T_5, 2), (R_6, T_6, 2), (R_7, T_7, 2), (R_8, T_8, 2), (R_9, T_9, 2), (R_10, T_10, 2), (R_11, T_11, 2), (R_12, T_12, 70)]
theorem px_cls_in : ∀ (ci : Nat) (r : vw_C), px_cls[ci]? = some r → (∀ w ∈ u_ws r.1 r.2.1 r.2.2, w ∈ lw_tbl) ∧ (∃ ty : Nat → FieldType, ∀ k, k < r.2.2 → parseFieldDescriptor (r.2.1 k).2.2.1 = some (ty k)) ∧ (∀ a, a < r.2.2 → ∀ b, b < r.2.2 → a ≠ b → (r.2.1 a).2.1 ≠ (r.2.1 b).2.1) := by
  intro ci r h
  match ci, h with
  | 0, h => cases h; exact ⟨in_0, ⟨ty_0, ty_0_ok⟩, nm_0⟩
  | 1, h => cases h; exact ⟨in_1, ⟨ty_1, ty_1_ok⟩, nm_1⟩
  | 2, h => cases h; exact ⟨in_2, ⟨ty_2, ty_2_ok⟩, nm_2⟩
  | 3, h => cases h; exact ⟨in_3, ⟨ty_3, ty_3_ok⟩, nm_3⟩
  | 4, h => cases h; exact ⟨in_4, ⟨ty_4, ty_4_ok⟩, nm_4⟩
  | 5, h => cases h; exact ⟨in_5, ⟨ty_5, ty_5_ok⟩, nm_5⟩
  | 6, h => cases h; exact ⟨in_6, ⟨ty_6, ty_6_ok⟩, nm_6⟩
  | 7, h => cases h; exact ⟨in_7, ⟨ty_7, ty_7_ok⟩, nm_7⟩
  | 8, h => cases h; exact ⟨in_8, ⟨ty_8, ty_8_ok⟩, nm_8⟩
  | 9, h => cases h; exact ⟨in_9, ⟨ty_9, ty_9_ok⟩, nm_9⟩
  | 10, h => cases h; exact ⟨in_10, ⟨ty_10, ty_10_ok⟩, nm_10⟩
  | 11, h => cases h; exact ⟨in_11, ⟨ty_11, ty_11_ok⟩, nm_11⟩
  | 12, h => cases h; exact ⟨in_12, ⟨ty_12, ty_12_ok⟩, nm_12⟩
  | k + 13, h => simp [px_cls] at h
end
section
/-! the words that go along with a call -/
def px_wd (w : Cond) : Bool := goodWord w || match w with
  | .arrayOver (.object _) => true
  | .castable _ _ => true
  | .methodLinkNest _ _ _ _ => true
  | _ => false
def px_tb : List Cond := lw_tbl.filter px_wd
theorem px_in {w : Cond} (h : w ∈ lw_tbl) (hw : px_wd w = true) : w ∈ px_tb := List.mem_filter.mpr ⟨h, hw⟩
theorem px_lay (C : String) (T : u_T) (k : Nat) : px_wd (u_lay C T k) = true := by
  unfold u_lay
  split <;> rfl
theorem px_cls_tb (ci : Nat) (r : vw_C) (h : px_cls[ci]? = some r) : (∀ w ∈ u_ws r.1 r.2.1 r.2.2, w ∈ px_tb) ∧ (∃ ty : Nat → FieldType, ∀ k, k < r.2.2 → parseFieldDescriptor (r.2.1 k).2.2.1 = some (ty k)) ∧ (∀ a, a < r.2.2 → ∀ b, b < r.2.2 → a ≠ b → (r.2.1 a).2.1 ≠ (r.2.1 b).2.1) := by
  obtain ⟨h1, h2, h3⟩ := px_cls_in ci r h
  refine ⟨fun w hw => px_in (h1 w hw) ?_, h2, h3⟩
  obtain ⟨k, -, rfl⟩ := List.mem_map.mp hw
  exact px_lay _ _ _
/-! A PURE LAYER OVER THE MACHINE: the heap from the law's entry on is a list of pure cells; a reference is its place in that list (at the address base + place). -/
abbrev px_E : Type := (FieldType × vp_A) ⊕ (Nat × List Value)
abbrev px_H : Type := List px_E
abbrev px_L : Type := List (Option Value)
/-- base; class numbers and slots; array classes; cells that are only read (0 the script, 1 ABOVE, 2 a formatter or null, 3.. strings, 6.. their bytes); the script's length and ints -/
abbrev px_G : Type := Nat × va_G × (FieldType → ClassId) × (Nat → Option Nat) × (Nat × (Nat → Int32))
/-- name, bytes, locals, answer's type -/
abbrev px_M : Type := MethodName × ByteArray × Nat × Option FieldType
/-- a pure value's meaning; .retAddr j stands for the j-th cell that is only read -/
def px_v (G : px_G) : Value → Value
  | .ref k => .ref (G.1 + k)
  | .retAddr j => va_rf (G.2.2.2.1 j)
  | .int x => .int x
  | .long x => .long x
  | .float x => .float x
  | .double x => .double x
  | .null => .null
def px_c (G : px_G) : vp_A → vp_A
  | (n, .inr (.inr (.inr (.inr f)))) => (n, .inr (.inr (.inr (.inr fun j => (f j).map (fun k => G.1 + k)))))
  | (n, .inl f) => (n, .inl f)
  | (n, .inr (.inl f)) => (n, .inr (.inl f))
  | (n, .inr (.inr (.inl f))) => (n, .inr (.inr (.inl f)))
  | (n, .inr (.inr (.inr (.inl f)))) => (n, .inr (.inr (.inr (.inl f))))
def px_e (G : px_G) : px_E → va_E
  | .inl q => .inl (G.2.2.1 q.1, px_c G q.2)
  | .inr o => .inr (o.1, o.2.map (px_v G))
def px_ws (G : px_G) (h : px_H) : va_W := h.mapIdx (fun k e => (G.1 + k, px_e G e))
def px_A (G : px_G) : Nat → Prop := fun q => G.1 ≤ q
def px_tys (G : px_G) : List (ClassId × FieldType) := [(G.2.2.1 .int, .int), (G.2.2.1 .long, .long), (G.2.2.1 .char, .char), (G.2.2.1 .boolean, .boolean), (G.2.2.1 (.object "TubeChain$Man"), .object "TubeChain$Man"), (G.2.2.1 (.object "TubeChain$Scaffold"), .object "TubeChain$Scaffold"), (G.2.2.1 (.object "TubeChain$Tape"), .object "TubeChain$Tape")]
def px_above (j : Nat) : Int32 := [-1, 0, 0, 0, 1, 2, 3].getD j 0
def px_len : List Nat := [25, 6, 3]
def px_byt : List (List Int32) := [[115, 108, 111, 119, 46, 113, 117, 105, 99, 107, 114, 105, 115, 101, 46, 114, 101, 115, 116, 46, 112, 117, 108, 108, 46], [109, 107, 108, 104, 116, 118], [60, 61, 62]]
def px_txi (i : Nat) : Nat := [76, 95, 101].getD i 0
/-- the classes of men that aren't TOLD -/
def px_nt : List String := ["TubeChain$Man", "TubeChain$Strong", "TubeChain$Gloved", "TubeChain$Tiring", "TubeChain$Calling", "TubeChain$Slipping"]
def px_txt (i : Nat) : String := ["slow.quickrise.rest.pull.", "mklhtv", "<=>"].getD i ""
/-- what is only read -/
def px_RO (G : px_G) (U : State) (H : Heap) : Prop :=
  (∃ b, G.2.2.2.1 0 = some b ∧ va_X b G.2.2.2.2.1 G.2.2.2.2.2 U H ∧ b < H.size ∧ ¬ px_A G b) ∧
  (∃ a, G.2.2.2.1 1 = some a ∧ va_Z "TubeChain" "ABOVE" "[I" (.ref a) (px_A G) U H ∧ va_T .int a 7 (fun j => .int (px_above j)) (px_A G) U H) ∧
  va_Z "jdk/internal/util/Preconditions" "SIOOBE_FORMATTER" "Ljava/util/function/BiFunction;" (va_rf (G.2.2.2.1 2)) (px_A G) U H ∧
  va_Z "java/lang/String" "COMPACT_STRINGS" "Z" (.int 1) (px_A G) U H ∧
  (∀ n, n ∈ px_nt → va_Nc n "TubeChain$Told" U) ∧
  ∃ adK adV : Nat → Nat, (∀ i, i < 3 → G.2.2.2.1 (3 + i) = some (adK i) ∧ G.2.2.2.1 (6 + i) = some (adV i)) ∧ vk_S 3 px_len px_byt adK adV (px_A G) U H ∧ ∀ i, i < 3 → vk_R "TubeChain$Scaffold" (px_txi i) (px_txt i) (adK i) U
def px_R (G : px_G) (h : px_H) (H : Heap) : Prop := H.size = G.1 + h.length ∧ va_P G.2.1 px_cls (px_ws G h) H
def px_X (G : px_G) (M : px_M) (p : Program) (s : State) (m : MethodId) (args : Array Value) (meth : Method) (c : Code) : Prop :=
  p.tables.exec = Jvm.exec ∧ c.code = M.2.1 ∧ c.maxLocals = M.2.2.1 ∧ meth.sig.returnType = M.2.2.2 ∧ meth.locks = false ∧ s.vm.findClass M.1.cls = some m.cls ∧ (∀ w ∈ px_tb, w.before args s = true) ∧ meth.name = M.1.name ∧ va_K G.2.1 px_cls (px_tys G) s ∧ px_RO G s s.heap ∧ G.1 ≤ s.heap.size
/-- the locals: what is told of them holds -/
def px_lr (G : px_G) (n : Nat) (ls : px_L) (lsr : Array Slot) : Prop := lsr.size = n ∧ lv_wf lsr ∧ ∀ (i : Nat) (v : Value), ls[i]? = some (some v) → lsr[i]? = some (.val (px_v G v))
/-- the return instruction that answers rv -/
def px_fin (M : px_M) (pc : Nat) (rv : Option Value) : Prop :=
  (rv = none ∧ M.2.2.2 = none ∧ decode M.2.1 pc = .ok (.return_, 1)) ∨
  (∃ x ty, rv = some (.int x) ∧ M.2.2.2 = some ty ∧ narrow ty (.int x) = .int x ∧ decode M.2.1 pc = .ok (.ireturn, 1)) ∨
  (∃ x, rv = some (.long x) ∧ M.2.2.2 = some .long ∧ decode M.2.1 pc = .ok (.lreturn, 1)) ∨
  (∃ k ty, rv = some (.ref k) ∧ M.2.2.2 = some ty ∧ ((∃ n, ty = .object n) ∨ ∃ t, ty = .array t) ∧ decode M.2.1 pc = .ok (.areturn, 1))
/-- from place pc of M on, with these locals, this stack and this heap, in D calls' room, making at most C cells of S slots: it returns, and Q holds of the answer and the heap -/
def px_W (G : px_G) (D C S : Nat) (M : px_M) (pc : Nat) (ls : px_L) (st : List Value) (h : px_H) (Q : Option Value → px_H → Prop) : Prop :=
  ∀ (p : Program) (l : Launch) (e : Env) (R : Room) (s : State) (m : MethodId) (args : Array Value) (below : List Frame) (meth : Method) (c : Code) (H : Heap) (locs : List Loc) (cells slots : Nat) (lsr : Array Slot) (Qm : State → Prop),
    px_X G M p s m args meth c → va_S (px_A G) s.heap H locs → px_R G h H → px_lr G M.2.2.1 ls lsr → (D ≤ R.frames ∧ 80 * D ≤ R.locals) → cells + C ≤ R.cells → slots + S ≤ R.slots →
    (∀ (pc' : Nat) (lsr' : Array Slot) (H' : Heap) (locs' : List Loc) (rv : Option Value) (h' : px_H), Q rv h' → px_fin M pc' rv → px_R G h' H' → va_S (px_A G) s.heap H' locs' → W p l e R s m args below meth c H' locs' (cells + C) (slots + S) Qm (F0 m pc' lsr' (rv.toList.map (px_v G)))) →
    W p l e R s m args below meth c H locs cells slots Qm (F0 m pc lsr (st.map (px_v G)))
/-! the heap as a list -/
theorem px_ws_get {G : px_G} {h : px_H} {k : Nat} {e : px_E} (he : h[k]? = some e) : (px_ws G h)[k]? = some (G.1 + k, px_e G e) := by
  simp [px_ws, List.getElem?_mapIdx, he]
theorem px_ws_of {G : px_G} {h : px_H} {k : Nat} {q : Nat × va_E} (hq : (px_ws G h)[k]? = some q) : ∃ e, h[k]? = some e ∧ q = (G.1 + k, px_e G e) := by
  rw [px_ws, List.getElem?_mapIdx] at hq
  cases he : h[k]? with
  | none => rw [he] at hq; cases hq
  | some e => rw [he] at hq; exact ⟨e, rfl, (Option.some.inj hq).symm⟩
theorem px_D {G : px_G} {h : px_H} : va_D (px_A G) (px_ws G h) := by
  refine ⟨fun i j p q hp hq hpq => ?_, fun k q hq => ?_⟩
  · obtain ⟨e1, -, rfl⟩ := px_ws_of hp
    obtain ⟨e2, -, rfl⟩ := px_ws_of hq
    have : G.1 + i = G.1 + j := hpq
    omega
  · obtain ⟨e1, -, rfl⟩ := px_ws_of hq
    exact Nat.le_add_right _ _
theorem px_R.at {G : px_G} {h : px_H} {H : Heap} {k : Nat} {e : px_E} (hR : px_R G h H) (he : h[k]? = some e) : va_at G.2.1 px_cls (G.1 + k, px_e G e) H := hR.2 k _ (px_ws_get he)
theorem px_R.mk {G : px_G} {h : px_H} {H : Heap} (hz : H.size = G.1 + h.length) (ha : ∀ k e, h[k]? = some e → va_at G.2.1 px_cls (G.1 + k, px_e G e) H) : px_R G h H := by
  refine ⟨hz, fun k q hq => ?_⟩
  obtain ⟨e, he, rfl⟩ := px_ws_of hq
  exact ha k e he
theorem px_R.set {G : px_G} {h : px_H} {H H1 : Heap} {k : Nat} {e0 e : px_E} (hR : px_R G h H) (he : h[k]? = some e0) (hz : H1.size = H.size) (ha : va_at G.2.1 px_cls (G.1 + k, px_e G e) H1) (oq : ∀ q : Nat, q ≠ G.1 + k → H1[q]? = H[q]?) : px_R G (h.set k e) H1 := by
  have hl := (List.getElem?_eq_some_iff.mp he).1
  refine px_R.mk (by rw [hz, hR.1, List.length_set]) fun j x hx => ?_
  by_cases hj : j = k
  · subst hj
    rw [List.getElem?_set_self hl] at hx
    cases hx
    exact ha
  · rw [List.getElem?_set_ne (Ne.symm hj)] at hx
    exact (hR.at hx).kept (oq _ (by show G.1 + j ≠ G.1 + k; omega))
theorem px_R.push {G : px_G} {h : px_H} {H H1 : Heap} {e : px_E} (hR : px_R G h H) (hz : H1.size = H.size + 1) (ha : va_at G.2.1 px_cls (G.1 + h.length, px_e G e) H1) (oq : ∀ q : Nat, q < H.size → H1[q]? = H[q]?) : px_R G (h ++ [e]) H1 := by
  refine px_R.mk (by rw [hz, hR.1]; simp; omega) fun j x hx => ?_
  by_cases hj : j < h.length
  · rw [List.getElem?_append_left hj] at hx
    exact (hR.at hx).kept (oq _ (by rw [hR.1]; show G.1 + j < _; omega))
  · rw [List.getElem?_append_right (by omega)] at hx
    have hz0 : j - h.length < 1 := (List.getElem?_eq_some_iff.mp hx).1
    have hj2 : j = h.length := by omega
    subst hj2
    simp at hx
    subst hx
    exact ha
/-! what is only read, seen from another state -/
theorem px_RO.warm {G : px_G} {s U : State} {H : Heap} {locs : List Loc} (h : px_RO G s s.heap) (hW : s.WarmedH U.vm) (hS : va_S (px_A G) s.heap H locs) : px_RO G U H := by
  obtain ⟨⟨b, b1, b2, b3, b4⟩, ⟨a, a1, a2, a3⟩, f1, c1, nt, adK, adV, k1, k2, k3⟩ := h
  have hv := hW.alike
  have hq := hS.2.1
  exact ⟨⟨b, b1, (b2.kept (hq b b3 b4)).moved hv, Nat.lt_of_lt_of_le b3 hS.1, b4⟩, ⟨a, a1, (a2.kept hq).moved hv, (a3.kept hq).moved hv⟩, (f1.kept hq).moved hv, (c1.kept hq).moved hv, fun n hn => (nt n hn).moved hv, adK, adV, k1, (k2.kept hq).moved hv, fun i hi => (k3 i hi).warm hW⟩
theorem px_RO.calling {G : px_G} {U : State} {f : JFrame} {mk : MethodId} {a : Array Value} (h : px_RO G U U.heap) : px_RO G (U.calling f mk a) (U.calling f mk a).heap := by
  obtain ⟨⟨b, b1, b2, b3, b4⟩, ⟨x, a1, a2, a3⟩, f1, c1, nt, adK, adV, k1, k2, k3⟩ := h
  have hv : U.vm.Alike (U.calling f mk a).vm := Vm.Alike.refl U.vm
  exact ⟨⟨b, b1, b2.moved hv, b3, b4⟩, ⟨x, a1, a2.moved hv, a3.moved hv⟩, f1.moved hv, c1.moved hv, fun n hn => (nt n hn).moved hv, adK, adV, k1, k2.moved hv, fun i hi => (k3 i hi).same rfl⟩
end
section
/-! locals -/
/-- a long right below place i goes when i is stored -/
def px_c2 (ls : px_L) (i : Nat) : px_L := match i with
  | 0 => ls
  | j + 1 => match ls[j]? with
    | some (some (.long _)) => ls.set j none
    | some (some (.double _)) => ls.set j none
    | _ => ls
def px_st1 (ls : px_L) (i : Nat) (v : Value) : px_L := (px_c2 ls i).set i (some v)
def px_st2 (ls : px_L) (i : Nat) (v : Value) : px_L := ((px_c2 ls i).set i (some v)).set (i + 1) none
def px_ll (G : px_G) (ls : px_L) : List (Nat × Value) := (ls.zipIdx).filterMap (fun q => q.1.map (fun v => (q.2, px_v G v)))
theorem px_cat (G : px_G) (v : Value) : (px_v G v).category = v.category := by
  cases v with
  | retAddr j =>
    show (va_rf _).category = 1
    cases G.2.2.2.1 j <;> rfl
  | _ => rfl
theorem px_ll_mem {G : px_G} {ls : px_L} {q : Nat × Value} (h : q ∈ px_ll G ls) : ∃ v, ls[q.1]? = some (some v) ∧ q.2 = px_v G v := by
  obtain ⟨a, ha, hb⟩ := List.mem_filterMap.mp h
  obtain ⟨x, i⟩ := a
  cases x with
  | none => cases hb
  | some v =>
    cases hb
    exact ⟨v, List.mem_zipIdx_iff_getElem?.mp ha, rfl⟩
theorem px_ll_in {G : px_G} {ls : px_L} {i : Nat} {v : Value} (h : ls[i]? = some (some v)) : (i, px_v G v) ∈ px_ll G ls :=
  List.mem_filterMap.mpr ⟨(some v, i), List.mem_zipIdx_iff_getElem?.mpr h, rfl⟩
theorem px_lr.has {G : px_G} {n : Nat} {ls : px_L} {lsr : Array Slot} (h : px_lr G n ls lsr) : lv_has lsr n (px_ll G ls) := by
  refine ⟨h.1, h.2.1, fun q hq => ?_⟩
  obtain ⟨v, h1, h2⟩ := px_ll_mem hq
  rw [h2]
  exact h.2.2 _ _ h1
theorem px_lr.of {G : px_G} {n : Nat} {ls : px_L} {lsr : Array Slot} {l : List (Nat × Value)} (h : lv_has lsr n l) (hl : ∀ (i : Nat) (v : Value), ls[i]? = some (some v) → (i, px_v G v) ∈ l) : px_lr G n ls lsr :=
  ⟨h.1, h.2.1, fun i v hv => h.2.2 _ (hl i v hv)⟩
theorem px_c2_get {ls : px_L} {i j : Nat} {v : Value} (h : (px_c2 ls i)[j]? = some (some v)) (hji : j ≠ i) : ls[j]? = some (some v) ∧ ¬ (j + 1 = i ∧ v.category = 2) := by
  unfold px_c2 at h
  cases i with
  | zero => exact ⟨h, by omega⟩
  | succ k =>
    simp only at h
    by_cases hk : j = k
    · subst hk
      cases hx : ls[j]? with
      | none => rw [hx] at h; simp [hx] at h
      | some x =>
        have hlt : j < ls.length := (List.getElem?_eq_some_iff.mp hx).1
        cases x with
        | none => rw [hx] at h; simp [hx] at h
        | some w =>
          rw [hx] at h
          cases w with
          | long z => simp [hlt] at h
          | double z => simp [hlt] at h
          | _ => simp [hx] at h; subst h; exact ⟨rfl, fun z => by cases z.2⟩
    · refine ⟨?_, fun z => hk (by omega)⟩
      cases hx : ls[k]? with
      | none => rw [hx] at h; simpa using h
      | some x =>
        rw [hx] at h
        cases x with
        | none => simpa using h
        | some w => cases w <;> simpa [List.getElem?_set, hk, Ne.symm hk] using h
theorem px_lr.st1 {G : px_G} {n i : Nat} {ls : px_L} {lsr : Array Slot} {v : Value} (h : lv_has lsr n ((i, px_v G v) :: (px_ll G ls).filter (fun q => !(q.1 == i) && !(q.1 + 1 == i && q.2.category == 2)))) : px_lr G n (px_st1 ls i v) lsr := by
  refine px_lr.of h fun j w hw => ?_
  unfold px_st1 at hw
  by_cases hj : j = i
  · subst hj
    rw [List.getElem?_set] at hw
    split at hw
    · split at hw
      · cases hw; exact List.mem_cons_self
      · cases hw
    · exact absurd rfl ‹_›
  · rw [List.getElem?_set_ne (Ne.symm hj)] at hw
    obtain ⟨h1, h2⟩ := px_c2_get hw hj
    refine List.mem_cons_of_mem _ (List.mem_filter.mpr ⟨px_ll_in h1, ?_⟩)
    simp only [Bool.and_eq_true, Bool.not_eq_true', beq_eq_false_iff_ne, ne_eq, Bool.and_eq_false_iff]
    refine ⟨hj, ?_⟩
    by_cases hc : j + 1 = i
    · exact Or.inr (by rw [px_cat]; exact fun z => h2 ⟨hc, z⟩)
    · exact Or.inl hc
theorem px_lr.st2 {G : px_G} {n i : Nat} {ls : px_L} {lsr : Array Slot} {v : Value} (h : lv_has lsr n ((i, px_v G v) :: (px_ll G ls).filter (fun q => !(q.1 == i) && (!(q.1 == i + 1) && !(q.1 + 1 == i && q.2.category == 2))))) : px_lr G n (px_st2 ls i v) lsr := by
  refine px_lr.of h fun j w hw => ?_
  unfold px_st2 at hw
  by_cases hj1 : j = i + 1
  · subst hj1
    rw [List.getElem?_set] at hw
    split at hw
    · split at hw <;> cases hw
    · exact absurd rfl ‹_›
  rw [List.getElem?_set_ne (Ne.symm hj1)] at hw
  by_cases hj : j = i
  · subst hj
    rw [List.getElem?_set] at hw
    split at hw
    · split at hw
      · cases hw; exact List.mem_cons_self
      · cases hw
    · exact absurd rfl ‹_›
  · rw [List.getElem?_set_ne (Ne.symm hj)] at hw
    obtain ⟨h1, h2⟩ := px_c2_get hw hj
    refine List.mem_cons_of_mem _ (List.mem_filter.mpr ⟨px_ll_in h1, ?_⟩)
    simp only [Bool.and_eq_true, Bool.not_eq_true', beq_eq_false_iff_ne, ne_eq, Bool.and_eq_false_iff]
    refine ⟨hj, hj1, ?_⟩
    by_cases hc : j + 1 = i
    · exact Or.inr (by rw [px_cat]; exact fun z => h2 ⟨hc, z⟩)
    · exact Or.inl hc
/-- less is told -/
theorem px_lr.less {G : px_G} {n : Nat} {ls ls' : px_L} {lsr : Array Slot} (h : px_lr G n ls lsr) (hl : ∀ (i : Nat) (v : Value), ls'[i]? = some (some v) → ls[i]? = some (some v)) : px_lr G n ls' lsr := ⟨h.1, h.2.1, fun i v hv => h.2.2 i v (hl i v hv)⟩
def px_leb : px_L → px_L → Prop
  | [], _ => True
  | none :: l, [] => px_leb l []
  | none :: l, _ :: k => px_leb l k
  | some _ :: _, [] => False
  | some v :: l, x :: k => x = some v ∧ px_leb l k
theorem px_leb_nil : ∀ (a : px_L), px_leb a [] → ∀ (i : Nat) (v : Value), a[i]? = some (some v) → False
  | [], _, i, v, hv => by simp at hv
  | none :: l, h, 0, v, hv => by simp at hv
  | none :: l, h, i + 1, v, hv => px_leb_nil l h i v (by simpa using hv)
  | some _ :: _, h, _, _, _ => h
theorem px_leb_at : ∀ (a b : px_L), px_leb a b → ∀ (i : Nat) (v : Value), a[i]? = some (some v) → b[i]? = some (some v)
  | [], b, _, i, v, hv => by simp at hv
  | a, [], h, i, v, hv => (px_leb_nil a h i v hv).elim
  | none :: l, x :: k, h, 0, v, hv => by simp at hv
  | none :: l, x :: k, h, i + 1, v, hv => by simpa using px_leb_at l k h i v (by simpa using hv)
  | some w :: l, x :: k, h, 0, v, hv => by
    rw [h.1]
    simpa using hv
  | some w :: l, x :: k, h, i + 1, v, hv => by simpa using px_leb_at l k h.2 i v (by simpa using hv)
section PXW
variable {G : px_G} {D C S : Nat} {M : px_M} {pc : Nat} {ls : px_L} {st : List Value} {h : px_H} {Q : Option Value → px_H → Prop}
theorem wp_iadd {x y : Int32} (d : decode M.2.1 pc = .ok (.iadd, 1)) (k : px_W G D C S M (pc + 1) ls (.int (x + y) :: st) h Q) : px_W G D C S M pc ls (.int y :: .int x :: st) h Q := by
  intro p l e R s m args below meth c H locs cells slots lsr Qm cx hS hR hl hd hlo hc hk
  exact lv_iadd cx.1 cx.2.1 d (k p l e R s m args below meth c H locs cells slots lsr Qm cx hS hR hl hd hlo hc hk)
theorem wp_isub {x y : Int32} (d : decode M.2.1 pc = .ok (.isub, 1)) (k : px_W G D C S M (pc + 1) ls (.int (x - y) :: st) h Q) : px_W G D C S M pc ls (.int y :: .int x :: st) h Q := by
  intro p l e R s m args below meth c H locs cells slots lsr Qm cx hS hR hl hd hlo hc hk
  exact lv_isub cx.1 cx.2.1 d (k p l e R s m args below meth c H locs cells slots lsr Qm cx hS hR hl hd hlo hc hk)
theorem wp_imul {x y : Int32} (d : decode M.2.1 pc = .ok (.imul, 1)) (k : px_W G D C S M (pc + 1) ls (.int (x * y) :: st) h Q) : px_W G D C S M pc ls (.int y :: .int x :: st) h Q := by
  intro p l e R s m args below meth c H locs cells slots lsr Qm cx hS hR hl hd hlo hc hk
  exact lv_imul cx.1 cx.2.1 d (k p l e R s m args below meth c H locs cells slots lsr Qm cx hS hR hl hd hlo hc hk)
theorem wp_iand {x y : Int32} (d : decode M.2.1 pc = .ok (.iand, 1)) (k : px_W G D C S M (pc + 1) ls (.int (x &&& y) :: st) h Q) : px_W G D C S M pc ls (.int y :: .int x :: st) h Q := by
  intro p l e R s m args below meth c H locs cells slots lsr Qm cx hS hR hl hd hlo hc hk
  exact lv_iand cx.1 cx.2.1 d (k p l e R s m args below meth c H locs cells slots lsr Qm cx hS hR hl hd hlo hc hk)
theorem wp_ior {x y : Int32} (d : decode M.2.1 pc = .ok (.ior, 1)) (k : px_W G D C S M (pc + 1) ls (.int (x ||| y) :: st) h Q) : px_W G D C S M pc ls (.int y :: .int x :: st) h Q := by
  intro p l e R s m args below meth c H locs cells slots lsr Qm cx hS hR hl hd hlo hc hk
  exact lv_ior cx.1 cx.2.1 d (k p l e R s m args below meth c H locs cells slots lsr Qm cx hS hR hl hd hlo hc hk)
theorem wp_ixor {x y : Int32} (d : decode M.2.1 pc = .ok (.ixor, 1)) (k : px_W G D C S M (pc + 1) ls (.int (x ^^^ y) :: st) h Q) : px_W G D C S M pc ls (.int y :: .int x :: st) h Q := by
  intro p l e R s m args below meth c H locs cells slots lsr Qm cx hS hR hl hd hlo hc hk
  exact lv_ixor cx.1 cx.2.1 d (k p l e R s m args below meth c H locs cells slots lsr Qm cx hS hR hl hd hlo hc hk)
theorem wp_ishl {x y : Int32} (d : decode M.2.1 pc = .ok (.ishl, 1)) (k : px_W G D C S M (pc + 1) ls (.int (x <<< (y &&& 31)) :: st) h Q) : px_W G D C S M pc ls (.int y :: .int x :: st) h Q := by
  intro p l e R s m args below meth c H locs cells slots lsr Qm cx hS hR hl hd hlo hc hk
  exact lv_ishl cx.1 cx.2.1 d (k p l e R s m args below meth c H locs cells slots lsr Qm cx hS hR hl hd hlo hc hk)
theorem wp_ishr {x y : Int32} (d : decode M.2.1 pc = .ok (.ishr, 1)) (k : px_W G D C S M (pc + 1) ls (.int (x >>> (y &&& 31)) :: st) h Q) : px_W G D C S M pc ls (.int y :: .int x :: st) h Q := by
  intro p l e R s m args below meth c H locs cells slots lsr Qm cx hS hR hl hd hlo hc hk
  exact lv_ishr cx.1 cx.2.1 d (k p l e R s m args below meth c H locs cells slots lsr Qm cx hS hR hl hd hlo hc hk)
theorem wp_iushr {x y : Int32} (d : decode M.2.1 pc = .ok (.iushr, 1)) (k : px_W G D C S M (pc + 1) ls (.int ((x.toUInt32 >>> (y.toUInt32 &&& Int32.toUInt32 31)).toInt32) :: st) h Q) : px_W G D C S M pc ls (.int y :: .int x :: st) h Q := by
  intro p l e R s m args below meth c H locs cells slots lsr Qm cx hS hR hl hd hlo hc hk
  exact lv_iushr cx.1 cx.2.1 d rfl (k p l e R s m args below meth c H locs cells slots lsr Qm cx hS hR hl hd hlo hc hk)
theorem wp_idiv {x y : Int32} (d : decode M.2.1 pc = .ok (.idiv, 1)) (hne : ¬ y = 0) (k : px_W G D C S M (pc + 1) ls (.int (x / y) :: st) h Q) : px_W G D C S M pc ls (.int y :: .int x :: st) h Q := by
  intro p l e R s m args below meth c H locs cells slots lsr Qm cx hS hR hl hd hlo hc hk
  exact lv_idiv cx.1 cx.2.1 d hne (k p l e R s m args below meth c H locs cells slots lsr Qm cx hS hR hl hd hlo hc hk)
theorem wp_irem {x y : Int32} (d : decode M.2.1 pc = .ok (.irem, 1)) (hne : ¬ y = 0) (k : px_W G D C S M (pc + 1) ls (.int (x - x / y * y) :: st) h Q) : px_W G D C S M pc ls (.int y :: .int x :: st) h Q := by
  intro p l e R s m args below meth c H locs cells slots lsr Qm cx hS hR hl hd hlo hc hk
  exact lv_irem cx.1 cx.2.1 d hne (k p l e R s m args below meth c H locs cells slots lsr Qm cx hS hR hl hd hlo hc hk)
theorem wp_ineg {x : Int32} (d : decode M.2.1 pc = .ok (.ineg, 1)) (k : px_W G D C S M (pc + 1) ls (.int (-x) :: st) h Q) : px_W G D C S M pc ls (.int x :: st) h Q := by
  intro p l e R s m args below meth c H locs cells slots lsr Qm cx hS hR hl hd hlo hc hk
  exact lv_ineg cx.1 cx.2.1 d (k p l e R s m args below meth c H locs cells slots lsr Qm cx hS hR hl hd hlo hc hk)
theorem wp_ladd {x y : Int64} (d : decode M.2.1 pc = .ok (.ladd, 1)) (k : px_W G D C S M (pc + 1) ls (.long (x + y) :: st) h Q) : px_W G D C S M pc ls (.long y :: .long x :: st) h Q := by
  intro p l e R s m args below meth c H locs cells slots lsr Qm cx hS hR hl hd hlo hc hk
  exact lv_ladd cx.1 cx.2.1 d (k p l e R s m args below meth c H locs cells slots lsr Qm cx hS hR hl hd hlo hc hk)
theorem wp_lsub {x y : Int64} (d : decode M.2.1 pc = .ok (.lsub, 1)) (k : px_W G D C S M (pc + 1) ls (.long (x - y) :: st) h Q) : px_W G D C S M pc ls (.long y :: .long x :: st) h Q := by
  intro p l e R s m args below meth c H locs cells slots lsr Qm cx hS hR hl hd hlo hc hk
  exact lv_lsub cx.1 cx.2.1 d (k p l e R s m args below meth c H locs cells slots lsr Qm cx hS hR hl hd hlo hc hk)
theorem wp_lmul {x y : Int64} (d : decode M.2.1 pc = .ok (.lmul, 1)) (k : px_W G D C S M (pc + 1) ls (.long (x * y) :: st) h Q) : px_W G D C S M pc ls (.long y :: .long x :: st) h Q := by
  intro p l e R s m args below meth c H locs cells slots lsr Qm cx hS hR hl hd hlo hc hk
  exact lv_lmul cx.1 cx.2.1 d (k p l e R s m args below meth c H locs cells slots lsr Qm cx hS hR hl hd hlo hc hk)
theorem wp_land {x y : Int64} (d : decode M.2.1 pc = .ok (.land, 1)) (k : px_W G D C S M (pc + 1) ls (.long (x &&& y) :: st) h Q) : px_W G D C S M pc ls (.long y :: .long x :: st) h Q := by
  intro p l e R s m args below meth c H locs cells slots lsr Qm cx hS hR hl hd hlo hc hk
  exact lv_land cx.1 cx.2.1 d (k p l e R s m args below meth c H locs cells slots lsr Qm cx hS hR hl hd hlo hc hk)
theorem wp_lor {x y : Int64} (d : decode M.2.1 pc = .ok (.lor, 1)) (k : px_W G D C S M (pc + 1) ls (.long (x ||| y) :: st) h Q) : px_W G D C S M pc ls (.long y :: .long x :: st) h Q := by
  intro p l e R s m args below meth c H locs cells slots lsr Qm cx hS hR hl hd hlo hc hk
  exact lv_lor cx.1 cx.2.1 d (k p l e R s m args below meth c H locs cells slots lsr Qm cx hS hR hl hd hlo hc hk)
theorem wp_lxor {x y : Int64} (d : decode M.2.1 pc = .ok (.lxor, 1)) (k : px_W G D C S M (pc + 1) ls (.long (x ^^^ y) :: st) h Q) : px_W G D C S M pc ls (.long y :: .long x :: st) h Q := by
  intro p l e R s m args below meth c H locs cells slots lsr Qm cx hS hR hl hd hlo hc hk
  exact lv_lxor cx.1 cx.2.1 d (k p l e R s m args below meth c H locs cells slots lsr Qm cx hS hR hl hd hlo hc hk)
theorem wp_ldiv {x y : Int64} (d : decode M.2.1 pc = .ok (.ldiv, 1)) (hne : ¬ y = 0) (k : px_W G D C S M (pc + 1) ls (.long (x / y) :: st) h Q) : px_W G D C S M pc ls (.long y :: .long x :: st) h Q := by
  intro p l e R s m args below meth c H locs cells slots lsr Qm cx hS hR hl hd hlo hc hk
  exact lv_ldiv cx.1 cx.2.1 d hne (k p l e R s m args below meth c H locs cells slots lsr Qm cx hS hR hl hd hlo hc hk)
theorem wp_lrem {x y : Int64} (d : decode M.2.1 pc = .ok (.lrem, 1)) (hne : ¬ y = 0) (k : px_W G D C S M (pc + 1) ls (.long (x - x / y * y) :: st) h Q) : px_W G D C S M pc ls (.long y :: .long x :: st) h Q := by
  intro p l e R s m args below meth c H locs cells slots lsr Qm cx hS hR hl hd hlo hc hk
  exact lv_lrem cx.1 cx.2.1 d hne (k p l e R s m args below meth c H locs cells slots lsr Qm cx hS hR hl hd hlo hc hk)
theorem wp_lcmp {x y : Int64} (d : decode M.2.1 pc = .ok (.lcmp, 1)) (k : px_W G D C S M (pc + 1) ls (.int (lg_cmp x y) :: st) h Q) : px_W G D C S M pc ls (.long y :: .long x :: st) h Q := by
  intro p l e R s m args below meth c H locs cells slots lsr Qm cx hS hR hl hd hlo hc hk
  exact W.lcmp cx.1 cx.2.1 d (k p l e R s m args below meth c H locs cells slots lsr Qm cx hS hR hl hd hlo hc hk)
theorem wp_lshl {x : Int64} {y : Int32} (d : decode M.2.1 pc = .ok (.lshl, 1)) (k : px_W G D C S M (pc + 1) ls (.long (x <<< (y.toInt64 &&& 63)) :: st) h Q) : px_W G D C S M pc ls (.int y :: .long x :: st) h Q := by
  intro p l e R s m args below meth c H locs cells slots lsr Qm cx hS hR hl hd hlo hc hk
  exact lv_lshl cx.1 cx.2.1 d rfl (k p l e R s m args below meth c H locs cells slots lsr Qm cx hS hR hl hd hlo hc hk)
theorem wp_i2l {x : Int32} (d : decode M.2.1 pc = .ok (.i2l, 1)) (k : px_W G D C S M (pc + 1) ls (.long x.toInt64 :: st) h Q) : px_W G D C S M pc ls (.int x :: st) h Q := by
  intro p l e R s m args below meth c H locs cells slots lsr Qm cx hS hR hl hd hlo hc hk
  exact lv_i2l cx.1 cx.2.1 d rfl (k p l e R s m args below meth c H locs cells slots lsr Qm cx hS hR hl hd hlo hc hk)
theorem wp_l2i {x : Int64} (d : decode M.2.1 pc = .ok (.l2i, 1)) (k : px_W G D C S M (pc + 1) ls (.int x.toInt32 :: st) h Q) : px_W G D C S M pc ls (.long x :: st) h Q := by
  intro p l e R s m args below meth c H locs cells slots lsr Qm cx hS hR hl hd hlo hc hk
  exact lv_l2i cx.1 cx.2.1 d rfl (k p l e R s m args below meth c H locs cells slots lsr Qm cx hS hR hl hd hlo hc hk)
theorem wp_i2b {x : Int32} (d : decode M.2.1 pc = .ok (.i2b, 1)) (k : px_W G D C S M (pc + 1) ls (.int x.toInt8.toInt32 :: st) h Q) : px_W G D C S M pc ls (.int x :: st) h Q := by
  intro p l e R s m args below meth c H locs cells slots lsr Qm cx hS hR hl hd hlo hc hk
  exact lv_i2b cx.1 cx.2.1 d rfl (k p l e R s m args below meth c H locs cells slots lsr Qm cx hS hR hl hd hlo hc hk)
theorem wp_i2s {x : Int32} (d : decode M.2.1 pc = .ok (.i2s, 1)) (k : px_W G D C S M (pc + 1) ls (.int x.toInt16.toInt32 :: st) h Q) : px_W G D C S M pc ls (.int x :: st) h Q := by
  intro p l e R s m args below meth c H locs cells slots lsr Qm cx hS hR hl hd hlo hc hk
  exact lv_i2s cx.1 cx.2.1 d rfl (k p l e R s m args below meth c H locs cells slots lsr Qm cx hS hR hl hd hlo hc hk)
theorem wp_i2c {x : Int32} (d : decode M.2.1 pc = .ok (.i2c, 1)) (k : px_W G D C S M (pc + 1) ls (.int (x.toUInt32 % 65536).toInt32 :: st) h Q) : px_W G D C S M pc ls (.int x :: st) h Q := by
  intro p l e R s m args below meth c H locs cells slots lsr Qm cx hS hR hl hd hlo hc hk
  exact lv_i2c cx.1 cx.2.1 d rfl (k p l e R s m args below meth c H locs cells slots lsr Qm cx hS hR hl hd hlo hc hk)
theorem wp_iconst {n : Int} {v : Int32} (d : decode M.2.1 pc = .ok (.iconst n, 1)) (hv : Int32.ofInt n = v) (k : px_W G D C S M (pc + 1) ls (.int v :: st) h Q) : px_W G D C S M pc ls (st) h Q := by
  intro p l e R s m args below meth c H locs cells slots lsr Qm cx hS hR hl hd hlo hc hk
  exact lv_iconst cx.1 cx.2.1 d hv (k p l e R s m args below meth c H locs cells slots lsr Qm cx hS hR hl hd hlo hc hk)
theorem wp_bipush {n : Int} {v : Int32} (d : decode M.2.1 pc = .ok (.bipush n, 2)) (hv : (Int8.ofInt n).toInt32 = v) (k : px_W G D C S M (pc + 2) ls (.int v :: st) h Q) : px_W G D C S M pc ls (st) h Q := by
  intro p l e R s m args below meth c H locs cells slots lsr Qm cx hS hR hl hd hlo hc hk
  exact lv_bipush cx.1 cx.2.1 d hv (k p l e R s m args below meth c H locs cells slots lsr Qm cx hS hR hl hd hlo hc hk)
theorem wp_sipush {n : Int} {v : Int32} (d : decode M.2.1 pc = .ok (.sipush n, 3)) (hv : (Int16.ofInt n).toInt32 = v) (k : px_W G D C S M (pc + 3) ls (.int v :: st) h Q) : px_W G D C S M pc ls (st) h Q := by
  intro p l e R s m args below meth c H locs cells slots lsr Qm cx hS hR hl hd hlo hc hk
  exact lv_sipush cx.1 cx.2.1 d hv (k p l e R s m args below meth c H locs cells slots lsr Qm cx hS hR hl hd hlo hc hk)
theorem wp_lconst {n : Fin 2} {v : Int64} (d : decode M.2.1 pc = .ok (.lconst n, 1)) (hv : Int64.ofNat (n : Nat) = v) (k : px_W G D C S M (pc + 1) ls (.long v :: st) h Q) : px_W G D C S M pc ls (st) h Q := by
  intro p l e R s m args below meth c H locs cells slots lsr Qm cx hS hR hl hd hlo hc hk
  exact lv_lconst cx.1 cx.2.1 d hv (k p l e R s m args below meth c H locs cells slots lsr Qm cx hS hR hl hd hlo hc hk)
theorem wp_null  (d : decode M.2.1 pc = .ok (.aconst_null, 1)) (k : px_W G D C S M (pc + 1) ls (.null :: st) h Q) : px_W G D C S M pc ls (st) h Q := by
  intro p l e R s m args below meth c H locs cells slots lsr Qm cx hS hR hl hd hlo hc hk
  exact lv_null cx.1 cx.2.1 d (k p l e R s m args below meth c H locs cells slots lsr Qm cx hS hR hl hd hlo hc hk)
theorem wp_ldc {i : Nat} {v : Int32} (d : decode M.2.1 pc = .ok (.ldc i, 2)) (w : Cond.constant M.1.cls i v ∈ px_tb) (k : px_W G D C S M (pc + 2) ls (.int v :: st) h Q) : px_W G D C S M pc ls (st) h Q := by
  intro p l e R s m args below meth c H locs cells slots lsr Qm cx hS hR hl hd hlo hc hk
  exact lv_ldc cx.1 cx.2.1 cx.2.2.2.2.2.1 (cx.2.2.2.2.2.2.1 _ w) d (k p l e R s m args below meth c H locs cells slots lsr Qm cx hS hR hl hd hlo hc hk)
theorem wp_ldcw {i : Nat} {v : Int32} (d : decode M.2.1 pc = .ok (.ldc_w i, 3)) (w : Cond.constant M.1.cls i v ∈ px_tb) (k : px_W G D C S M (pc + 3) ls (.int v :: st) h Q) : px_W G D C S M pc ls (st) h Q := by
  intro p l e R s m args below meth c H locs cells slots lsr Qm cx hS hR hl hd hlo hc hk
  exact lv_ldcw cx.1 cx.2.1 cx.2.2.2.2.2.1 (cx.2.2.2.2.2.2.1 _ w) d (k p l e R s m args below meth c H locs cells slots lsr Qm cx hS hR hl hd hlo hc hk)
theorem wp_ldc2 {i : Nat} {v : Int64} (d : decode M.2.1 pc = .ok (.ldc2_w i, 3)) (w : Cond.constantLong M.1.cls i v ∈ px_tb) (k : px_W G D C S M (pc + 3) ls (.long v :: st) h Q) : px_W G D C S M pc ls (st) h Q := by
  intro p l e R s m args below meth c H locs cells slots lsr Qm cx hS hR hl hd hlo hc hk
  exact lv_ldc2 cx.1 cx.2.1 cx.2.2.2.2.2.1 (cx.2.2.2.2.2.2.1 _ w) d (k p l e R s m args below meth c H locs cells slots lsr Qm cx hS hR hl hd hlo hc hk)
theorem wp_dup {v : Value} (d : decode M.2.1 pc = .ok (.dup, 1)) (hv : v.category = 1) (k : px_W G D C S M (pc + 1) ls (v :: v :: st) h Q) : px_W G D C S M pc ls (v :: st) h Q := by
  intro p l e R s m args below meth c H locs cells slots lsr Qm cx hS hR hl hd hlo hc hk
  exact lv_dup cx.1 cx.2.1 d (by rw [px_cat]; exact hv) (k p l e R s m args below meth c H locs cells slots lsr Qm cx hS hR hl hd hlo hc hk)
theorem wp_pop {v : Value} (d : decode M.2.1 pc = .ok (.pop, 1)) (hv : v.category = 1) (k : px_W G D C S M (pc + 1) ls (st) h Q) : px_W G D C S M pc ls (v :: st) h Q := by
  intro p l e R s m args below meth c H locs cells slots lsr Qm cx hS hR hl hd hlo hc hk
  exact lv_pop cx.1 cx.2.1 d (by rw [px_cat]; exact hv) (k p l e R s m args below meth c H locs cells slots lsr Qm cx hS hR hl hd hlo hc hk)
theorem wp_dup2 {v w : Value} (d : decode M.2.1 pc = .ok (.dup2, 1)) (hv : v.category = 1) (hw : w.category = 1) (k : px_W G D C S M (pc + 1) ls (v :: w :: v :: w :: st) h Q) : px_W G D C S M pc ls (v :: w :: st) h Q := by
  intro p l e R s m args below meth c H locs cells slots lsr Qm cx hS hR hl hd hlo hc hk
  exact lv_dup2_11 cx.1 cx.2.1 d (by rw [px_cat]; exact hv) (by rw [px_cat]; exact hw) (k p l e R s m args below meth c H locs cells slots lsr Qm cx hS hR hl hd hlo hc hk)
theorem wp_dup_x1 {v w : Value} (d : decode M.2.1 pc = .ok (.dup_x1, 1)) (hv : v.category = 1) (hw : w.category = 1) (k : px_W G D C S M (pc + 1) ls (v :: w :: v :: st) h Q) : px_W G D C S M pc ls (v :: w :: st) h Q := by
  intro p l e R s m args below meth c H locs cells slots lsr Qm cx hS hR hl hd hlo hc hk
  exact lv_dup_x1 cx.1 cx.2.1 d (by rw [px_cat]; exact hv) (by rw [px_cat]; exact hw) (k p l e R s m args below meth c H locs cells slots lsr Qm cx hS hR hl hd hlo hc hk)
theorem wp_iload_n {n : Fin 4} {i : Nat} {x : Int32} (d : decode M.2.1 pc = .ok (.iload_n n, 1)) (hi : (n : Nat) = i) (hx : ls[i]? = some (some (.int x))) (k : px_W G D C S M (pc + 1) ls (.int x :: st) h Q) : px_W G D C S M pc ls (st) h Q := by
  intro p l e R s m args below meth c H locs cells slots lsr Qm cx hS hR hl hd hlo hc hk
  exact lv_iload_n cx.1 cx.2.1 d hi (hl.2.2 _ _ hx) (k p l e R s m args below meth c H locs cells slots lsr Qm cx hS hR hl hd hlo hc hk)
theorem wp_lload_n {n : Fin 4} {i : Nat} {x : Int64} (d : decode M.2.1 pc = .ok (.lload_n n, 1)) (hi : (n : Nat) = i) (hx : ls[i]? = some (some (.long x))) (k : px_W G D C S M (pc + 1) ls (.long x :: st) h Q) : px_W G D C S M pc ls (st) h Q := by
  intro p l e R s m args below meth c H locs cells slots lsr Qm cx hS hR hl hd hlo hc hk
  exact lv_lload_n cx.1 cx.2.1 d hi (hl.2.2 _ _ hx) (k p l e R s m args below meth c H locs cells slots lsr Qm cx hS hR hl hd hlo hc hk)
theorem wp_iload {i : Nat} {x : Int32} (d : decode M.2.1 pc = .ok (.iload i, 2)) (hx : ls[i]? = some (some (.int x))) (k : px_W G D C S M (pc + 2) ls (.int x :: st) h Q) : px_W G D C S M pc ls (st) h Q := by
  intro p l e R s m args below meth c H locs cells slots lsr Qm cx hS hR hl hd hlo hc hk
  exact lv_iload cx.1 cx.2.1 d (hl.2.2 _ _ hx) (k p l e R s m args below meth c H locs cells slots lsr Qm cx hS hR hl hd hlo hc hk)
theorem wp_lload {i : Nat} {x : Int64} (d : decode M.2.1 pc = .ok (.lload i, 2)) (hx : ls[i]? = some (some (.long x))) (k : px_W G D C S M (pc + 2) ls (.long x :: st) h Q) : px_W G D C S M pc ls (st) h Q := by
  intro p l e R s m args below meth c H locs cells slots lsr Qm cx hS hR hl hd hlo hc hk
  exact lv_lload cx.1 cx.2.1 d (hl.2.2 _ _ hx) (k p l e R s m args below meth c H locs cells slots lsr Qm cx hS hR hl hd hlo hc hk)
def px_isr : Value → Bool
  | .ref _ => true
  | .null => true
  | .retAddr _ => true
  | _ => false
theorem px_isr_of {v : Value} (hv : px_isr v = true) (G : px_G) : px_v G v = .null ∨ ∃ a, px_v G v = .ref a := by
  cases v with
  | ref k => exact Or.inr ⟨_, rfl⟩
  | null => exact Or.inl rfl
  | retAddr j =>
    show va_rf (G.2.2.2.1 j) = .null ∨ ∃ a, va_rf (G.2.2.2.1 j) = .ref a
    cases G.2.2.2.1 j with
    | none => exact Or.inl rfl
    | some a => exact Or.inr ⟨a, rfl⟩
  | _ => cases hv
theorem wp_aload_n {n : Fin 4} {i : Nat} {v : Value} (d : decode M.2.1 pc = .ok (.aload_n n, 1)) (hi : (n : Nat) = i) (hx : ls[i]? = some (some v)) (hv : px_isr v = true) (k : px_W G D C S M (pc + 1) ls (v :: st) h Q) : px_W G D C S M pc ls st h Q := by
  intro p l e R s m args below meth c H locs cells slots lsr Qm cx hS hR hl hd hlo hc hk
  have a1 := hl.2.2 _ _ hx
  have k1 := (k p l e R s m args below meth c H locs cells slots lsr Qm cx hS hR hl hd hlo hc hk)
  rw [List.map_cons] at k1
  rcases px_isr_of hv G with q | ⟨a, q⟩
  · rw [q] at a1 k1
    exact lv_aload_nN cx.1 cx.2.1 d hi a1 k1
  · rw [q] at a1 k1
    exact lv_aload_n cx.1 cx.2.1 d hi a1 k1
theorem wp_aload {i : Nat} {v : Value} (d : decode M.2.1 pc = .ok (.aload i, 2)) (hx : ls[i]? = some (some v)) (hv : px_isr v = true) (k : px_W G D C S M (pc + 2) ls (v :: st) h Q) : px_W G D C S M pc ls st h Q := by
  intro p l e R s m args below meth c H locs cells slots lsr Qm cx hS hR hl hd hlo hc hk
  have a1 := hl.2.2 _ _ hx
  have k1 := (k p l e R s m args below meth c H locs cells slots lsr Qm cx hS hR hl hd hlo hc hk)
  rw [List.map_cons] at k1
  rcases px_isr_of hv G with q | ⟨a, q⟩
  · rw [q] at a1 k1
    exact lv_aloadN cx.1 cx.2.1 d a1 k1
  · rw [q] at a1 k1
    exact lv_aload cx.1 cx.2.1 d a1 k1
theorem wp_istore_n {n : Fin 4} {i : Nat} {x : Int32} {ls' : px_L} (d : decode M.2.1 pc = .ok (.istore_n n, 1)) (hi : (n : Nat) = i) (hn : i < M.2.2.1) (hs : px_st1 ls i (.int x) = ls') (k : px_W G D C S M (pc + 1) ls' st h Q) : px_W G D C S M pc ls (.int x :: st) h Q := by
  intro p l e R s m args below meth c H locs cells slots lsr Qm cx hS hR hl hd hlo hc hk
  subst hs
  exact lv_istore_n cx.1 cx.2.1 d hi hl.has hn rfl (fun ls1 h1 => k p l e R s m args below meth c H locs cells slots ls1 Qm cx hS hR (px_lr.st1 (v := .int x) h1) hd hlo hc hk)
theorem wp_istore {i : Nat} {x : Int32} {ls' : px_L} (d : decode M.2.1 pc = .ok (.istore i, 2)) (hn : i < M.2.2.1) (hs : px_st1 ls i (.int x) = ls') (k : px_W G D C S M (pc + 2) ls' st h Q) : px_W G D C S M pc ls (.int x :: st) h Q := by
  intro p l e R s m args below meth c H locs cells slots lsr Qm cx hS hR hl hd hlo hc hk
  subst hs
  exact lv_istore cx.1 cx.2.1 d hl.has hn rfl (fun ls1 h1 => k p l e R s m args below meth c H locs cells slots ls1 Qm cx hS hR (px_lr.st1 (v := .int x) h1) hd hlo hc hk)
theorem wp_lstore_n {n : Fin 4} {i : Nat} {x : Int64} {ls' : px_L} (d : decode M.2.1 pc = .ok (.lstore_n n, 1)) (hi : (n : Nat) = i) (hn : i + 1 < M.2.2.1) (hs : px_st2 ls i (.long x) = ls') (k : px_W G D C S M (pc + 1) ls' st h Q) : px_W G D C S M pc ls (.long x :: st) h Q := by
  intro p l e R s m args below meth c H locs cells slots lsr Qm cx hS hR hl hd hlo hc hk
  subst hs
  exact lv_lstore_n cx.1 cx.2.1 d hi hl.has hn rfl (fun ls1 h1 => k p l e R s m args below meth c H locs cells slots ls1 Qm cx hS hR (px_lr.st2 (v := .long x) h1) hd hlo hc hk)
theorem wp_lstore {i : Nat} {x : Int64} {ls' : px_L} (d : decode M.2.1 pc = .ok (.lstore i, 2)) (hn : i + 1 < M.2.2.1) (hs : px_st2 ls i (.long x) = ls') (k : px_W G D C S M (pc + 2) ls' st h Q) : px_W G D C S M pc ls (.long x :: st) h Q := by
  intro p l e R s m args below meth c H locs cells slots lsr Qm cx hS hR hl hd hlo hc hk
  subst hs
  exact lv_lstore cx.1 cx.2.1 d hl.has hn rfl (fun ls1 h1 => k p l e R s m args below meth c H locs cells slots ls1 Qm cx hS hR (px_lr.st2 (v := .long x) h1) hd hlo hc hk)
theorem wp_astore_n {n : Fin 4} {i : Nat} {v : Value} {ls' : px_L} (d : decode M.2.1 pc = .ok (.astore_n n, 1)) (hi : (n : Nat) = i) (hn : i < M.2.2.1) (hv : px_isr v = true) (hs : px_st1 ls i v = ls') (k : px_W G D C S M (pc + 1) ls' st h Q) : px_W G D C S M pc ls (v :: st) h Q := by
  intro p l e R s m args below meth c H locs cells slots lsr Qm cx hS hR hl hd hlo hc hk
  subst hs
  rw [List.map_cons]
  rcases px_isr_of hv G with q | ⟨a, q⟩
  · rw [q]
    exact lv_astore_nN cx.1 cx.2.1 d hi hl.has hn rfl (fun ls1 h1 => k p l e R s m args below meth c H locs cells slots ls1 Qm cx hS hR (px_lr.st1 (v := v) (by rw [q]; exact h1)) hd hlo hc hk)
  · rw [q]
    exact lv_astore_n cx.1 cx.2.1 d hi hl.has hn rfl (fun ls1 h1 => k p l e R s m args below meth c H locs cells slots ls1 Qm cx hS hR (px_lr.st1 (v := v) (by rw [q]; exact h1)) hd hlo hc hk)
theorem wp_astore {i : Nat} {v : Value} {ls' : px_L} (d : decode M.2.1 pc = .ok (.astore i, 2)) (hn : i < M.2.2.1) (hv : px_isr v = true) (hs : px_st1 ls i v = ls') (k : px_W G D C S M (pc + 2) ls' st h Q) : px_W G D C S M pc ls (v :: st) h Q := by
  intro p l e R s m args below meth c H locs cells slots lsr Qm cx hS hR hl hd hlo hc hk
  subst hs
  rw [List.map_cons]
  rcases px_isr_of hv G with q | ⟨a, q⟩
  · rw [q]
    exact lv_astoreN cx.1 cx.2.1 d hl.has hn rfl (fun ls1 h1 => k p l e R s m args below meth c H locs cells slots ls1 Qm cx hS hR (px_lr.st1 (v := v) (by rw [q]; exact h1)) hd hlo hc hk)
  · rw [q]
    exact lv_astore cx.1 cx.2.1 d hl.has hn rfl (fun ls1 h1 => k p l e R s m args below meth c H locs cells slots ls1 Qm cx hS hR (px_lr.st1 (v := v) (by rw [q]; exact h1)) hd hlo hc hk)
theorem px_ll_at {G : px_G} {ls : px_L} {i : Nat} {v : Value} (h : ls[i]? = some (some v)) : ∃ j : Nat, (px_ll G ls)[j]? = some (i, px_v G v) := List.getElem?_of_mem (px_ll_in h)
theorem wp_iinc {i : Nat} {n : Int} {x v : Int32} {ls' : px_L} (d : decode M.2.1 pc = .ok (.iinc i n, 3)) (hn : i < M.2.2.1) (hx : ls[i]? = some (some (.int x))) (hv : x + Int32.ofInt n = v) (hs : px_st1 ls i (.int v) = ls') (k : px_W G D C S M (pc + 3) ls' st h Q) : px_W G D C S M pc ls st h Q := by
  intro p l e R s m args below meth c H locs cells slots lsr Qm cx hS hR hl hd hlo hc hk
  subst hs
  obtain ⟨j, hj⟩ := px_ll_at (G := G) hx
  exact lv_iinc cx.1 cx.2.1 d hl.has hj hv hn rfl (fun ls1 h1 => k p l e R s m args below meth c H locs cells slots ls1 Qm cx hS hR (px_lr.st1 (v := .int v) h1) hd hlo hc hk)
/-- less is told of the locals -/
theorem wp_less {ls' : px_L} (hs : px_leb ls' ls) (k : px_W G D C S M pc ls' st h Q) : px_W G D C S M pc ls st h Q := by
  intro p l e R s m args below meth c H locs cells slots lsr Qm cx hS hR hl hd hlo hc hk
  exact k p l e R s m args below meth c H locs cells slots lsr Qm cx hS hR (hl.less (px_leb_at _ _ hs)) hd hlo hc hk
theorem wp_goto {off : Int} {t : Nat} (d : decode M.2.1 pc = .ok (.goto off, 3)) (ht : (pc : Int) + off = (t : Int)) (k : px_W G D C S M t ls st h Q) : px_W G D C S M pc ls st h Q := by
  intro p l e R s m args below meth c H locs cells slots lsr Qm cx hS hR hl hd hlo hc hk
  exact lv_goto cx.1 cx.2.1 d ht (k p l e R s m args below meth c H locs cells slots lsr Qm cx hS hR hl hd hlo hc hk)
theorem wp_icmp_eq {x y : Int32} {off : Int} {t : Nat} (d : decode M.2.1 pc = .ok (.if_icmp .eq off, 3)) (ht : (pc : Int) + off = (t : Int)) (kt : x = y → px_W G D C S M t ls st h Q) (kf : ¬ x = y → px_W G D C S M (pc + 3) ls st h Q) : px_W G D C S M pc ls (.int y :: .int x :: st) h Q := by
  intro p l e R s m args below meth c H locs cells slots lsr Qm cx hS hR hl hd hlo hc hk
  exact lv_icmp_eq cx.1 cx.2.1 d ht (fun q => kt q p l e R s m args below meth c H locs cells slots lsr Qm cx hS hR hl hd hlo hc hk) (fun q => kf q p l e R s m args below meth c H locs cells slots lsr Qm cx hS hR hl hd hlo hc hk)
theorem wp_icmp_ne {x y : Int32} {off : Int} {t : Nat} (d : decode M.2.1 pc = .ok (.if_icmp .ne off, 3)) (ht : (pc : Int) + off = (t : Int)) (kt : ¬ x = y → px_W G D C S M t ls st h Q) (kf : x = y → px_W G D C S M (pc + 3) ls st h Q) : px_W G D C S M pc ls (.int y :: .int x :: st) h Q := by
  intro p l e R s m args below meth c H locs cells slots lsr Qm cx hS hR hl hd hlo hc hk
  exact lv_icmp_ne cx.1 cx.2.1 d ht (fun q => kt q p l e R s m args below meth c H locs cells slots lsr Qm cx hS hR hl hd hlo hc hk) (fun q => kf q p l e R s m args below meth c H locs cells slots lsr Qm cx hS hR hl hd hlo hc hk)
theorem wp_icmp_lt {x y : Int32} {off : Int} {t : Nat} (d : decode M.2.1 pc = .ok (.if_icmp .lt off, 3)) (ht : (pc : Int) + off = (t : Int)) (kt : x < y → px_W G D C S M t ls st h Q) (kf : ¬ x < y → px_W G D C S M (pc + 3) ls st h Q) : px_W G D C S M pc ls (.int y :: .int x :: st) h Q := by
  intro p l e R s m args below meth c H locs cells slots lsr Qm cx hS hR hl hd hlo hc hk
  exact lv_icmp_lt cx.1 cx.2.1 d ht (fun q => kt q p l e R s m args below meth c H locs cells slots lsr Qm cx hS hR hl hd hlo hc hk) (fun q => kf q p l e R s m args below meth c H locs cells slots lsr Qm cx hS hR hl hd hlo hc hk)
theorem wp_icmp_ge {x y : Int32} {off : Int} {t : Nat} (d : decode M.2.1 pc = .ok (.if_icmp .ge off, 3)) (ht : (pc : Int) + off = (t : Int)) (kt : y ≤ x → px_W G D C S M t ls st h Q) (kf : ¬ y ≤ x → px_W G D C S M (pc + 3) ls st h Q) : px_W G D C S M pc ls (.int y :: .int x :: st) h Q := by
  intro p l e R s m args below meth c H locs cells slots lsr Qm cx hS hR hl hd hlo hc hk
  exact lv_icmp_ge cx.1 cx.2.1 d ht (fun q => kt q p l e R s m args below meth c H locs cells slots lsr Qm cx hS hR hl hd hlo hc hk) (fun q => kf q p l e R s m args below meth c H locs cells slots lsr Qm cx hS hR hl hd hlo hc hk)
theorem wp_icmp_gt {x y : Int32} {off : Int} {t : Nat} (d : decode M.2.1 pc = .ok (.if_icmp .gt off, 3)) (ht : (pc : Int) + off = (t : Int)) (kt : y < x → px_W G D C S M t ls st h Q) (kf : ¬ y < x → px_W G D C S M (pc + 3) ls st h Q) : px_W G D C S M pc ls (.int y :: .int x :: st) h Q := by
  intro p l e R s m args below meth c H locs cells slots lsr Qm cx hS hR hl hd hlo hc hk
  exact lv_icmp_gt cx.1 cx.2.1 d ht (fun q => kt q p l e R s m args below meth c H locs cells slots lsr Qm cx hS hR hl hd hlo hc hk) (fun q => kf q p l e R s m args below meth c H locs cells slots lsr Qm cx hS hR hl hd hlo hc hk)
theorem wp_icmp_le {x y : Int32} {off : Int} {t : Nat} (d : decode M.2.1 pc = .ok (.if_icmp .le off, 3)) (ht : (pc : Int) + off = (t : Int)) (kt : x ≤ y → px_W G D C S M t ls st h Q) (kf : ¬ x ≤ y → px_W G D C S M (pc + 3) ls st h Q) : px_W G D C S M pc ls (.int y :: .int x :: st) h Q := by
  intro p l e R s m args below meth c H locs cells slots lsr Qm cx hS hR hl hd hlo hc hk
  exact lv_icmp_le cx.1 cx.2.1 d ht (fun q => kt q p l e R s m args below meth c H locs cells slots lsr Qm cx hS hR hl hd hlo hc hk) (fun q => kf q p l e R s m args below meth c H locs cells slots lsr Qm cx hS hR hl hd hlo hc hk)
theorem wp_if_eq {x : Int32} {off : Int} {t : Nat} (d : decode M.2.1 pc = .ok (.ifCond .eq off, 3)) (ht : (pc : Int) + off = (t : Int)) (kt : x = 0 → px_W G D C S M t ls st h Q) (kf : ¬ x = 0 → px_W G D C S M (pc + 3) ls st h Q) : px_W G D C S M pc ls (.int x :: st) h Q := by
  intro p l e R s m args below meth c H locs cells slots lsr Qm cx hS hR hl hd hlo hc hk
  exact lv_if_eq cx.1 cx.2.1 d ht (fun q => kt q p l e R s m args below meth c H locs cells slots lsr Qm cx hS hR hl hd hlo hc hk) (fun q => kf q p l e R s m args below meth c H locs cells slots lsr Qm cx hS hR hl hd hlo hc hk)
theorem wp_if_ne {x : Int32} {off : Int} {t : Nat} (d : decode M.2.1 pc = .ok (.ifCond .ne off, 3)) (ht : (pc : Int) + off = (t : Int)) (kt : ¬ x = 0 → px_W G D C S M t ls st h Q) (kf : x = 0 → px_W G D C S M (pc + 3) ls st h Q) : px_W G D C S M pc ls (.int x :: st) h Q := by
  intro p l e R s m args below meth c H locs cells slots lsr Qm cx hS hR hl hd hlo hc hk
  exact lv_if_ne cx.1 cx.2.1 d ht (fun q => kt q p l e R s m args below meth c H locs cells slots lsr Qm cx hS hR hl hd hlo hc hk) (fun q => kf q p l e R s m args below meth c H locs cells slots lsr Qm cx hS hR hl hd hlo hc hk)
theorem wp_if_lt {x : Int32} {off : Int} {t : Nat} (d : decode M.2.1 pc = .ok (.ifCond .lt off, 3)) (ht : (pc : Int) + off = (t : Int)) (kt : x < 0 → px_W G D C S M t ls st h Q) (kf : ¬ x < 0 → px_W G D C S M (pc + 3) ls st h Q) : px_W G D C S M pc ls (.int x :: st) h Q := by
  intro p l e R s m args below meth c H locs cells slots lsr Qm cx hS hR hl hd hlo hc hk
  exact lv_if_lt cx.1 cx.2.1 d ht (fun q => kt q p l e R s m args below meth c H locs cells slots lsr Qm cx hS hR hl hd hlo hc hk) (fun q => kf q p l e R s m args below meth c H locs cells slots lsr Qm cx hS hR hl hd hlo hc hk)
theorem wp_if_ge {x : Int32} {off : Int} {t : Nat} (d : decode M.2.1 pc = .ok (.ifCond .ge off, 3)) (ht : (pc : Int) + off = (t : Int)) (kt : 0 ≤ x → px_W G D C S M t ls st h Q) (kf : ¬ 0 ≤ x → px_W G D C S M (pc + 3) ls st h Q) : px_W G D C S M pc ls (.int x :: st) h Q := by
  intro p l e R s m args below meth c H locs cells slots lsr Qm cx hS hR hl hd hlo hc hk
  exact lv_if_ge cx.1 cx.2.1 d ht (fun q => kt q p l e R s m args below meth c H locs cells slots lsr Qm cx hS hR hl hd hlo hc hk) (fun q => kf q p l e R s m args below meth c H locs cells slots lsr Qm cx hS hR hl hd hlo hc hk)
theorem wp_if_gt {x : Int32} {off : Int} {t : Nat} (d : decode M.2.1 pc = .ok (.ifCond .gt off, 3)) (ht : (pc : Int) + off = (t : Int)) (kt : 0 < x → px_W G D C S M t ls st h Q) (kf : ¬ 0 < x → px_W G D C S M (pc + 3) ls st h Q) : px_W G D C S M pc ls (.int x :: st) h Q := by
  intro p l e R s m args below meth c H locs cells slots lsr Qm cx hS hR hl hd hlo hc hk
  exact lv_if_gt cx.1 cx.2.1 d ht (fun q => kt q p l e R s m args below meth c H locs cells slots lsr Qm cx hS hR hl hd hlo hc hk) (fun q => kf q p l e R s m args below meth c H locs cells slots lsr Qm cx hS hR hl hd hlo hc hk)
theorem wp_if_le {x : Int32} {off : Int} {t : Nat} (d : decode M.2.1 pc = .ok (.ifCond .le off, 3)) (ht : (pc : Int) + off = (t : Int)) (kt : x ≤ 0 → px_W G D C S M t ls st h Q) (kf : ¬ x ≤ 0 → px_W G D C S M (pc + 3) ls st h Q) : px_W G D C S M pc ls (.int x :: st) h Q := by
  intro p l e R s m args below meth c H locs cells slots lsr Qm cx hS hR hl hd hlo hc hk
  exact lv_if_le cx.1 cx.2.1 d ht (fun q => kt q p l e R s m args below meth c H locs cells slots lsr Qm cx hS hR hl hd hlo hc hk) (fun q => kf q p l e R s m args below meth c H locs cells slots lsr Qm cx hS hR hl hd hlo hc hk)
theorem wp_ifnonnull {x : Nat} {off : Int} {t : Nat} (d : decode M.2.1 pc = .ok (.ifnonnull off, 3)) (ht : (pc : Int) + off = (t : Int)) (k : px_W G D C S M t ls st h Q) : px_W G D C S M pc ls (.ref x :: st) h Q := by
  intro p l e R s m args below meth c H locs cells slots lsr Qm cx hS hR hl hd hlo hc hk
  exact lv_ifnonnull cx.1 cx.2.1 d ht (k p l e R s m args below meth c H locs cells slots lsr Qm cx hS hR hl hd hlo hc hk)
theorem wp_ifnonnullN {off : Int} (d : decode M.2.1 pc = .ok (.ifnonnull off, 3)) (k : px_W G D C S M (pc + 3) ls st h Q) : px_W G D C S M pc ls (.null :: st) h Q := by
  intro p l e R s m args below meth c H locs cells slots lsr Qm cx hS hR hl hd hlo hc hk
  exact lv_ifnonnullN cx.1 cx.2.1 d (k p l e R s m args below meth c H locs cells slots lsr Qm cx hS hR hl hd hlo hc hk)
theorem wp_tableIn {df lo hi : Int} {offs : Array Int} {len : Nat} {x : Int32} {off : Int} {t : Nat} (d : decode M.2.1 pc = .ok (.tableswitch df lo hi offs, len)) (h1 : ¬ x.toInt < lo) (h2 : ¬ hi < x.toInt) (ho : offs[(x.toInt - lo).toNat]? = some off) (ht : (pc : Int) + off = (t : Int)) (k : px_W G D C S M t ls st h Q) : px_W G D C S M pc ls (.int x :: st) h Q := by
  intro p l e R s m args below meth c H locs cells slots lsr Qm cx hS hR hl hd hlo hc hk
  exact lv_tableIn cx.1 cx.2.1 d h1 h2 ho ht (k p l e R s m args below meth c H locs cells slots lsr Qm cx hS hR hl hd hlo hc hk)
theorem wp_tableOut {df lo hi : Int} {offs : Array Int} {len : Nat} {x : Int32} {t : Nat} (d : decode M.2.1 pc = .ok (.tableswitch df lo hi offs, len)) (h1 : x.toInt < lo ∨ hi < x.toInt) (ht : (pc : Int) + df = (t : Int)) (k : px_W G D C S M t ls st h Q) : px_W G D C S M pc ls (.int x :: st) h Q := by
  intro p l e R s m args below meth c H locs cells slots lsr Qm cx hS hR hl hd hlo hc hk
  exact lv_tableOut cx.1 cx.2.1 d h1 ht (k p l e R s m args below meth c H locs cells slots lsr Qm cx hS hR hl hd hlo hc hk)
theorem wp_lookup {df : Int} {ps : Array (Int × Int)} {len : Nat} {x : Int32} {off : Int} {t : Nat} (d : decode M.2.1 pc = .ok (.lookupswitch df ps, len)) (hp : (ps.toList.zip (ps.toList.drop 1)).all (fun (a, next) => a.1 < next.1) = true) (ho : Op.lookupswitch.offset ps.toList df x.toInt = off) (ht : (pc : Int) + off = (t : Int)) (k : px_W G D C S M t ls st h Q) : px_W G D C S M pc ls (.int x :: st) h Q := by
  intro p l e R s m args below meth c H locs cells slots lsr Qm cx hS hR hl hd hlo hc hk
  exact lv_lookup cx.1 cx.2.1 d hp ho ht (k p l e R s m args below meth c H locs cells slots lsr Qm cx hS hR hl hd hlo hc hk)
/-! the end of a method -/
theorem wp_return (d : decode M.2.1 pc = .ok (.return_, 1)) (hr : M.2.2.2 = none) (q : Q none h) : px_W G D C S M pc ls [] h Q := by
  intro p l e R s m args below meth c H locs cells slots lsr Qm cx hS hR hl hd hlo hc hk
  exact W.widen (Nat.le_add_right _ _) (Nat.le_add_right _ _) (hk pc lsr H locs none h q (Or.inl ⟨rfl, hr, d⟩) hR hS)
theorem wp_ireturn {x : Int32} {ty : FieldType} (d : decode M.2.1 pc = .ok (.ireturn, 1)) (hr : M.2.2.2 = some ty) (hn : narrow ty (.int x) = .int x) (q : Q (some (.int x)) h) : px_W G D C S M pc ls [.int x] h Q := by
  intro p l e R s m args below meth c H locs cells slots lsr Qm cx hS hR hl hd hlo hc hk
  exact W.widen (Nat.le_add_right _ _) (Nat.le_add_right _ _) (hk pc lsr H locs (some (.int x)) h q (Or.inr (Or.inl ⟨x, ty, rfl, hr, hn, d⟩)) hR hS)
theorem wp_lreturn {x : Int64} (d : decode M.2.1 pc = .ok (.lreturn, 1)) (hr : M.2.2.2 = some .long) (q : Q (some (.long x)) h) : px_W G D C S M pc ls [.long x] h Q := by
  intro p l e R s m args below meth c H locs cells slots lsr Qm cx hS hR hl hd hlo hc hk
  exact W.widen (Nat.le_add_right _ _) (Nat.le_add_right _ _) (hk pc lsr H locs (some (.long x)) h q (Or.inr (Or.inr (Or.inl ⟨x, rfl, hr, d⟩))) hR hS)
theorem wp_areturn {x : Nat} {ty : FieldType} (d : decode M.2.1 pc = .ok (.areturn, 1)) (hr : M.2.2.2 = some ty) (ht : (∃ n, ty = .object n) ∨ ∃ t, ty = .array t) (q : Q (some (.ref x)) h) : px_W G D C S M pc ls [.ref x] h Q := by
  intro p l e R s m args below meth c H locs cells slots lsr Qm cx hS hR hl hd hlo hc hk
  exact W.widen (Nat.le_add_right _ _) (Nat.le_add_right _ _) (hk pc lsr H locs (some (.ref x)) h q (Or.inr (Or.inr (Or.inr ⟨x, ty, rfl, hr, ht, d⟩))) hR hS)
/-! more room, a weaker end -/
theorem wp_room {C' S' : Nat} (hC : C' ≤ C) (hS' : S' ≤ S) (k : px_W G D C' S' M pc ls st h Q) : px_W G D C S M pc ls st h Q := by
  intro p l e R s m args below meth c H locs cells slots lsr Qm cx hS hR hl hd hlo hc hk
  refine k p l e R s m args below meth c H locs cells slots lsr Qm cx hS hR hl hd (by omega) (by omega) fun pc' lsr' H' locs' rv h' a1 a2 a3 a4 => ?_
  exact W.widen (by omega) (by omega) (hk pc' lsr' H' locs' rv h' a1 a2 a3 a4)
theorem wp_depth {D' : Nat} (hD : D' ≤ D) (k : px_W G D' C S M pc ls st h Q) : px_W G D C S M pc ls st h Q := by
  intro p l e R s m args below meth c H locs cells slots lsr Qm cx hS hR hl hd hlo hc hk
  exact k p l e R s m args below meth c H locs cells slots lsr Qm cx hS hR hl ⟨by omega, by omega⟩ hlo hc hk
theorem wp_mono {Q' : Option Value → px_H → Prop} (hq : ∀ rv h', Q' rv h' → Q rv h') (k : px_W G D C S M pc ls st h Q') : px_W G D C S M pc ls st h Q := by
  intro p l e R s m args below meth c H locs cells slots lsr Qm cx hS hR hl hd hlo hc hk
  exact k p l e R s m args below meth c H locs cells slots lsr Qm cx hS hR hl hd hlo hc fun pc' lsr' H' locs' rv h' a1 a2 a3 a4 => hk pc' lsr' H' locs' rv h' (hq _ _ a1) a2 a3 a4
end PXW
end
section
/-- a field as an instruction names it: class own, place idx of its pool; an object of class ci has it at place k; its type; final or not -/
def px_GF (own : String) (idx ci k : Nat) (ty : FieldType) (fin : Bool) : Prop := ∃ (r : vw_C) (ref : String), px_cls[ci]? = some r ∧ k < r.2.2 ∧ Cond.fieldLink own idx ref (r.2.1 k).2.1 (r.2.1 k).2.2.1 ∈ px_tb ∧ (ref = (r.2.1 k).1 ∨ Cond.sameField ref (r.2.1 k).1 (r.2.1 k).2.1 (r.2.1 k).2.2.1 ∈ px_tb) ∧ parseFieldDescriptor (r.2.1 k).2.2.1 = some ty ∧ (r.2.1 k).2.2.2 = fin ∧ (fin = true → (r.2.1 k).1 = own)
theorem px_same {s : State} {args : Array Value} {ref o n d : String} (ht : ∀ w ∈ px_tb, w.before args s = true) (h : ref = o ∨ Cond.sameField ref o n d ∈ px_tb) : ∀ x, s.fieldFound? o n d = some x → s.fieldFound? ref n d = some x := by
  rcases h with rfl | h
  · exact fun x hx => hx
  · exact u_same (ht _ h)
section PXH
variable {G : px_G} {D C S : Nat} {M : px_M} {pc : Nat} {ls : px_L} {st : List Value} {h h' : px_H} {Q : Option Value → px_H → Prop}
theorem px_cls_cd {w : Value} {fs : List Value} {k : Nat} {G : px_G} (hv : fs[k]? = some w) : (fs.map (px_v G))[k]? = some (px_v G w) := by simp [hv]
theorem wp_getf {idx ci k p0 : Nat} {ty : FieldType} {fin : Bool} {fs : List Value} {v : Value} (d : decode M.2.1 pc = .ok (.getfield idx, 3)) (gf : px_GF M.1.cls idx ci k ty fin) (he : h[p0]? = some (.inr (ci, fs))) (hv : fs[k]? = some v) (k : px_W G D C S M (pc + 3) ls (v :: st) h Q) : px_W G D C S M pc ls (.ref p0 :: st) h Q := by
  intro p l e R s m args below meth c H locs cells slots lsr Qm cx hS hR hl hd hlo hc hk
  obtain ⟨r, ref, g1, g2, g3, g4, -⟩ := gf
  exact va_get cx.1 cx.2.1 cx.2.2.2.2.2.2.1 (px_cls_tb ci r g1).1 cx.2.2.2.2.2.1 cx.2.2.2.2.2.2.2.2.1 hR.2 p0 (px_ws_get he) g1 _ g2 (cx.2.2.2.2.2.2.1 _ g3) (px_same cx.2.2.2.2.2.2.1 g4) (px_cls_cd hv) d (k p l e R s m args below meth c H locs cells slots lsr Qm cx hS hR hl hd hlo hc hk)
theorem wp_putf {idx ci k0 p0 : Nat} {ty : FieldType} {fs : List Value} {v : Value} (d : decode M.2.1 pc = .ok (.putfield idx, 3)) (gf : px_GF M.1.cls idx ci k0 ty false) (he : h[p0]? = some (.inr (ci, fs))) (hl0 : k0 < fs.length) (hn : narrow ty (px_v G v) = px_v G v) (hfit : fits ty (px_v G v) = true) (hh : h.set p0 (.inr (ci, fs.set k0 v)) = h') (k : px_W G D C S M (pc + 3) ls st h' Q) : px_W G D C S M pc ls (v :: .ref p0 :: st) h Q := by
  intro p l e R s m args below meth c H locs cells slots lsr Qm cx hS hR hl hd hlo hc hk
  subst hh
  obtain ⟨r, ref, g1, g2, g3, g4, g5, g6, g7⟩ := gf
  obtain ⟨C0, T, N⟩ := r
  have hts := cx.2.2.2.2.2.2.1
  have hown := cx.2.2.2.2.2.1
  have hK := cx.2.2.2.2.2.2.2.2.1
  have hin := (px_cls_tb ci _ g1).1
  obtain ⟨ty0, hty⟩ := (px_cls_tb ci _ g1).2.1
  have hnm := (px_cls_tb ci _ g1).2.2
  have hap := va_apart (own := M.1.cls) hts hin ty0 hty hnm hK g1
  obtain ⟨r', h1, cell, q1, q2, q3, q4⟩ := hR.at he
  have hr : r' = (C0, T, N) := Option.some.inj (h1.symm.trans g1)
  subst hr
  obtain ⟨hSl, hfc, kC, hkC, hkind⟩ := hK.1 ci _ g1
  obtain ⟨cf, kf, fi, f, hi, hsl⟩ := hSl k0 g2
  have hlay := hts _ (hin _ (u_in_lay g2))
  unfold u_lay at hlay
  rw [if_neg (by rw [g6]; decide)] at hlay
  have hst := (u_facts hfc hkC (u_lays hts hin g2) hi).1
  have h6 := u_store hfc hkC hkind hlay hi g5 hn hfit
  refine W.putK cx.1 cx.2.1 (f := f) ⟨hown, hts _ g3, ⟨_, _, _, px_same hts g4 _ hi⟩, hst⟩ (by rw [q2]; exact h6) q1 q3 (by rw [hsl]; exact k2_hasslot (q4 k0 g2)) rfl rfl d fun H' e1 e2 e3 => ?_
  rw [hsl] at e1
  refine k p l e R s m args below meth c H' _ cells slots lsr Qm cx (hS.put e2 e3 (Nat.le_add_right _ _)) (hR.set he e2 ⟨_, g1, ?_⟩ e3) hl hd hlo hc hk
  refine t_OB.to (V := updV (vp_V (fs.map (px_v G))) k0 (px_v G v)) ⟨_, e1, q2, q3, t_set q4 hap g2 _⟩ (fun j _ => ?_)
  rw [vp_updV_set (by simpa using hl0)]
  congr 1
  simp [List.map_set]
theorem wp_putF {idx ci k0 p0 : Nat} {ty : FieldType} {fs : List Value} {v : Value} (d : decode M.2.1 pc = .ok (.putfield idx, 3)) (gf : px_GF M.1.cls idx ci k0 ty true) (hnm0 : M.1.name = "<init>") (he : h[p0]? = some (.inr (ci, fs))) (hl0 : k0 < fs.length) (hn : narrow ty (px_v G v) = px_v G v) (hfit : fits ty (px_v G v) = true) (hh : h.set p0 (.inr (ci, fs.set k0 v)) = h') (k : px_W G D C S M (pc + 3) ls st h' Q) : px_W G D C S M pc ls (v :: .ref p0 :: st) h Q := by
  intro p l e R s m args below meth c H locs cells slots lsr Qm cx hS hR hl hd hlo hc hk
  subst hh
  obtain ⟨r, ref, g1, g2, g3, g4, g5, g6, g7⟩ := gf
  obtain ⟨C0, T, N⟩ := r
  have hts := cx.2.2.2.2.2.2.1
  have hown := cx.2.2.2.2.2.1
  have hK := cx.2.2.2.2.2.2.2.2.1
  have hin := (px_cls_tb ci _ g1).1
  obtain ⟨ty0, hty⟩ := (px_cls_tb ci _ g1).2.1
  have hnm := (px_cls_tb ci _ g1).2.2
  have hap := va_apart (own := M.1.cls) hts hin ty0 hty hnm hK g1
  obtain ⟨r', h1, cell, q1, q2, q3, q4⟩ := hR.at he
  have hr : r' = (C0, T, N) := Option.some.inj (h1.symm.trans g1)
  subst hr
  obtain ⟨hSl, hfc, kC, hkC, hkind⟩ := hK.1 ci _ g1
  obtain ⟨cf, kf, fi, f, hi, hsl⟩ := hSl k0 g2
  have hlay := hts _ (hin _ (u_in_lay g2))
  unfold u_lay at hlay
  rw [if_pos g6] at hlay
  have hst := (u_facts hfc hkC (u_lays hts hin g2) hi).1
  have hcf : m.cls = cf := by
    obtain ⟨_, _, c', _, _, _, -, -, hf', -, -, -, hown2, -⟩ := Cond.laysFinal_spec hlay
    have e1 : c' = cf := by have := hi.symm.trans hf'; simp at this; exact this.1.symm
    rw [g7 rfl] at hown2
    rw [← e1]; exact Option.some.inj (hown.symm.trans hown2)
  have h6 := u_fits hfc hkC hkind (Or.inr hlay) hi g5 hn hfit
  refine W.putFinK cx.1 cx.2.1 hown (hts _ g3) (px_same hts g4 _ hi) hst hcf (cx.2.2.2.2.2.2.2.1.trans hnm0) (by rw [q2]; exact h6) q1 q3 (by rw [hsl]; exact k2_hasslot (q4 k0 g2)) rfl rfl d fun H' e1 e2 e3 => ?_
  rw [hsl] at e1
  refine k p l e R s m args below meth c H' _ cells slots lsr Qm cx (hS.put e2 e3 (Nat.le_add_right _ _)) (hR.set he e2 ⟨_, g1, ?_⟩ e3) hl hd hlo hc hk
  refine t_OB.to (V := updV (vp_V (fs.map (px_v G))) k0 (px_v G v)) ⟨_, e1, q2, q3, t_set q4 hap g2 _⟩ (fun j _ => ?_)
  rw [vp_updV_set (by simpa using hl0)]
  congr 1
  simp [List.map_set]
theorem wp_iald {p0 n : Nat} {f : Nat → Int32} {i : Int32} (d : decode M.2.1 pc = .ok (.iaload, 1)) (he : h[p0]? = some (.inl (.int, n, .inl f))) (hi : vp_in i n) (k : px_W G D C S M (pc + 1) ls (.int (f i.toNatClampNeg) :: st) h Q) : px_W G D C S M pc ls (.int i :: .ref p0 :: st) h Q := by
  intro p l e R s m args below meth c H locs cells slots lsr Qm cx hS hR hl hd hlo hc hk
  exact va_iald cx.1 cx.2.1 cx.2.2.2.2.2.2.2.2.1 hR.2 p0 0 (px_ws_get he) rfl hi d (k p l e R s m args below meth c H locs cells slots lsr Qm cx hS hR hl hd hlo hc hk)
theorem wp_cald {p0 n : Nat} {f : Nat → Int32} {i : Int32} (d : decode M.2.1 pc = .ok (.caload, 1)) (he : h[p0]? = some (.inl (.char, n, .inl f))) (hi : vp_in i n) (k : px_W G D C S M (pc + 1) ls (.int (f i.toNatClampNeg) :: st) h Q) : px_W G D C S M pc ls (.int i :: .ref p0 :: st) h Q := by
  intro p l e R s m args below meth c H locs cells slots lsr Qm cx hS hR hl hd hlo hc hk
  exact va_cald cx.1 cx.2.1 cx.2.2.2.2.2.2.2.2.1 hR.2 p0 2 (px_ws_get he) rfl hi d (k p l e R s m args below meth c H locs cells slots lsr Qm cx hS hR hl hd hlo hc hk)
theorem wp_zald {p0 n : Nat} {f : Nat → Int32} {i : Int32} (d : decode M.2.1 pc = .ok (.baload, 1)) (he : h[p0]? = some (.inl (.boolean, n, .inl f))) (hi : vp_in i n) (k : px_W G D C S M (pc + 1) ls (.int (f i.toNatClampNeg) :: st) h Q) : px_W G D C S M pc ls (.int i :: .ref p0 :: st) h Q := by
  intro p l e R s m args below meth c H locs cells slots lsr Qm cx hS hR hl hd hlo hc hk
  exact va_zald cx.1 cx.2.1 cx.2.2.2.2.2.2.2.2.1 hR.2 p0 3 (px_ws_get he) rfl hi d (k p l e R s m args below meth c H locs cells slots lsr Qm cx hS hR hl hd hlo hc hk)
theorem wp_lald {p0 n : Nat} {f : Nat → Int64} {i : Int32} (d : decode M.2.1 pc = .ok (.laload, 1)) (he : h[p0]? = some (.inl (.long, n, .inr (.inl f)))) (hi : vp_in i n) (k : px_W G D C S M (pc + 1) ls (.long (f i.toNatClampNeg) :: st) h Q) : px_W G D C S M pc ls (.int i :: .ref p0 :: st) h Q := by
  intro p l e R s m args below meth c H locs cells slots lsr Qm cx hS hR hl hd hlo hc hk
  exact va_lald cx.1 cx.2.1 cx.2.2.2.2.2.2.2.2.1 hR.2 p0 1 (px_ws_get he) rfl hi d (k p l e R s m args below meth c H locs cells slots lsr Qm cx hS hR hl hd hlo hc hk)
/-- the classes whose rows of references are made: 4 Man, 5 Scaffold, 6 Tape -/
def px_rt (t0 : Nat) (E : String) : Prop := ∀ G : px_G, (px_tys G)[t0]? = some (G.2.2.1 (.object E), .object E)
theorem wp_aald {p0 n t0 : Nat} {E : String} {f : Nat → Option Nat} {i : Int32} (d : decode M.2.1 pc = .ok (.aaload, 1)) (ht : px_rt t0 E) (he : h[p0]? = some (.inl (.object E, n, .inr (.inr (.inr (.inr f)))))) (hi : vp_in i n) (k : px_W G D C S M (pc + 1) ls (va_rf (f i.toNatClampNeg) :: st) h Q) : px_W G D C S M pc ls (.int i :: .ref p0 :: st) h Q := by
  intro p l e R s m args below meth c H locs cells slots lsr Qm cx hS hR hl hd hlo hc hk
  have k1 := (k p l e R s m args below meth c H locs cells slots lsr Qm cx hS hR hl hd hlo hc hk)
  have e : px_v G (va_rf (f i.toNatClampNeg)) = va_rf ((f i.toNatClampNeg).map (fun k => G.1 + k)) := by cases f i.toNatClampNeg <;> rfl
  rw [List.map_cons, e] at k1
  exact va_aldq cx.1 cx.2.1 cx.2.2.2.2.2.2.2.2.1 hR.2 p0 t0 (px_ws_get he) (ht G) hi d k1
theorem wp_alen {p0 t0 : Nat} {ty : FieldType} {x : vp_A} {v : Int32} (d : decode M.2.1 pc = .ok (.arraylength, 1)) (he : h[p0]? = some (.inl (ty, x))) (ht : (px_tys G)[t0]? = some (G.2.2.1 ty, ty)) (hv : Int32.ofNat x.1 = v) (k : px_W G D C S M (pc + 1) ls (.int v :: st) h Q) : px_W G D C S M pc ls (.ref p0 :: st) h Q := by
  intro p l e R s m args below meth c H locs cells slots lsr Qm cx hS hR hl hd hlo hc hk
  exact va_alen cx.1 cx.2.1 cx.2.2.2.2.2.2.2.2.1 hR.2 p0 t0 (px_ws_get he) ht (by rw [← hv]; obtain ⟨n, x⟩ := x; rcases x with x | x | x | x | x <;> rfl) d (k p l e R s m args below meth c H locs cells slots lsr Qm cx hS hR hl hd hlo hc hk)
theorem wp_iast {p0 n : Nat} {f : Nat → Int32} {i : Int32} {x : Int32} (d : decode M.2.1 pc = .ok (.iastore, 1)) (he : h[p0]? = some (.inl (.int, n, .inl f))) (hi : vp_in i n) (hh : h.set p0 (.inl (.int, n, .inl (upd f i.toNatClampNeg x))) = h') (k : px_W G D C S M (pc + 1) ls st h' Q) : px_W G D C S M pc ls (.int x :: .int i :: .ref p0 :: st) h Q := by
  intro p l e R s m args below meth c H locs cells slots lsr Qm cx hS hR hl hd hlo hc hk
  subst hh
  have ha : H[G.1 + p0]? = some (vp_cell (G.2.2.1 .int) (n, .inl f)) := hR.at he
  refine W.iast cx.1 cx.2.1 ha ((cx.2.2.2.2.2.2.2.2.1.2 0 _ rfl).1 n (fun j => .int (f j))) (fun q => by cases q) (by show ¬ (i < 0 ∨ (arrV _ _ _).slots.size ≤ _); rw [arrV_size]; exact hi) rfl rfl d fun H1 e1 z oq => ?_
  refine k p l e R s m args below meth c H1 _ cells slots lsr Qm cx (hS.put z oq (Nat.le_add_right _ _)) (hR.set he z ?_ oq) hl hd hlo hc hk
  show H1[G.1 + p0]? = some (vp_cell _ _)
  rw [e1]
  show some (Cell.setSlot (vp_cell (G.2.2.1 .int) (n, .inl f)) _ _) = some (vp_cell (G.2.2.1 .int) (n, .inl (upd f i.toNatClampNeg x)))
  rw [vp_cell_i, vp_cell_i, arrV_store]
  congr 2
  funext q
  by_cases hq : q = i.toNatClampNeg
  · subst hq
    simp [updV, upd, vp_updL, vp_nar]
    try rfl
  · simp [updV, upd, vp_updL, hq]
theorem wp_zast {p0 n : Nat} {f : Nat → Int32} {i : Int32} {x : Int32} (d : decode M.2.1 pc = .ok (.bastore, 1)) (he : h[p0]? = some (.inl (.boolean, n, .inl f))) (hi : vp_in i n) (hh : h.set p0 (.inl (.boolean, n, .inl (upd f i.toNatClampNeg (vp_nar .boolean x)))) = h') (k : px_W G D C S M (pc + 1) ls st h' Q) : px_W G D C S M pc ls (.int x :: .int i :: .ref p0 :: st) h Q := by
  intro p l e R s m args below meth c H locs cells slots lsr Qm cx hS hR hl hd hlo hc hk
  subst hh
  have ha : H[G.1 + p0]? = some (vp_cell (G.2.2.1 .boolean) (n, .inl f)) := hR.at he
  refine W.zast cx.1 cx.2.1 ha ((cx.2.2.2.2.2.2.2.2.1.2 3 _ rfl).1 n (fun j => .int (f j))) (fun q => by cases q) (by show ¬ (i < 0 ∨ (arrV _ _ _).slots.size ≤ _); rw [arrV_size]; exact hi) rfl rfl d fun H1 e1 z oq => ?_
  refine k p l e R s m args below meth c H1 _ cells slots lsr Qm cx (hS.put z oq (Nat.le_add_right _ _)) (hR.set he z ?_ oq) hl hd hlo hc hk
  show H1[G.1 + p0]? = some (vp_cell _ _)
  rw [e1]
  show some (Cell.setSlot (vp_cell (G.2.2.1 .boolean) (n, .inl f)) _ _) = some (vp_cell (G.2.2.1 .boolean) (n, .inl (upd f i.toNatClampNeg (vp_nar .boolean x))))
  rw [vp_cell_i, vp_cell_i, arrV_store]
  congr 2
  funext q
  by_cases hq : q = i.toNatClampNeg
  · subst hq
    simp [updV, upd, vp_updL, vp_nar]
    try rfl
  · simp [updV, upd, vp_updL, hq]
theorem wp_cast {p0 n : Nat} {f : Nat → Int32} {i : Int32} {x : Int32} (d : decode M.2.1 pc = .ok (.castore, 1)) (he : h[p0]? = some (.inl (.char, n, .inl f))) (hi : vp_in i n) (hh : h.set p0 (.inl (.char, n, .inl (upd f i.toNatClampNeg (vp_nar .char x)))) = h') (k : px_W G D C S M (pc + 1) ls st h' Q) : px_W G D C S M pc ls (.int x :: .int i :: .ref p0 :: st) h Q := by
  intro p l e R s m args below meth c H locs cells slots lsr Qm cx hS hR hl hd hlo hc hk
  subst hh
  have ha : H[G.1 + p0]? = some (vp_cell (G.2.2.1 .char) (n, .inl f)) := hR.at he
  refine W.cast cx.1 cx.2.1 ha ((cx.2.2.2.2.2.2.2.2.1.2 2 _ rfl).1 n (fun j => .int (f j))) (fun q => by cases q) (by show ¬ (i < 0 ∨ (arrV _ _ _).slots.size ≤ _); rw [arrV_size]; exact hi) rfl rfl d fun H1 e1 z oq => ?_
  refine k p l e R s m args below meth c H1 _ cells slots lsr Qm cx (hS.put z oq (Nat.le_add_right _ _)) (hR.set he z ?_ oq) hl hd hlo hc hk
  show H1[G.1 + p0]? = some (vp_cell _ _)
  rw [e1]
  show some (Cell.setSlot (vp_cell (G.2.2.1 .char) (n, .inl f)) _ _) = some (vp_cell (G.2.2.1 .char) (n, .inl (upd f i.toNatClampNeg (vp_nar .char x))))
  rw [vp_cell_i, vp_cell_i, arrV_store]
  congr 2
  funext q
  by_cases hq : q = i.toNatClampNeg
  · subst hq
    simp [updV, upd, vp_updL, vp_nar]
    try rfl
  · simp [updV, upd, vp_updL, hq]
theorem wp_last {p0 n : Nat} {f : Nat → Int64} {i : Int32} {x : Int64} (d : decode M.2.1 pc = .ok (.lastore, 1)) (he : h[p0]? = some (.inl (.long, n, .inr (.inl f)))) (hi : vp_in i n) (hh : h.set p0 (.inl (.long, n, .inr (.inl (vp_updL f i.toNatClampNeg x)))) = h') (k : px_W G D C S M (pc + 1) ls st h' Q) : px_W G D C S M pc ls (.long x :: .int i :: .ref p0 :: st) h Q := by
  intro p l e R s m args below meth c H locs cells slots lsr Qm cx hS hR hl hd hlo hc hk
  subst hh
  have ha : H[G.1 + p0]? = some (vp_cell (G.2.2.1 .long) (n, .inr (.inl f))) := hR.at he
  refine W.last cx.1 cx.2.1 ha ((cx.2.2.2.2.2.2.2.2.1.2 1 _ rfl).1 n (fun j => .long (f j))) (fun q => by cases q) (by show ¬ (i < 0 ∨ (arrV _ _ _).slots.size ≤ _); rw [arrV_size]; exact hi) rfl rfl d fun H1 e1 z oq => ?_
  refine k p l e R s m args below meth c H1 _ cells slots lsr Qm cx (hS.put z oq (Nat.le_add_right _ _)) (hR.set he z ?_ oq) hl hd hlo hc hk
  show H1[G.1 + p0]? = some (vp_cell _ _)
  rw [e1]
  show some (Cell.setSlot (vp_cell (G.2.2.1 .long) (n, .inr (.inl f))) _ _) = some (vp_cell (G.2.2.1 .long) (n, .inr (.inl (vp_updL f i.toNatClampNeg x))))
  rw [vp_cell_l, vp_cell_l, arrV_store]
  congr 2
  funext q
  by_cases hq : q = i.toNatClampNeg
  · subst hq
    simp [updV, upd, vp_updL, vp_nar]
    try rfl
  · simp [updV, upd, vp_updL, hq]
/-- an object of class ci may stand in a row of E -/
def px_sub (ci : Nat) (E : String) : Prop := ∃ r : vw_C, px_cls[ci]? = some r ∧ (r.1 = E ∨ Cond.castable r.1 E ∈ px_tb)
theorem px_any {s : State} {args : Array Value} {H : Heap} {y ci : Nat} {fs : List Value} {E : String} (hts : ∀ w ∈ px_tb, w.before args s = true) (hK : va_K G.2.1 px_cls (px_tys G) s) (hR : px_R G h H) (he : h[y]? = some (.inr (ci, fs))) (hs : px_sub ci E) : va_Any E s H (G.1 + y) := by
  obtain ⟨r, h1, h2⟩ := hs
  refine va_rAny hK hR.2 (px_ws_get he) h1 fun comp c0 f1 f2 => ?_
  rcases h2 with h2 | h2
  · have q := (hK.1 ci r h1).2
    rw [h2] at q f2
    have e0 := f1.symm.trans f2
    cases e0
    have e1 := q.1.symm.trans f1
    cases e1
    exact va_assign q
  · obtain ⟨c1, t1, g1, g2, g3⟩ := Cond.castable_spec (hts _ h2)
    cases f1.symm.trans g2
    cases f2.symm.trans g1
    exact g3
theorem wp_aast {p0 n t0 y ci : Nat} {fs : List Value} {E : String} {f : Nat → Option Nat} {i : Int32} (d : decode M.2.1 pc = .ok (.aastore, 1)) (ht : px_rt t0 E) (he : h[p0]? = some (.inl (.object E, n, .inr (.inr (.inr (.inr f)))))) (hy : h[y]? = some (.inr (ci, fs))) (hs : px_sub ci E) (hi : vp_in i n) (hh : h.set p0 (.inl (.object E, n, .inr (.inr (.inr (.inr (va_up f i.toNatClampNeg (some y))))))) = h') (k : px_W G D C S M (pc + 1) ls st h' Q) : px_W G D C S M pc ls (.ref y :: .int i :: .ref p0 :: st) h Q := by
  intro p l e R s m args below meth c H locs cells slots lsr Qm cx hS hR hl hd hlo hc hk
  subst hh
  have hts := cx.2.2.2.2.2.2.1
  have hK := cx.2.2.2.2.2.2.2.2.1
  have ha : H[G.1 + p0]? = some (vp_cell (G.2.2.1 (.object E)) (n, .inr (.inr (.inr (.inr (fun j => (f j).map (fun k => G.1 + k))))))) := hR.at he
  have hlt : i.toNatClampNeg < n := Nat.not_le.mp fun q => hi (Or.inr q)
  have h0 : ¬ i < 0 := fun q => hi (Or.inl q)
  obtain ⟨cellV, w1, w3, ⟨kC, hkC⟩, hasg⟩ := px_any hts hK hR hy hs
  obtain ⟨kA, comp, k1, k2, k3, -⟩ := (hK.2 t0 _ (ht G)).2
  obtain ⟨kE, hkE, -⟩ := Vm.findClass_spec k3
  refine W.aast cx.1 cx.2.1 ha (fun q h => by cases h) (fun h => by cases h) k1 k2 rfl hkE ⟨h0, by show _ < (arrV _ _ _).slots.size; rw [arrV_size]; exact hlt⟩ w1 (fun q h => by rw [h] at w3; cases w3) hkC (hasg _ k3) rfl rfl d fun H1 e1 z oq => ?_
  refine k p l e R s m args below meth c H1 _ cells slots lsr Qm cx (hS.put z oq (Nat.le_add_right _ _)) (hR.set he z ?_ oq) hl hd hlo hc hk
  show H1[G.1 + p0]? = some (vp_cell _ _)
  rw [e1]
  show some (Cell.setSlot (vp_cell (G.2.2.1 (.object E)) (n, .inr (.inr (.inr (.inr (fun j => (f j).map (fun k => G.1 + k))))))) _ _) = some (vp_cell (G.2.2.1 (.object E)) (n, .inr (.inr (.inr (.inr (fun j => (va_up f i.toNatClampNeg (some y) j).map (fun k => G.1 + k)))))))
  rw [vp_cell_q, vp_cell_q, arrV_store]
  congr 2
  funext q
  by_cases hq : q = i.toNatClampNeg
  · subst hq
    simp [updV, va_up, va_rf]
  · simp [updV, va_up, hq]
/-! what is made -/
theorem wp_new {idx ci N C' S' : Nat} {fs : List Value} (d : decode M.2.1 pc = .ok (.new idx, 3)) (hcl : ∃ r, px_cls[ci]? = some r ∧ r.2.2 = N ∧ Cond.classLink M.1.cls idx r.1 ∈ px_tb ∧ Cond.instantiable r.1 N ∈ px_tb ∧ Cond.initialized r.1 ∈ px_tb ∧ ∀ j, j < N → ∃ ty, parseFieldDescriptor (r.2.1 j).2.2.1 = some ty ∧ defaultValue ty = vp_V fs j) (hfs : fs.map (px_v G) = fs) (hC : C = C' + 1) (hS0 : S = S' + N) (k : px_W G D C' S' M (pc + 3) ls (.ref h.length :: st) (h ++ [.inr (ci, fs)]) Q) : px_W G D C S M pc ls st h Q := by
  intro p l e R s m args below meth c H locs cells slots lsr Qm cx hS hR hl hd hlo hc hk
  obtain ⟨r, g1, g2, g3, g4, g5, g6⟩ := hcl
  obtain ⟨C0, T, N0⟩ := r
  have g2 : N0 = N := g2
  subst g2
  subst hC
  subst hS0
  have hts := cx.2.2.2.2.2.2.1
  have hK := cx.2.2.2.2.2.2.2.2.1
  have hKn := hK.1 ci _ g1
  obtain ⟨ty0, hty⟩ := (px_cls_tb ci _ g1).2.1
  refine W.newcK cx.1 cx.2.1 cx.2.2.2.2.2.1 (hts _ g3) (hts _ g4) (hts _ g5) rfl d (by omega) (by omega) hKn.2.1 rfl fun H1 kC hkC e1 z1 o1 => ?_
  have k1 := k p l e R s m args below meth c H1 locs (cells + 1) (slots + N0) lsr Qm cx ⟨Nat.le_trans hS.1 (by omega), fun x h1 h2 => (o1 x (Nat.lt_of_lt_of_le h1 hS.1)).trans (hS.2.1 x h1 h2), hS.2.2⟩ (hR.push z1 ?_ o1) hl hd (by omega) (by omega) (fun pc' lsr' H' locs' rv h' a1 a2 a3 a4 => by
    rw [show cells + 1 + C' = cells + (C' + 1) by omega, show slots + N0 + S' = slots + (S' + N0) by omega]
    exact hk pc' lsr' H' locs' rv h' a1 a2 a3 a4)
  · rw [hR.1]
    exact k1
  · rw [hR.1] at e1
    refine ⟨_, g1, (u_born ty0 hts (px_cls_tb ci _ g1).1 hKn hkC e1 hty).to (fun j hj => ?_)⟩
    obtain ⟨ty, t1, t2⟩ := g6 j hj
    rw [show ty0 j = ty from Option.some.inj ((hty j hj).symm.trans t1)]
    show defaultValue ty = vp_V (fs.map (px_v G)) j
    rw [hfs]
    exact t2
theorem wp_newa {at0 : ArrayType} {t0 n0 C' S' : Nat} {ty : FieldType} {n : Int32} {a0 : vp_A} (d : decode M.2.1 pc = .ok (.newarray at0, 2)) (hty : newarray.typeOf at0 = ty) (hw : Cond.arrayClass ty ∈ px_tb) (ht : ∀ G : px_G, (px_tys G)[t0]? = some (G.2.2.1 ty, ty)) (hr : ∀ C : String, ty ≠ .object C) (ha : ∀ (cA : ClassId), vp_cell cA (px_c G a0) = arrV cA n0 (fun _ => defaultValue ty)) (hn : ¬ n < 0) (hN : n.toNatClampNeg = n0) (hb : n0 * componentBytes ty ≤ 536870912) (hC : C = C' + 1) (hS0 : S = S' + n0) (k : px_W G D C' S' M (pc + 2) ls (.ref h.length :: st) (h ++ [.inl (ty, a0)]) Q) : px_W G D C S M pc ls (.int n :: st) h Q := by
  intro p l e R s m args below meth c H locs cells slots lsr Qm cx hS hR hl hd hlo hc hk
  subst hC
  subst hS0
  subst hty
  have hts := cx.2.2.2.2.2.2.1
  have hK := cx.2.2.2.2.2.2.2.2.1
  refine va_newaK cx.1 cx.2.1 (hts _ hw) rfl d rfl hn hN hb (by omega) (by omega) rfl fun H1 cA e1 z1 o1 hA hf => ?_
  have hc0 : G.2.2.1 (newarray.typeOf at0) = cA := by
    have h2 := (hK.2 t0 _ (ht G)).2
    revert h2 hf hr
    generalize newarray.typeOf at0 = ty
    intro hr hf h2
    cases ty with
    | object C0 => exact absurd rfl (hr C0)
    | _ => exact Option.some.inj (h2.symm.trans hf)
  have k1 := k p l e R s m args below meth c H1 locs (cells + 1) (slots + n0) lsr Qm cx ⟨Nat.le_trans hS.1 (by omega), fun x h1 h2 => (o1 x (Nat.lt_of_lt_of_le h1 hS.1)).trans (hS.2.1 x h1 h2), hS.2.2⟩ (hR.push z1 ?_ o1) hl hd (by omega) (by omega) (fun pc' lsr' H' locs' rv h' a1 a2 a3 a4 => by
    rw [show cells + 1 + C' = cells + (C' + 1) by omega, show slots + n0 + S' = slots + (S' + n0) by omega]
    exact hk pc' lsr' H' locs' rv h' a1 a2 a3 a4)
  · rw [hR.1]
    exact k1
  · rw [hR.1] at e1
    show H1[G.1 + h.length]? = some (vp_cell _ _)
    rw [e1, hc0]
    exact congrArg some (ha cA).symm
theorem wp_newq {idx t0 n0 C' S' : Nat} {E : String} {n : Int32} (d : decode M.2.1 pc = .ok (.anewarray idx, 3)) (hcl : Cond.classLink M.1.cls idx E ∈ px_tb) (hov : Cond.arrayOver (.object E) ∈ px_tb) (ht : px_rt t0 E) (hn : ¬ n < 0) (hN : n.toNatClampNeg = n0) (hb : n0 * 4 ≤ 536870912) (hC : C = C' + 1) (hS0 : S = S' + n0) (k : px_W G D C' S' M (pc + 3) ls (.ref h.length :: st) (h ++ [.inl (.object E, n0, .inr (.inr (.inr (.inr (fun _ => none)))))]) Q) : px_W G D C S M pc ls (.int n :: st) h Q := by
  intro p l e R s m args below meth c H locs cells slots lsr Qm cx hS hR hl hd hlo hc hk
  subst hC
  subst hS0
  subst hN
  have hts := cx.2.2.2.2.2.2.1
  have hK := cx.2.2.2.2.2.2.2.2.1
  refine W.anew cx.1 cx.2.1 cx.2.2.2.2.2.1 (hts _ hcl) (hts _ hov) rfl d rfl hn hb (by omega) (by omega) fun cA kA comp f1 f2 f3 f4 => ?_
  have hc0 : G.2.2.1 (.object E) = cA := by
    obtain ⟨kA', comp', q1, q2, q3, q4⟩ := (hK.2 t0 _ (ht G)).2
    exact Option.some.inj (q4.symm.trans f1)
  generalize hH1 : H.push ({ cls := cA, slots := Array.replicate n.toNatClampNeg .null, vm := .none } : Cell) = H1
  have z1 : H1.size = H.size + 1 := by rw [← hH1, Array.size_push]
  have e1 : H1[H.size]? = some (arrV cA n.toNatClampNeg (fun _ => .null)) := by rw [← hH1, Array.getElem?_push_size, ← arrV_new]
  have o1 : ∀ q : Nat, q < H.size → H1[q]? = H[q]? := fun q hq => by rw [← hH1, Array.getElem?_push, if_neg (Nat.ne_of_lt hq)]
  have k1 := k p l e R s m args below meth c H1 locs (cells + 1) (slots + n.toNatClampNeg) lsr Qm cx ⟨Nat.le_trans hS.1 (by omega), fun x h1 h2 => (o1 x (Nat.lt_of_lt_of_le h1 hS.1)).trans (hS.2.1 x h1 h2), hS.2.2⟩ (hR.push z1 ?_ o1) hl hd (by omega) (by omega) (fun pc' lsr' H' locs' rv h' a1 a2 a3 a4 => by
    rw [show cells + 1 + C' = cells + (C' + 1) by omega, show slots + n.toNatClampNeg + S' = slots + (S' + n.toNatClampNeg) by omega]
    exact hk pc' lsr' H' locs' rv h' a1 a2 a3 a4)
  · rw [hR.1]
    exact k1
  · rw [hR.1] at e1
    show H1[G.1 + h.length]? = some (vp_cell _ _)
    rw [e1, hc0]
    rfl
/-! what is only read -/
theorem wp_sld {i : Int32} (d : decode M.2.1 pc = .ok (.iaload, 1)) (hi : vp_in i G.2.2.2.2.1) (k : px_W G D C S M (pc + 1) ls (.int (G.2.2.2.2.2 i.toNatClampNeg) :: st) h Q) : px_W G D C S M pc ls (.int i :: .retAddr 0 :: st) h Q := by
  intro p l e R s m args below meth c H locs cells slots lsr Qm cx hS hR hl hd hlo hc hk
  obtain ⟨⟨b, b1, b2, b3, b4⟩, -⟩ := cx.2.2.2.2.2.2.2.2.2.1
  have k1 := (k p l e R s m args below meth c H locs cells slots lsr Qm cx hS hR hl hd hlo hc hk)
  have e : px_v G (.retAddr 0) = .ref b := by show va_rf (G.2.2.2.1 0) = _; rw [b1]; rfl
  rw [List.map_cons, List.map_cons, e]
  exact va_sld cx.1 cx.2.1 b2 b3 b4 hS hi d k1
theorem wp_slen {v : Int32} (d : decode M.2.1 pc = .ok (.arraylength, 1)) (hv : Int32.ofNat G.2.2.2.2.1 = v) (k : px_W G D C S M (pc + 1) ls (.int v :: st) h Q) : px_W G D C S M pc ls (.retAddr 0 :: st) h Q := by
  intro p l e R s m args below meth c H locs cells slots lsr Qm cx hS hR hl hd hlo hc hk
  subst hv
  obtain ⟨⟨b, b1, b2, b3, b4⟩, -⟩ := cx.2.2.2.2.2.2.2.2.2.1
  have k1 := (k p l e R s m args below meth c H locs cells slots lsr Qm cx hS hR hl hd hlo hc hk)
  have e : px_v G (.retAddr 0) = .ref b := by show va_rf (G.2.2.2.1 0) = _; rw [b1]; rfl
  rw [List.map_cons, e]
  exact va_slen cx.1 cx.2.1 b2 b3 b4 hS d k1
theorem wp_getABOVE {idx : Nat} (d : decode M.2.1 pc = .ok (.getstatic idx, 3)) (w : Cond.fieldLink M.1.cls idx "TubeChain" "ABOVE" "[I" ∈ px_tb) (k : px_W G D C S M (pc + 3) ls (.retAddr 1 :: st) h Q) : px_W G D C S M pc ls st h Q := by
  intro p l e R s m args below meth c H locs cells slots lsr Qm cx hS hR hl hd hlo hc hk
  obtain ⟨-, ⟨a, a1, a2, a3⟩, -⟩ := cx.2.2.2.2.2.2.2.2.2.1
  have k1 := (k p l e R s m args below meth c H locs cells slots lsr Qm cx hS hR hl hd hlo hc hk)
  have e : px_v G (.retAddr 1) = .ref a := by show va_rf (G.2.2.2.1 1) = _; rw [a1]; rfl
  rw [List.map_cons, e] at k1
  exact va_gets cx.1 cx.2.1 a2 hS cx.2.2.2.2.2.1 (cx.2.2.2.2.2.2.1 _ w) (fun x hx => hx) d k1
theorem wp_aboveld {i : Int32} (d : decode M.2.1 pc = .ok (.iaload, 1)) (hi : vp_in i 7) (k : px_W G D C S M (pc + 1) ls (.int (px_above i.toNatClampNeg) :: st) h Q) : px_W G D C S M pc ls (.int i :: .retAddr 1 :: st) h Q := by
  intro p l e R s m args below meth c H locs cells slots lsr Qm cx hS hR hl hd hlo hc hk
  obtain ⟨-, ⟨a, a1, a2, a3⟩, -⟩ := cx.2.2.2.2.2.2.2.2.2.1
  have k1 := (k p l e R s m args below meth c H locs cells slots lsr Qm cx hS hR hl hd hlo hc hk)
  have e : px_v G (.retAddr 1) = .ref a := by show va_rf (G.2.2.2.1 1) = _; rw [a1]; rfl
  rw [List.map_cons, List.map_cons, e]
  exact va_ti cx.1 cx.2.1 a3 hS hi rfl d k1
theorem wp_abovelen (d : decode M.2.1 pc = .ok (.arraylength, 1)) (k : px_W G D C S M (pc + 1) ls (.int 7 :: st) h Q) : px_W G D C S M pc ls (.retAddr 1 :: st) h Q := by
  intro p l e R s m args below meth c H locs cells slots lsr Qm cx hS hR hl hd hlo hc hk
  obtain ⟨-, ⟨a, a1, a2, a3⟩, -⟩ := cx.2.2.2.2.2.2.2.2.2.1
  have k1 := (k p l e R s m args below meth c H locs cells slots lsr Qm cx hS hR hl hd hlo hc hk)
  have e : px_v G (.retAddr 1) = .ref a := by show va_rf (G.2.2.2.1 1) = _; rw [a1]; rfl
  rw [List.map_cons, e]
  exact va_tlen cx.1 cx.2.1 a3 hS rfl d k1
theorem wp_getFMT {idx : Nat} (d : decode M.2.1 pc = .ok (.getstatic idx, 3)) (w : Cond.fieldLink M.1.cls idx "jdk/internal/util/Preconditions" "SIOOBE_FORMATTER" "Ljava/util/function/BiFunction;" ∈ px_tb) (k : px_W G D C S M (pc + 3) ls (.retAddr 2 :: st) h Q) : px_W G D C S M pc ls st h Q := by
  intro p l e R s m args below meth c H locs cells slots lsr Qm cx hS hR hl hd hlo hc hk
  obtain ⟨-, -, a2, -⟩ := cx.2.2.2.2.2.2.2.2.2.1
  exact va_gets cx.1 cx.2.1 a2 hS cx.2.2.2.2.2.1 (cx.2.2.2.2.2.2.1 _ w) (fun x hx => hx) d (k p l e R s m args below meth c H locs cells slots lsr Qm cx hS hR hl hd hlo hc hk)
theorem wp_getCOMPACT {idx : Nat} (d : decode M.2.1 pc = .ok (.getstatic idx, 3)) (w : Cond.fieldLink M.1.cls idx "java/lang/String" "COMPACT_STRINGS" "Z" ∈ px_tb) (k : px_W G D C S M (pc + 3) ls (.int 1 :: st) h Q) : px_W G D C S M pc ls st h Q := by
  intro p l e R s m args below meth c H locs cells slots lsr Qm cx hS hR hl hd hlo hc hk
  obtain ⟨-, -, -, a2, -⟩ := cx.2.2.2.2.2.2.2.2.2.1
  exact va_gets cx.1 cx.2.1 a2 hS cx.2.2.2.2.2.1 (cx.2.2.2.2.2.2.1 _ w) (fun x hx => hx) d (k p l e R s m args below meth c H locs cells slots lsr Qm cx hS hR hl hd hlo hc hk)
theorem wp_ldcS {i : Nat} (hc0 : M.1.cls = "TubeChain$Scaffold") (hi : i < 3) (d : decode M.2.1 pc = .ok (.ldc (px_txi i), 2)) (k : px_W G D C S M (pc + 2) ls (.retAddr (3 + i) :: st) h Q) : px_W G D C S M pc ls st h Q := by
  intro p l e R s m args below meth c H locs cells slots lsr Qm cx hS hR hl hd hlo hc hk
  obtain ⟨-, -, -, -, -, adK, adV, k1, k2, k3⟩ := cx.2.2.2.2.2.2.2.2.2.1
  have k0 := (k p l e R s m args below meth c H locs cells slots lsr Qm cx hS hR hl hd hlo hc hk)
  have e : px_v G (.retAddr (3 + i)) = .ref (adK i) := by show va_rf (G.2.2.2.1 (3 + i)) = _; rw [(k1 i hi).1]; rfl
  rw [List.map_cons, e] at k0
  exact va_ldcS cx.1 cx.2.1 (by rw [← hc0]; exact cx.2.2.2.2.2.1) (k3 i hi) d k0
theorem wp_strcoder {i idx : Nat} (hi : i < 3) (d : decode M.2.1 pc = .ok (.getfield idx, 3)) (w : Cond.fieldLink M.1.cls idx "java/lang/String" "coder" "B" ∈ px_tb) (k : px_W G D C S M (pc + 3) ls (.int 0 :: st) h Q) : px_W G D C S M pc ls (.retAddr (3 + i) :: st) h Q := by
  intro p l e R s m args below meth c H locs cells slots lsr Qm cx hS hR hl hd hlo hc hk
  obtain ⟨-, -, -, -, -, adK, adV, k1, k2, k3⟩ := cx.2.2.2.2.2.2.2.2.2.1
  have k0 := (k p l e R s m args below meth c H locs cells slots lsr Qm cx hS hR hl hd hlo hc hk)
  have e : px_v G (.retAddr (3 + i)) = .ref (adK i) := by show va_rf (G.2.2.2.1 (3 + i)) = _; rw [(k1 i hi).1]; rfl
  rw [List.map_cons, e]
  exact vk_getf cx.1 cx.2.1 (k2.1 i hi).2.1 hS cx.2.2.2.2.2.1 (cx.2.2.2.2.2.2.1 _ w) (fun x hx => hx) d k0
theorem wp_strvalue {i idx : Nat} (hi : i < 3) (d : decode M.2.1 pc = .ok (.getfield idx, 3)) (w : Cond.fieldLink M.1.cls idx "java/lang/String" "value" "[B" ∈ px_tb) (k : px_W G D C S M (pc + 3) ls (.retAddr (6 + i) :: st) h Q) : px_W G D C S M pc ls (.retAddr (3 + i) :: st) h Q := by
  intro p l e R s m args below meth c H locs cells slots lsr Qm cx hS hR hl hd hlo hc hk
  obtain ⟨-, -, -, -, -, adK, adV, k1, k2, k3⟩ := cx.2.2.2.2.2.2.2.2.2.1
  have k0 := (k p l e R s m args below meth c H locs cells slots lsr Qm cx hS hR hl hd hlo hc hk)
  have e : px_v G (.retAddr (3 + i)) = .ref (adK i) := by show va_rf (G.2.2.2.1 (3 + i)) = _; rw [(k1 i hi).1]; rfl
  have e2 : px_v G (.retAddr (6 + i)) = .ref (adV i) := by show va_rf (G.2.2.2.1 (6 + i)) = _; rw [(k1 i hi).2]; rfl
  rw [List.map_cons, e2] at k0
  rw [List.map_cons, e]
  exact vk_getf cx.1 cx.2.1 (k2.1 i hi).2.2.1 hS cx.2.2.2.2.2.1 (cx.2.2.2.2.2.2.1 _ w) (fun x hx => hx) d k0
theorem wp_strlen {i : Nat} {v : Int32} (hi : i < 3) (d : decode M.2.1 pc = .ok (.arraylength, 1)) (hv : Int32.ofNat (px_len.getD i 0) = v) (k : px_W G D C S M (pc + 1) ls (.int v :: st) h Q) : px_W G D C S M pc ls (.retAddr (6 + i) :: st) h Q := by
  intro p l e R s m args below meth c H locs cells slots lsr Qm cx hS hR hl hd hlo hc hk
  obtain ⟨-, -, -, -, -, adK, adV, k1, k2, k3⟩ := cx.2.2.2.2.2.2.2.2.2.1
  have k0 := (k p l e R s m args below meth c H locs cells slots lsr Qm cx hS hR hl hd hlo hc hk)
  have e2 : px_v G (.retAddr (6 + i)) = .ref (adV i) := by show va_rf (G.2.2.2.1 (6 + i)) = _; rw [(k1 i hi).2]; rfl
  rw [List.map_cons, e2]
  exact va_tlen cx.1 cx.2.1 (k2.1 i hi).2.2.2 hS hv d k0
theorem wp_strb {i : Nat} {j : Int32} (hi : i < 3) (d : decode M.2.1 pc = .ok (.baload, 1)) (hj : vp_in j (px_len.getD i 0)) (k : px_W G D C S M (pc + 1) ls (.int ((px_byt.getD i []).getD j.toNatClampNeg 0) :: st) h Q) : px_W G D C S M pc ls (.int j :: .retAddr (6 + i) :: st) h Q := by
  intro p l e R s m args below meth c H locs cells slots lsr Qm cx hS hR hl hd hlo hc hk
  obtain ⟨-, -, -, -, -, adK, adV, k1, k2, k3⟩ := cx.2.2.2.2.2.2.2.2.2.1
  have k0 := (k p l e R s m args below meth c H locs cells slots lsr Qm cx hS hR hl hd hlo hc hk)
  have e2 : px_v G (.retAddr (6 + i)) = .ref (adV i) := by show va_rf (G.2.2.2.1 (6 + i)) = _; rw [(k1 i hi).2]; rfl
  rw [List.map_cons, List.map_cons, e2]
  exact va_tb cx.1 cx.2.1 (k2.1 i hi).2.2.2 hS hj rfl d k0
/-! instanceof -/
theorem px_recv {s : State} {H : Heap} {y ci : Nat} {fs : List Value} {r : vw_C} (hK : va_K G.2.1 px_cls (px_tys G) s) (hR : px_R G h H) (he : h[y]? = some (.inr (ci, fs))) (h1 : px_cls[ci]? = some r) : ∃ cell : Cell, H[G.1 + y]? = some cell ∧ cell.vm.isStatics = false ∧ s.vm.findClass r.1 = some cell.cls := va_recv hK hR.2 h1 (px_ws_get he)
theorem wp_instY {idx y ci : Nat} {fs : List Value} {r : vw_C} (d : decode M.2.1 pc = .ok (.instanceof idx, 3)) (h1 : px_cls[ci]? = some r) (w : Cond.classLink M.1.cls idx r.1 ∈ px_tb) (he : h[y]? = some (.inr (ci, fs))) (k : px_W G D C S M (pc + 3) ls (.int 1 :: st) h Q) : px_W G D C S M pc ls (.ref y :: st) h Q := by
  intro p l e R s m args below meth c H locs cells slots lsr Qm cx hS hR hl hd hlo hc hk
  have hK := cx.2.2.2.2.2.2.2.2.1
  exact va_instS cx.1 cx.2.1 cx.2.2.2.2.2.1 (cx.2.2.2.2.2.2.1 _ w) (hK.1 ci r h1).2 (px_recv hK hR he h1) d (k p l e R s m args below meth c H locs cells slots lsr Qm cx hS hR hl hd hlo hc hk)
theorem wp_instN {idx y ci : Nat} {fs : List Value} {r : vw_C} (d : decode M.2.1 pc = .ok (.instanceof idx, 3)) (h1 : px_cls[ci]? = some r) (hno : r.1 ∈ px_nt) (w : Cond.classLink M.1.cls idx "TubeChain$Told" ∈ px_tb) (he : h[y]? = some (.inr (ci, fs))) (k : px_W G D C S M (pc + 3) ls (.int 0 :: st) h Q) : px_W G D C S M pc ls (.ref y :: st) h Q := by
  intro p l e R s m args below meth c H locs cells slots lsr Qm cx hS hR hl hd hlo hc hk
  have hK := cx.2.2.2.2.2.2.2.2.1
  obtain ⟨-, -, -, -, nt, -⟩ := cx.2.2.2.2.2.2.2.2.2.1
  exact va_instNo cx.1 cx.2.1 cx.2.2.2.2.2.1 (cx.2.2.2.2.2.2.1 _ w) (nt _ hno) (px_recv hK hR he h1) d (k p l e R s m args below meth c H locs cells slots lsr Qm cx hS hR hl hd hlo hc hk)
end PXH
end
section
theorem px_w_nat : Cond.native arraycopyName ∈ px_tb := px_in (List.mem_of_getElem? (i := 402) (by decide +kernel)) rfl
theorem px_w_stat : Cond.static arraycopyName ∈ px_tb := px_in (List.mem_of_getElem? (i := 401) (by decide +kernel)) rfl
theorem px_w_ini : Cond.initialized "java/lang/System" ∈ px_tb := px_in (List.mem_of_getElem? (i := 87) (by decide +kernel)) rfl
theorem px_nfw : nativeFrameWords "java/lang/System" "arraycopy" 5 ≤ 60 := by decide +kernel
theorem px_sum (G : px_G) (st : List Value) : ((st.map (px_v G)).map fun v => v.category).sum = (st.map fun v => v.category).sum := by
  rw [List.map_map]
  congr 1
  exact List.map_congr_left fun v _ => px_cat G v
theorem px_nn (z : Int32) (hz : ¬ z < 0) : z.toInt = (z.toNatClampNeg : Int) := by
  have hz0 : (0 : Int) ≤ z.toInt := by
    have := Int32.not_lt.mp hz
    simpa using Int32.le_iff_toInt_le.mp this
  show z.toInt = ((z.toInt.toNat : Nat) : Int)
  omega
section PXC
variable {G : px_G} {D C S : Nat} {M : px_M} {pc : Nat} {ls : px_L} {st : List Value} {h h' : px_H} {Q : Option Value → px_H → Prop}
theorem wp_copyi {idx p0 p1 n0 n1 : Nat} {f g : Nat → Int32} {sp dp n : Int32} (d : decode M.2.1 pc = .ok (.invokestatic idx, 3)) (w : Cond.methodLink M.1.cls idx arraycopyName ∈ px_tb) (he0 : h[p0]? = some (.inl (.int, n0, .inl f))) (he1 : h[p1]? = some (.inl (.int, n1, .inl g))) (h1 : ¬ sp < 0) (h2 : ¬ dp < 0) (h3 : ¬ n < 0) (h4 : sp.toNatClampNeg + n.toNatClampNeg ≤ n0) (h5 : dp.toNatClampNeg + n.toNatClampNeg ≤ n1) (hD : 1 ≤ D) (hst : (st.map fun v => v.category).sum ≤ 8) (hh : h.set p1 (.inl (.int, n1, .inl (va_cpy f g sp.toNatClampNeg dp.toNatClampNeg n.toNatClampNeg))) = h') (k : px_W G D C S M (pc + 3) ls st h' Q) : px_W G D C S M pc ls (.int n :: .int dp :: .ref p1 :: .int sp :: .ref p0 :: st) h Q := by
  intro p l e R s m args below meth c H locs cells slots lsr Qm cx hS hR hl hd hlo hc hk
  subst hh
  have hts := cx.2.2.2.2.2.2.1
  have hK := cx.2.2.2.2.2.2.2.2.1
  have hnf := px_nfw
  have hst' : ((st.map (px_v G)).map fun v => v.category).sum ≤ 8 := by rw [px_sum]; exact hst
  intro T hT X
  have hc0 : H[G.1 + p0]? = some (vp_cell (G.2.2.1 .int) (n0, .inl f)) := hR.at he0
  have hc1 : H[G.1 + p1]? = some (vp_cell (G.2.2.1 .int) (n1, .inl g)) := hR.at he1
  obtain ⟨-, k0, hk0, cm0, hkk0⟩ := (hK.2 0 _ rfl).1 n0 (fun j => .int (f j))
  obtain ⟨-, k1, hk1, cm1, hkk1⟩ := (hK.2 0 _ rfl).1 n1 (fun j => .int (g j))
  obtain ⟨vm', X', step⟩ := X.arraycopy cx.1 cx.2.2.2.2.2.1 (hts _ w) (hts _ px_w_nat) (hts _ px_w_stat) (hts _ px_w_ini) (src := G.1 + p0) (dst := G.1 + p1) (cs := vp_cell (G.2.2.1 .int) (n0, .inl f)) (cd := vp_cell (G.2.2.1 .int) (n1, .inl g)) (srcPos := sp) (destPos := dp) (n := n) (by rw [hT]; exact hc0) (by rw [hT]; exact hc1)
    (fun _ h => by cases h) (fun _ h => by cases h) (fun h => by cases h) (fun h => by cases h) hk0 hk1 hkk0 hkk1 rfl h1 h2 h3
    (by rw [px_nn sp h1, px_nn n h3]; show ¬ _ > ((arrV (G.2.2.1 .int) n0 (fun j => .int (f j))).slots.size : Int); rw [arrV_size]; omega)
    (by rw [px_nn dp h2, px_nn n h3]; show ¬ _ > ((arrV (G.2.2.1 .int) n1 (fun j => .int (g j))).slots.size : Int); rw [arrV_size]; omega)
    (fun vm₁ _ i hi => by
      have e : (vp_cell (G.2.2.1 .int) (n0, .inl f)).slots.getD (sp.toNatClampNeg + i) .null = .int (f (sp.toNatClampNeg + i)) := by
        show (arrV (G.2.2.1 .int) n0 (fun j => .int (f j))).slots.getD _ _ = _
        rw [Array.getD_eq_getD_getElem?, arrV_read _ _ (by omega)]
        rfl
      refine ⟨?_, ?_⟩
      · rw [e]
        rfl
      · rw [e]
        exact trivial)
    (g := F0 m pc lsr (.int n :: .int dp :: .ref (G.1 + p1) :: .int sp :: .ref (G.1 + p0) :: st.map (px_v G))) rfl (by rw [cx.2.2.1]; exact hl.1) (rest := st.map (px_v G)) rfl (by rw [cx.2.1]; exact d) (by omega) (by show 2 * 0 + _ + _ ≤ _; omega)
  have e1 : copied (vp_cell (G.2.2.1 .int) (n0, .inl f)) (vp_cell (G.2.2.1 .int) (n1, .inl g)) sp dp n = vp_cell (G.2.2.1 .int) (n1, .inl (va_cpy f g sp.toNatClampNeg dp.toNatClampNeg n.toNatClampNeg)) := va_copied (fun z => .int z) (G.2.2.1 .int) (G.2.2.1 .int) f g h4
  rw [e1] at X' step
  have hlt : G.1 + p1 < H.size := (Array.getElem?_eq_some_iff.mp hc1).1
  have hheap : ((T.setVm vm').setCell (G.1 + p1) (vp_cell (G.2.2.1 .int) (n1, .inl (va_cpy f g sp.toNatClampNeg dp.toNatClampNeg n.toNatClampNeg)))).heap = H.setIfInBounds (G.1 + p1) (vp_cell (G.2.2.1 .int) (n1, .inl (va_cpy f g sp.toNatClampNeg dp.toNatClampNeg n.toNatClampNeg))) := by rw [← hT]; rfl
  have oq : ∀ q : Nat, q ≠ G.1 + p1 → (H.setIfInBounds (G.1 + p1) (vp_cell (G.2.2.1 .int) (n1, .inl (va_cpy f g sp.toNatClampNeg dp.toNatClampNeg n.toNatClampNeg))))[q]? = H[q]? := fun q hq => by simp [Array.getElem?_setIfInBounds, Ne.symm hq]
  obtain ⟨t, a1, b1⟩ := k p l e R s m args below meth c (H.setIfInBounds (G.1 + p1) (vp_cell (G.2.2.1 .int) (n1, .inl (va_cpy f g sp.toNatClampNeg dp.toNatClampNeg n.toNatClampNeg)))) _ cells slots lsr Qm cx ⟨by simp; exact hS.1, fun q g1 g2 => by
      rw [oq q (fun e => g2 (by rw [e]; exact Nat.le_add_right _ _))]
      exact hS.2.1 q g1 g2, fun q hq => by
      rcases List.mem_append.mp hq with h | h
      · exact hS.2.2 q h
      · obtain ⟨z, -, hz⟩ := List.mem_map.mp h
        rw [← hz]
        exact Nat.le_add_right _ _⟩ (hR.set he1 (by simp) (show (H.setIfInBounds (G.1 + p1) _)[G.1 + p1]? = some (vp_cell (G.2.2.1 .int) (n1, .inl (va_cpy f g sp.toNatClampNeg dp.toNatClampNeg n.toNatClampNeg))) by simp [Array.getElem?_setIfInBounds, hlt]) oq) hl hd hlo hc hk _ hheap X'
  exact ⟨t, step t a1, b1⟩
theorem wp_copyl {idx p0 p1 n0 n1 : Nat} {f g : Nat → Int64} {sp dp n : Int32} (d : decode M.2.1 pc = .ok (.invokestatic idx, 3)) (w : Cond.methodLink M.1.cls idx arraycopyName ∈ px_tb) (he0 : h[p0]? = some (.inl (.long, n0, .inr (.inl f)))) (he1 : h[p1]? = some (.inl (.long, n1, .inr (.inl g)))) (h1 : ¬ sp < 0) (h2 : ¬ dp < 0) (h3 : ¬ n < 0) (h4 : sp.toNatClampNeg + n.toNatClampNeg ≤ n0) (h5 : dp.toNatClampNeg + n.toNatClampNeg ≤ n1) (hD : 1 ≤ D) (hst : (st.map fun v => v.category).sum ≤ 8) (hh : h.set p1 (.inl (.long, n1, .inr (.inl (va_cpy f g sp.toNatClampNeg dp.toNatClampNeg n.toNatClampNeg)))) = h') (k : px_W G D C S M (pc + 3) ls st h' Q) : px_W G D C S M pc ls (.int n :: .int dp :: .ref p1 :: .int sp :: .ref p0 :: st) h Q := by
  intro p l e R s m args below meth c H locs cells slots lsr Qm cx hS hR hl hd hlo hc hk
  subst hh
  have hts := cx.2.2.2.2.2.2.1
  have hK := cx.2.2.2.2.2.2.2.2.1
  have hnf := px_nfw
  have hst' : ((st.map (px_v G)).map fun v => v.category).sum ≤ 8 := by rw [px_sum]; exact hst
  intro T hT X
  have hc0 : H[G.1 + p0]? = some (vp_cell (G.2.2.1 .long) (n0, .inr (.inl f))) := hR.at he0
  have hc1 : H[G.1 + p1]? = some (vp_cell (G.2.2.1 .long) (n1, .inr (.inl g))) := hR.at he1
  obtain ⟨-, k0, hk0, cm0, hkk0⟩ := (hK.2 1 _ rfl).1 n0 (fun j => .long (f j))
  obtain ⟨-, k1, hk1, cm1, hkk1⟩ := (hK.2 1 _ rfl).1 n1 (fun j => .long (g j))
  obtain ⟨vm', X', step⟩ := X.arraycopy cx.1 cx.2.2.2.2.2.1 (hts _ w) (hts _ px_w_nat) (hts _ px_w_stat) (hts _ px_w_ini) (src := G.1 + p0) (dst := G.1 + p1) (cs := vp_cell (G.2.2.1 .long) (n0, .inr (.inl f))) (cd := vp_cell (G.2.2.1 .long) (n1, .inr (.inl g))) (srcPos := sp) (destPos := dp) (n := n) (by rw [hT]; exact hc0) (by rw [hT]; exact hc1)
    (fun _ h => by cases h) (fun _ h => by cases h) (fun h => by cases h) (fun h => by cases h) hk0 hk1 hkk0 hkk1 rfl h1 h2 h3
    (by rw [px_nn sp h1, px_nn n h3]; show ¬ _ > ((arrV (G.2.2.1 .long) n0 (fun j => .long (f j))).slots.size : Int); rw [arrV_size]; omega)
    (by rw [px_nn dp h2, px_nn n h3]; show ¬ _ > ((arrV (G.2.2.1 .long) n1 (fun j => .long (g j))).slots.size : Int); rw [arrV_size]; omega)
    (fun vm₁ _ i hi => by
      have e : (vp_cell (G.2.2.1 .long) (n0, .inr (.inl f))).slots.getD (sp.toNatClampNeg + i) .null = .long (f (sp.toNatClampNeg + i)) := by
        show (arrV (G.2.2.1 .long) n0 (fun j => .long (f j))).slots.getD _ _ = _
        rw [Array.getD_eq_getD_getElem?, arrV_read _ _ (by omega)]
        rfl
      refine ⟨?_, ?_⟩
      · rw [e]
        rfl
      · rw [e]
        exact trivial)
    (g := F0 m pc lsr (.int n :: .int dp :: .ref (G.1 + p1) :: .int sp :: .ref (G.1 + p0) :: st.map (px_v G))) rfl (by rw [cx.2.2.1]; exact hl.1) (rest := st.map (px_v G)) rfl (by rw [cx.2.1]; exact d) (by omega) (by show 2 * 0 + _ + _ ≤ _; omega)
  have e1 : copied (vp_cell (G.2.2.1 .long) (n0, .inr (.inl f))) (vp_cell (G.2.2.1 .long) (n1, .inr (.inl g))) sp dp n = vp_cell (G.2.2.1 .long) (n1, .inr (.inl (va_cpy f g sp.toNatClampNeg dp.toNatClampNeg n.toNatClampNeg))) := va_copied (fun z => .long z) (G.2.2.1 .long) (G.2.2.1 .long) f g h4
  rw [e1] at X' step
  have hlt : G.1 + p1 < H.size := (Array.getElem?_eq_some_iff.mp hc1).1
  have hheap : ((T.setVm vm').setCell (G.1 + p1) (vp_cell (G.2.2.1 .long) (n1, .inr (.inl (va_cpy f g sp.toNatClampNeg dp.toNatClampNeg n.toNatClampNeg))))).heap = H.setIfInBounds (G.1 + p1) (vp_cell (G.2.2.1 .long) (n1, .inr (.inl (va_cpy f g sp.toNatClampNeg dp.toNatClampNeg n.toNatClampNeg)))) := by rw [← hT]; rfl
  have oq : ∀ q : Nat, q ≠ G.1 + p1 → (H.setIfInBounds (G.1 + p1) (vp_cell (G.2.2.1 .long) (n1, .inr (.inl (va_cpy f g sp.toNatClampNeg dp.toNatClampNeg n.toNatClampNeg)))))[q]? = H[q]? := fun q hq => by simp [Array.getElem?_setIfInBounds, Ne.symm hq]
  obtain ⟨t, a1, b1⟩ := k p l e R s m args below meth c (H.setIfInBounds (G.1 + p1) (vp_cell (G.2.2.1 .long) (n1, .inr (.inl (va_cpy f g sp.toNatClampNeg dp.toNatClampNeg n.toNatClampNeg))))) _ cells slots lsr Qm cx ⟨by simp; exact hS.1, fun q g1 g2 => by
      rw [oq q (fun e => g2 (by rw [e]; exact Nat.le_add_right _ _))]
      exact hS.2.1 q g1 g2, fun q hq => by
      rcases List.mem_append.mp hq with h | h
      · exact hS.2.2 q h
      · obtain ⟨z, -, hz⟩ := List.mem_map.mp h
        rw [← hz]
        exact Nat.le_add_right _ _⟩ (hR.set he1 (by simp) (show (H.setIfInBounds (G.1 + p1) _)[G.1 + p1]? = some (vp_cell (G.2.2.1 .long) (n1, .inr (.inl (va_cpy f g sp.toNatClampNeg dp.toNatClampNeg n.toNatClampNeg)))) by simp [Array.getElem?_setIfInBounds, hlt]) oq) hl hd hlo hc hk _ hheap X'
  exact ⟨t, step t a1, b1⟩
theorem wp_copyq {idx p0 p1 n0 n1 : Nat} {t0 : Nat} {E : String} {f g : Nat → Option Nat} {sp dp n : Int32} (d : decode M.2.1 pc = .ok (.invokestatic idx, 3)) (w : Cond.methodLink M.1.cls idx arraycopyName ∈ px_tb) (he0 : h[p0]? = some (.inl ((.object E), n0, .inr (.inr (.inr (.inr f)))))) (he1 : h[p1]? = some (.inl ((.object E), n1, .inr (.inr (.inr (.inr g)))))) (h1 : ¬ sp < 0) (h2 : ¬ dp < 0) (h3 : ¬ n < 0) (h4 : sp.toNatClampNeg + n.toNatClampNeg ≤ n0) (h5 : dp.toNatClampNeg + n.toNatClampNeg ≤ n1) (ht : px_rt t0 E) (hel : ∀ i : Nat, i < n.toNatClampNeg → ∀ y : Nat, f (sp.toNatClampNeg + i) = some y → ∃ ci fs, h[y]? = some (.inr (ci, fs)) ∧ px_sub ci E) (hD : 1 ≤ D) (hst : (st.map fun v => v.category).sum ≤ 8) (hh : h.set p1 (.inl ((.object E), n1, .inr (.inr (.inr (.inr (va_cpy f g sp.toNatClampNeg dp.toNatClampNeg n.toNatClampNeg)))))) = h') (k : px_W G D C S M (pc + 3) ls st h' Q) : px_W G D C S M pc ls (.int n :: .int dp :: .ref p1 :: .int sp :: .ref p0 :: st) h Q := by
  intro p l e R s m args below meth c H locs cells slots lsr Qm cx hS hR hl hd hlo hc hk
  subst hh
  have hts := cx.2.2.2.2.2.2.1
  have hK := cx.2.2.2.2.2.2.2.2.1
  have hnf := px_nfw
  have hst' : ((st.map (px_v G)).map fun v => v.category).sum ≤ 8 := by rw [px_sum]; exact hst
  have hcp : (fun j => ((va_cpy f g sp.toNatClampNeg dp.toNatClampNeg n.toNatClampNeg) j).map (fun k => G.1 + k)) = (va_cpy (fun j => (f j).map (fun k => G.1 + k)) (fun j => (g j).map (fun k => G.1 + k)) sp.toNatClampNeg dp.toNatClampNeg n.toNatClampNeg) := by
    funext j
    simp only [va_cpy]
    split <;> rfl
  intro T hT X
  have hc0 : H[G.1 + p0]? = some (vp_cell (G.2.2.1 (.object E)) (n0, .inr (.inr (.inr (.inr (fun j => (f j).map (fun k => G.1 + k))))))) := hR.at he0
  have hc1 : H[G.1 + p1]? = some (vp_cell (G.2.2.1 (.object E)) (n1, .inr (.inr (.inr (.inr (fun j => (g j).map (fun k => G.1 + k))))))) := hR.at he1
  obtain ⟨-, k0, hk0, cm0, hkk0⟩ := (hK.2 t0 _ (ht G)).1 n0 (fun j => va_rf ((fun j => (f j).map (fun k => G.1 + k)) j))
  obtain ⟨-, k1, hk1, cm1, hkk1⟩ := (hK.2 t0 _ (ht G)).1 n1 (fun j => va_rf ((fun j => (g j).map (fun k => G.1 + k)) j))
  obtain ⟨vm', X', step⟩ := X.arraycopy cx.1 cx.2.2.2.2.2.1 (hts _ w) (hts _ px_w_nat) (hts _ px_w_stat) (hts _ px_w_ini) (src := G.1 + p0) (dst := G.1 + p1) (cs := vp_cell (G.2.2.1 (.object E)) (n0, .inr (.inr (.inr (.inr (fun j => (f j).map (fun k => G.1 + k))))))) (cd := vp_cell (G.2.2.1 (.object E)) (n1, .inr (.inr (.inr (.inr (fun j => (g j).map (fun k => G.1 + k))))))) (srcPos := sp) (destPos := dp) (n := n) (by rw [hT]; exact hc0) (by rw [hT]; exact hc1)
    (fun _ h => by cases h) (fun _ h => by cases h) (fun h => by cases h) (fun h => by cases h) hk0 hk1 hkk0 hkk1 rfl h1 h2 h3
    (by rw [px_nn sp h1, px_nn n h3]; show ¬ _ > ((arrV (G.2.2.1 (.object E)) n0 (fun j => va_rf ((fun j => (f j).map (fun k => G.1 + k)) j))).slots.size : Int); rw [arrV_size]; omega)
    (by rw [px_nn dp h2, px_nn n h3]; show ¬ _ > ((arrV (G.2.2.1 (.object E)) n1 (fun j => va_rf ((fun j => (g j).map (fun k => G.1 + k)) j))).slots.size : Int); rw [arrV_size]; omega)
    (fun vm₁ hal i hi => by
      have e : (vp_cell (G.2.2.1 (.object E)) (n0, .inr (.inr (.inr (.inr (fun j => (f j).map (fun k => G.1 + k))))))).slots.getD (sp.toNatClampNeg + i) .null = va_rf ((f (sp.toNatClampNeg + i)).map (fun k => G.1 + k)) := by
        show (arrV (G.2.2.1 (.object E)) n0 (fun j => va_rf ((fun j => (f j).map (fun k => G.1 + k)) j))).slots.getD _ _ = _
        rw [Array.getD_eq_getD_getElem?, arrV_read _ _ (by omega)]
        rfl
      rw [e]
      cases hy : f (sp.toNatClampNeg + i) with
      | none => exact ⟨rfl, trivial⟩
      | some y =>
        obtain ⟨ci, fs, e1, e2⟩ := hel i hi y hy
        obtain ⟨cellV, g1, g2, ⟨kC, hkC⟩, hasg⟩ := px_any hts hK hR e1 e2
        obtain ⟨kA, comp, r1, r2, r3, -⟩ := (hK.2 t0 _ (ht G)).2
        cases hk1.symm.trans r1
        cases hkk1.symm.trans r2
        obtain ⟨kE, hkE, -⟩ := Vm.findClass_spec r3
        obtain ⟨kC', hkC', -⟩ := hal.2.2 _ _ hkC
        obtain ⟨kE', hkE', -⟩ := hal.2.2 _ _ hkE
        refine ⟨rfl, cellV, (show T.heap[G.1 + y]? = some cellV by rw [hT]; exact g1), (fun q h => by rw [h] at g2; cases g2), ⟨kC', hkC'⟩, ?_, ?_⟩
        · exact ⟨kE', hkE'⟩
        · show vm₁.assignable _ _ = true
          rw [hal.assignable]
          exact hasg _ r3)
    (g := F0 m pc lsr (.int n :: .int dp :: .ref (G.1 + p1) :: .int sp :: .ref (G.1 + p0) :: st.map (px_v G))) rfl (by rw [cx.2.2.1]; exact hl.1) (rest := st.map (px_v G)) rfl (by rw [cx.2.1]; exact d) (by omega) (by show 2 * 0 + _ + _ ≤ _; omega)
  have e1 : copied (vp_cell (G.2.2.1 (.object E)) (n0, .inr (.inr (.inr (.inr (fun j => (f j).map (fun k => G.1 + k))))))) (vp_cell (G.2.2.1 (.object E)) (n1, .inr (.inr (.inr (.inr (fun j => (g j).map (fun k => G.1 + k))))))) sp dp n = vp_cell (G.2.2.1 (.object E)) (n1, .inr (.inr (.inr (.inr (va_cpy (fun j => (f j).map (fun k => G.1 + k)) (fun j => (g j).map (fun k => G.1 + k)) sp.toNatClampNeg dp.toNatClampNeg n.toNatClampNeg))))) := va_copied (fun z => va_rf z) (G.2.2.1 (.object E)) (G.2.2.1 (.object E)) (fun j => (f j).map (fun k => G.1 + k)) (fun j => (g j).map (fun k => G.1 + k)) h4
  rw [e1] at X' step
  have hlt : G.1 + p1 < H.size := (Array.getElem?_eq_some_iff.mp hc1).1
  have hheap : ((T.setVm vm').setCell (G.1 + p1) (vp_cell (G.2.2.1 (.object E)) (n1, .inr (.inr (.inr (.inr (va_cpy (fun j => (f j).map (fun k => G.1 + k)) (fun j => (g j).map (fun k => G.1 + k)) sp.toNatClampNeg dp.toNatClampNeg n.toNatClampNeg))))))).heap = H.setIfInBounds (G.1 + p1) (vp_cell (G.2.2.1 (.object E)) (n1, .inr (.inr (.inr (.inr (va_cpy (fun j => (f j).map (fun k => G.1 + k)) (fun j => (g j).map (fun k => G.1 + k)) sp.toNatClampNeg dp.toNatClampNeg n.toNatClampNeg)))))) := by rw [← hT]; rfl
  have oq : ∀ q : Nat, q ≠ G.1 + p1 → (H.setIfInBounds (G.1 + p1) (vp_cell (G.2.2.1 (.object E)) (n1, .inr (.inr (.inr (.inr (va_cpy (fun j => (f j).map (fun k => G.1 + k)) (fun j => (g j).map (fun k => G.1 + k)) sp.toNatClampNeg dp.toNatClampNeg n.toNatClampNeg)))))))[q]? = H[q]? := fun q hq => by simp [Array.getElem?_setIfInBounds, Ne.symm hq]
  obtain ⟨t, a1, b1⟩ := k p l e R s m args below meth c (H.setIfInBounds (G.1 + p1) (vp_cell (G.2.2.1 (.object E)) (n1, .inr (.inr (.inr (.inr (va_cpy (fun j => (f j).map (fun k => G.1 + k)) (fun j => (g j).map (fun k => G.1 + k)) sp.toNatClampNeg dp.toNatClampNeg n.toNatClampNeg))))))) _ cells slots lsr Qm cx ⟨by simp; exact hS.1, fun q g1 g2 => by
      rw [oq q (fun e => g2 (by rw [e]; exact Nat.le_add_right _ _))]
      exact hS.2.1 q g1 g2, fun q hq => by
      rcases List.mem_append.mp hq with h | h
      · exact hS.2.2 q h
      · obtain ⟨z, -, hz⟩ := List.mem_map.mp h
        rw [← hz]
        exact Nat.le_add_right _ _⟩ (hR.set he1 (by simp) (show (H.setIfInBounds (G.1 + p1) _)[G.1 + p1]? = some (vp_cell (G.2.2.1 (.object E)) (n1, .inr (.inr (.inr (.inr (fun j => ((va_cpy f g sp.toNatClampNeg dp.toNatClampNeg n.toNatClampNeg) j).map (fun k => G.1 + k))))))) by rw [hcp]; simp [Array.getElem?_setIfInBounds, hlt]) oq) hl hd hlo hc hk _ hheap X'
  exact ⟨t, step t a1, b1⟩
end PXC
end
section
/-! calls -/
def px_sl (as : List Value) : px_L := as.flatMap fun v => if v.category = 2 then [some v, none] else [some v]
/-- the locals at a method's entry -/
def px_ent (n : Nat) (as : List Value) : px_L := px_sl as ++ List.replicate (n - (px_sl as).length) none
theorem px_sl_len (G : px_G) (as : List Value) : (lg_sl (as.map (px_v G))).length = (px_sl as).length := by
  induction as with
  | nil => rfl
  | cons v as ih =>
    simp only [lg_sl, px_sl, List.map_cons, List.flatMap_cons, List.length_append, px_cat] at ih ⊢
    rw [ih]
    congr 1
    split <;> rfl
theorem px_sl_in (G : px_G) : ∀ (as : List Value) (j i : Nat) (v : Value), (px_sl as)[i]? = some (some v) → (j + i, px_v G v) ∈ lv_args j (as.map (px_v G))
  | [], _, _, _, h => by simp [px_sl] at h
  | w :: as, j, i, v, h => by
    rw [List.map_cons]
    simp only [lv_args, px_cat]
    simp only [px_sl, List.flatMap_cons] at h
    by_cases hc : w.category = 2
    · rw [if_pos hc] at h ⊢
      match i, h with
      | 0, h =>
        simp at h
        subst h
        exact List.mem_cons_self
      | 1, h => simp at h
      | i + 2, h =>
        have h' : (px_sl as)[i]? = some (some v) := by simpa [px_sl] using h
        have := px_sl_in G as (j + 2) i v h'
        rw [show j + 2 + i = j + (i + 2) by omega] at this
        exact List.mem_cons_of_mem _ this
    · rw [if_neg hc] at h ⊢
      match i, h with
      | 0, h =>
        simp at h
        subst h
        exact List.mem_cons_self
      | i + 1, h =>
        have h' : (px_sl as)[i]? = some (some v) := by simpa [px_sl] using h
        have := px_sl_in G as (j + 1) i v h'
        rw [show j + 1 + i = j + (i + 1) by omega] at this
        exact List.mem_cons_of_mem _ this
theorem px_ent_lr {G : px_G} {n : Nat} {as : List Value} (hn : (px_sl as).length ≤ n) : px_lr G n (px_ent n as) ((lg_sl (as.map (px_v G)) ++ List.replicate (n - (lg_sl (as.map (px_v G))).length) Slot.unset).toArray) := by
  refine px_lr.of (lv_entry (as.map (px_v G)) (n := n) (by rw [px_sl_len]; exact hn)) fun i v hv => ?_
  have hv2 : (px_sl as)[i]? = some (some v) := by
    unfold px_ent at hv
    by_cases hi : i < (px_sl as).length
    · rwa [List.getElem?_append_left hi] at hv
    · rw [List.getElem?_append_right (by omega), List.getElem?_replicate] at hv
      split at hv <;> cases hv
  simpa using px_sl_in G as 0 i v hv2
def px_gd : List Cond := px_tb.filter goodWord
def px_Pc (G : px_G) (h : px_H) (as : List Value) : Array Value → State → Prop := va_Pc (as.map (px_v G)) (fun U => G.1 ≤ U.heap.size ∧ px_R G h U.heap ∧ va_K G.2.1 px_cls (px_tys G) U ∧ px_RO G U U.heap ∧ ∀ w ∈ px_tb, goodWord w = false → w.before #[] U = true)
def px_Qc (G : px_G) (Q : Option Value → px_H → Prop) : Array Value → State → Outcome → State → Prop := fun _ st o t => (∃ (rv : Option Value) (h' : px_H), o = .returned (rv.map (px_v G)) ∧ Q rv h' ∧ px_R G h' t.heap) ∧ va_F (px_A G) st t
theorem px_bad {P : Cond → Prop} (h1 : ∀ C, P (.arrayOver (.object C))) (h2 : ∀ a b, P (.castable a b)) (h3 : ∀ a b c d, P (.methodLinkNest a b c d)) (w : Cond) (hw : px_wd w = true) (hg : goodWord w = false) : P w := by
  unfold px_wd at hw
  rw [hg, Bool.false_or] at hw
  split at hw
  · exact h1 _
  · exact h2 _ _
  · exact h3 _ _ _ _
  · cases hw
theorem px_bad_args {s : State} {args : Array Value} (w : Cond) (hw : px_wd w = true) (hg : goodWord w = false) : w.before #[] s = true → w.before args s = true :=
  px_bad (P := fun w => w.before #[] s = true → w.before args s = true) (fun C h => va_AO.use h) (fun a b h => va_Nw.use rfl h) (fun a b c d h => va_Nw.use rfl h) w hw hg
theorem px_bad_warm {s U : State} {args : Array Value} (hW : s.WarmedH U.vm) (w : Cond) (hw : px_wd w = true) (hg : goodWord w = false) : w.before args s = true → w.before #[] U = true :=
  px_bad (P := fun w => w.before args s = true → w.before #[] U = true) (fun C h => (va_AO.of h).moved hW.alike) (fun a b h => (va_Nw.of rfl h).warmC hW) (fun a b c d h => (va_Nw.of rfl h).warmM hW) w hw hg
theorem px_bad_calling {U : State} {f : JFrame} {mk : MethodId} {a : Array Value} (w : Cond) (hw : px_wd w = true) (hg : goodWord w = false) : w.before #[] U = true → w.before #[] (U.calling f mk a) = true :=
  px_bad (P := fun w => w.before #[] U = true → w.before #[] (U.calling f mk a) = true) (fun C h => (va_AO.of h).moved (Vm.Alike.refl U.vm)) (fun a b h => va_Nw.same rfl rfl h) (fun a b c d h => va_Nw.same rfl rfl h) w hw hg
theorem px_blind {G : px_G} {h : px_H} {as : List Value} : FrameBlind (px_Pc G h as) := fun a U f mk q => by
  obtain ⟨q1, q2, q3, q4, q5, q6⟩ := q
  exact ⟨q1, q2, q3, va_K.moved (u := U) (U := U.calling f mk a) (Vm.Alike.refl U.vm) q4, q5.calling, fun w hw hg => px_bad_calling w (List.mem_filter.mp hw).2 hg (q6 w hw hg)⟩
theorem px_met {G : px_G} {D C S : Nat} {M : px_M} {as : List Value} {h : px_H} {Q : Option Value → px_H → Prop} (l : Launch) (hpn : plainName M.1.cls = true) (hn : (px_sl as).length ≤ M.2.2.1) (hw : px_W G D C S M 0 (px_ent M.2.2.1 as) [] h Q) :
    Met l M.1 (.code M.1 M.2.1 M.2.2.1 M.2.2.2 :: px_gd) ({ frames := D, cells := C, slots := S, locals := 80 * D }) (px_Pc G h as) (px_Qc G Q) C S (px_A G) := by
  refine Met.ofW (cc := M.2.1) (maxL := M.2.2.1) (ret := M.2.2.2) hpn rfl ?_
  intro p e s m args below meth c s₁ B hml hv
  obtain ⟨rfl, hb, hR, hK, hRO, hbad⟩ := hv
  have hts0 := atoms_spec (ws := .code M.1 M.2.1 M.2.2.1 M.2.2.2 :: px_gd) B.pre
  have hts : ∀ w ∈ px_tb, w.before (as.map (px_v G)).toArray s = true := fun w hw => by
    cases hg : goodWord w with
    | true => exact hts0 w (List.mem_cons_of_mem _ (List.mem_filter.mpr ⟨hw, hg⟩))
    | false => exact px_bad_args w (List.mem_filter.mp hw).2 hg (hbad w hw hg)
  rw [lg_entry_eq]
  refine hw p l e _ s m _ below meth c s.heap [] 0 0 _ _ ⟨B.exec, B.bytes, hml, B.returns, B.notSynchronized, findClass_of_methodNamed B.named, hts, (name_of_methodNamed B.named B.method).1, hK, hRO, hb⟩ va_S.rf hR (px_ent_lr hn) ⟨Nat.le_refl _, Nat.le_refl _⟩ (by show 0 + C ≤ C; omega) (by show 0 + S ≤ S; omega) (fun pc' lsr' H' locs' rv h' a1 a2 a3 a4 => ?_)
  rw [Nat.zero_add, Nat.zero_add]
  rcases a2 with ⟨rfl, r, d⟩ | ⟨x, ty, rfl, r, hn, d⟩ | ⟨x, rfl, r, d⟩ | ⟨x, ty, rfl, r, ht, d⟩
  · exact W.vret B.exec B.bytes (B.returns.trans r) (fun t ht hW => ⟨⟨none, h', rfl, a1, by rw [ht]; exact a3⟩, a4.F ht⟩) a4.2.2 d (hlocks := B.notSynchronized)
  · exact W.zret B.exec B.bytes (B.returns.trans r) hn (fun t ht hW => ⟨⟨some (.int x), h', rfl, a1, by rw [ht]; exact a3⟩, a4.F ht⟩) a4.2.2 d (hlocks := B.notSynchronized)
  · exact W.lret B.exec B.bytes (B.returns.trans r) (fun t ht hW => ⟨⟨some (.long x), h', rfl, a1, by rw [ht]; exact a3⟩, a4.F ht⟩) a4.2.2 d (hlocks := B.notSynchronized)
  · exact W.aret B.exec B.bytes (B.returns.trans r) ht (Or.inr ⟨_, rfl⟩) (fun t ht hW => ⟨⟨some (.ref x), h', rfl, a1, by rw [ht]; exact a3⟩, a4.F ht⟩) a4.2.2 d (hlocks := B.notSynchronized)
/-- what a method asks of the tables, whoever calls it -/
def px_ok (M : px_M) (n : Nat) : Prop := plainName M.1.cls = true ∧ Cond.code M.1 M.2.1 M.2.2.1 M.2.2.2 ∈ px_tb ∧ Cond.initialized M.1.cls ∈ px_tb ∧ (M.1.cls ≠ "java/lang/invoke/MethodHandle" ∧ M.1.cls ≠ "java/lang/invoke/VarHandle") ∧ (parseMethodDescriptor M.1.desc).map (fun d => d.parameters.length) = some n ∧ M.2.2.1 ≤ 61
theorem px_pay {M : px_M} {n : Nat} {s : State} {args : Array Value} (hok : px_ok M n) (hts : ∀ w ∈ px_tb, w.before args s = true) : ∀ w ∈ (Cond.code M.1 M.2.1 M.2.2.1 M.2.2.2 :: px_gd), ∀ (a' : Array Value) (U : State), s.WarmedH U.vm → w.before a' U = true := by
  intro w hw a' U hW
  rcases List.mem_cons.mp hw with rfl | hw
  · exact word_at hW (Or.inl rfl) (hts _ hok.2.1)
  · exact word_at hW (good_of_word (List.mem_filter.mp hw).2) (hts _ (List.mem_filter.mp hw).1)
theorem px_num {M : px_M} {n : Nat} (hok : px_ok M n) : ∀ sig, parseMethodDescriptor M.1.desc = some sig → n = sig.parameters.length := fun sig h => by
  have h2 := hok.2.2.2.2.1
  rw [h] at h2
  exact (Option.some.inj h2).symm
section PXR
variable {p : Program} {l : Launch} {e : Env} {R : Room} {s : State} {m : MethodId} {args : Array Value} {below : List Frame} {meth : Method} {c : Code} {H : Heap} {locs : List Loc} {cells slots mc ms : Nat} {Qm : State → Prop}
theorem px_call {G : px_G} {Q : Option Value → px_H → Prop} {pc : Nat} {lsr : Array Slot} {st0 rest : List Value} {av : Array Value} (hr : va_Run p l e R s m args below meth c H locs cells slots mc ms (F0 m pc lsr st0) rest (px_Qc G Q av) (px_A G)) (hS : va_S (px_A G) s.heap H locs)
    (kk : ∀ (rv : Option Value) (h' : px_H) (H1 : Heap) (locs1 : List Loc), Q rv h' → px_R G h' H1 → va_S (px_A G) s.heap H1 locs1 → W p l e R s m args below meth c H1 locs1 (cells + mc) (slots + ms) Qm (F0 m (pc + 3) lsr ((rv.map (px_v G)).toList ++ rest))) : W p l e R s m args below meth c H locs cells slots Qm (F0 m pc lsr st0) := by
  intro T hT X
  obtain ⟨v, st₀, t, T', L, h0, X', hL, e1, e2, ⟨⟨rv, h', hv, hq, hr'⟩, hz, hk⟩, stp⟩ := hr T hT X
  have hv := Outcome.returned.inj hv
  subst hv
  rw [h0] at hz hk
  obtain ⟨t2, a1, b1⟩ := kk rv h' T'.heap (locs ++ L) hq (by rw [e1]; exact hr') ⟨Nat.le_trans hS.1 (by rw [e1]; exact hz), fun q h1 h2 => by rw [e1, hk q (Nat.lt_of_lt_of_le h1 hS.1) h2]; exact hS.2.1 q h1 h2, fun q hq => by
      rcases List.mem_append.mp hq with h | h
      · exact hS.2.2 q h
      · exact hL q h⟩ T' rfl X'
  exact ⟨t2, stp t2 a1, b1⟩
end PXR
section PXCALL
variable {G : px_G} {D D' C C1 C2 S S1 S2 : Nat} {M M' : px_M} {pc idx : Nat} {ls : px_L} {st stk as : List Value} {h : px_H} {Q : Option Value → px_H → Prop}
theorem px_pre {s U : State} {args : Array Value} {H : Heap} {locs : List Loc} {meth : Method} {c : Code} {p : Program} {m : MethodId} {h : px_H} (cx : px_X G M p s m args meth c) (hS : va_S (px_A G) s.heap H locs) (hR : px_R G h H) (hU : U.heap = H) (hW : s.WarmedH U.vm) {as : List Value} : px_Pc G h as (as.map (px_v G)).toArray U :=
  ⟨rfl, by rw [hU]; exact Nat.le_trans cx.2.2.2.2.2.2.2.2.2.2 hS.1, by rw [hU]; exact hR, va_K.moved hW.alike cx.2.2.2.2.2.2.2.2.1, by rw [hU]; exact px_RO.warm cx.2.2.2.2.2.2.2.2.2.1 hW hS, fun w hw hg => px_bad_warm hW w (List.mem_filter.mp hw).2 hg (cx.2.2.2.2.2.2.1 w hw)⟩
theorem wp_callV {ci y : Nat} {fs : List Value} {r : vw_C} (d : decode M.2.1 pc = .ok (.invokevirtual idx, 3)) (hci : px_cls[ci]? = some r) (w1 : Cond.methodLink M.1.cls idx M'.1 ∈ px_tb) (w2 : Cond.instanceMethod M'.1 ∈ px_tb) (w3 : Cond.selects r.1 M'.1 M'.1 ∈ px_tb) (he : h[y]? = some (.inr (ci, fs))) (hok : px_ok M' as.length) (hln : (px_sl (.ref y :: as)).length ≤ M'.2.2.1) (hstk : stk = as.reverse ++ .ref y :: st) (hst : (st.map fun v => v.category).sum ≤ 8) (hD : D' + 1 ≤ D) (hC : C = C1 + C2) (hS0 : S = S1 + S2) (hw : px_W G D' C1 S1 M' 0 (px_ent M'.2.2.1 (.ref y :: as)) [] h (fun rv h1 => px_W G D C2 S2 M (pc + 3) ls (rv.toList ++ st) h1 Q)) : px_W G D C S M pc ls stk h Q := by
  intro p l e R s m args below meth c H locs cells slots lsr Qm cx hS hR hl hd hlo hc hk
  subst hstk
  subst hC
  subst hS0
  have hts := cx.2.2.2.2.2.2.1
  have hst' : ((st.map (px_v G)).map fun v => v.category).sum ≤ 8 := by rw [px_sum]; exact hst
  have hm61 := hok.2.2.2.2.2
  refine px_call (va_runV (As := as.map (px_v G)) (rest := st.map (px_v G)) ⟨cx.1, cx.2.1, cx.2.2.1, cx.2.2.2.2.2.1, hts⟩ (px_met (as := .ref y :: as) l hok.1 hln hw) ⟨⟨rfl, rfl, (by show D' + 1 ≤ R.frames; omega), (by show 8 + (M'.2.2.1 + 11) + 80 * D' ≤ R.locals; omega), px_pay hok hts, List.mem_cons_self, hts _ hok.2.1, hts _ hok.2.2.1, hok.2.2.2.1, px_num hok, hts _ w1⟩, hts _ w2, hts _ w3⟩ ⟨px_blind, px_recv cx.2.2.2.2.2.2.2.2.1 hR he hci, fun U hU hW => px_pre (as := .ref y :: as) cx hS hR hU hW⟩ rfl (by simp) hl.1 (by simp [px_v]) (lv_room hst') d ⟨by omega, by omega⟩) hS fun rv h1 H1 locs1 q1 hR1 hS1 => ?_
  have k1 := q1 p l e R s m args below meth c H1 locs1 (cells + C1) (slots + S1) lsr Qm cx hS1 hR1 hl hd (by omega) (by omega) (fun pc' lsr' H' locs' rv h' a1 a2 a3 a4 => by
    rw [show cells + C1 + C2 = cells + (C1 + C2) by omega, show slots + S1 + S2 = slots + (S1 + S2) by omega]
    exact hk pc' lsr' H' locs' rv h' a1 a2 a3 a4)
  rw [List.map_append] at k1
  cases rv <;> exact k1
theorem wp_callU {ci y : Nat} {fs : List Value} {r : vw_C} {x : MethodName} {owner : String} {b0 : ByteArray} {m0 : Nat} {r0 : Option FieldType} (d : decode M.2.1 pc = .ok (.invokevirtual idx, 3)) (hci : px_cls[ci]? = some r) (hxd : x.desc = M'.1.desc) (w1 : Cond.methodLink M.1.cls idx x ∈ px_tb) (w2 : Cond.sameMethod x.cls owner x.name x.desc ∈ px_tb) (w3 : Cond.selects r.1 x M'.1 ∈ px_tb) (w4 : Cond.instanceMethod M'.1 ∈ px_tb) (w5 : Cond.instanceMethod ⟨owner, x.name, x.desc⟩ ∈ px_tb) (w6 : Cond.code ⟨owner, x.name, x.desc⟩ b0 m0 r0 ∈ px_tb) (hown : owner ≠ "java/lang/invoke/MethodHandle" ∧ owner ≠ "java/lang/invoke/VarHandle") (he : h[y]? = some (.inr (ci, fs))) (hok : px_ok M' as.length) (hln : (px_sl (.ref y :: as)).length ≤ M'.2.2.1) (hstk : stk = as.reverse ++ .ref y :: st) (hst : (st.map fun v => v.category).sum ≤ 8) (hD : D' + 1 ≤ D) (hC : C = C1 + C2) (hS0 : S = S1 + S2) (hw : px_W G D' C1 S1 M' 0 (px_ent M'.2.2.1 (.ref y :: as)) [] h (fun rv h1 => px_W G D C2 S2 M (pc + 3) ls (rv.toList ++ st) h1 Q)) : px_W G D C S M pc ls stk h Q := by
  intro p l e R s m args below meth c H locs cells slots lsr Qm cx hS hR hl hd hlo hc hk
  subst hstk
  subst hC
  subst hS0
  have hts := cx.2.2.2.2.2.2.1
  have hst' : ((st.map (px_v G)).map fun v => v.category).sum ≤ 8 := by rw [px_sum]; exact hst
  have hm61 := hok.2.2.2.2.2
  refine px_call (va_runU (As := as.map (px_v G)) (rest := st.map (px_v G)) ⟨cx.1, cx.2.1, cx.2.2.1, cx.2.2.2.2.2.1, hts⟩ (px_met (as := .ref y :: as) l hok.1 hln hw) (C := r.1) (owner := owner) (x := x) ⟨⟨rfl, rfl, (by show D' + 1 ≤ R.frames; omega), (by show 8 + (M'.2.2.1 + 11) + 80 * D' ≤ R.locals; omega), px_pay hok hts, List.mem_cons_self⟩, hts _ hok.2.1, hts _ hok.2.2.1, hown, (by rw [hxd]; exact px_num hok), hts _ w1, hts _ w2, va_Decl.of (hts _ w5) (hts _ w6), hts _ w3, hts _ w4⟩ ⟨px_blind, px_recv cx.2.2.2.2.2.2.2.2.1 hR he hci, fun U hU hW => px_pre (as := .ref y :: as) cx hS hR hU hW⟩ rfl (by simp) hl.1 (by simp [px_v]) (lv_room hst') d ⟨by omega, by omega⟩) hS fun rv h1 H1 locs1 q1 hR1 hS1 => ?_
  have k1 := q1 p l e R s m args below meth c H1 locs1 (cells + C1) (slots + S1) lsr Qm cx hS1 hR1 hl hd (by omega) (by omega) (fun pc' lsr' H' locs' rv h' a1 a2 a3 a4 => by
    rw [show cells + C1 + C2 = cells + (C1 + C2) by omega, show slots + S1 + S2 = slots + (S1 + S2) by omega]
    exact hk pc' lsr' H' locs' rv h' a1 a2 a3 a4)
  rw [List.map_append] at k1
  cases rv <;> exact k1
theorem wp_callS (d : decode M.2.1 pc = .ok (.invokestatic idx, 3)) (w1 : Cond.methodLink M.1.cls idx M'.1 ∈ px_tb) (w2 : Cond.static M'.1 ∈ px_tb) (hok : px_ok M' as.length) (hln : (px_sl as).length ≤ M'.2.2.1) (hstk : stk = as.reverse ++ st) (hst : (st.map fun v => v.category).sum ≤ 8) (hD : D' + 1 ≤ D) (hC : C = C1 + C2) (hS0 : S = S1 + S2) (hw : px_W G D' C1 S1 M' 0 (px_ent M'.2.2.1 as) [] h (fun rv h1 => px_W G D C2 S2 M (pc + 3) ls (rv.toList ++ st) h1 Q)) : px_W G D C S M pc ls stk h Q := by
  intro p l e R s m args below meth c H locs cells slots lsr Qm cx hS hR hl hd hlo hc hk
  subst hstk
  subst hC
  subst hS0
  have hts := cx.2.2.2.2.2.2.1
  have hst' : ((st.map (px_v G)).map fun v => v.category).sum ≤ 8 := by rw [px_sum]; exact hst
  have hm61 := hok.2.2.2.2.2
  refine px_call (va_runS (As := as.map (px_v G)) (rest := st.map (px_v G)) ⟨cx.1, cx.2.1, cx.2.2.1, cx.2.2.2.2.2.1, hts⟩ (px_met (as := as) l hok.1 hln hw) ⟨⟨rfl, rfl, (by show D' + 1 ≤ R.frames; omega), (by show 8 + (M'.2.2.1 + 11) + 80 * D' ≤ R.locals; omega), px_pay hok hts, List.mem_cons_self, hts _ hok.2.1, hts _ hok.2.2.1, hok.2.2.2.1, px_num hok, hts _ w1⟩, hts _ w2⟩ ⟨px_blind, fun U hU hW => px_pre (as := as) cx hS hR hU hW⟩ rfl (by simp) hl.1 (by simp [px_v]) (lv_room hst') d ⟨by omega, by omega⟩) hS fun rv h1 H1 locs1 q1 hR1 hS1 => ?_
  have k1 := q1 p l e R s m args below meth c H1 locs1 (cells + C1) (slots + S1) lsr Qm cx hS1 hR1 hl hd (by omega) (by omega) (fun pc' lsr' H' locs' rv h' a1 a2 a3 a4 => by
    rw [show cells + C1 + C2 = cells + (C1 + C2) by omega, show slots + S1 + S2 = slots + (S1 + S2) by omega]
    exact hk pc' lsr' H' locs' rv h' a1 a2 a3 a4)
  rw [List.map_append] at k1
  cases rv <;> exact k1
theorem wp_callI {y : Nat} (hret : M'.2.2.2 = none) (d : decode M.2.1 pc = .ok (.invokespecial idx, 3)) (hin : M'.1.name = "<init>") (w1 : Cond.methodLink M.1.cls idx M'.1 ∈ px_tb) (w2 : Cond.instanceMethod M'.1 ∈ px_tb) (hok : px_ok M' as.length) (hln : (px_sl (.ref y :: as)).length ≤ M'.2.2.1) (hstk : stk = as.reverse ++ .ref y :: st) (hst : (st.map fun v => v.category).sum ≤ 8) (hD : D' + 1 ≤ D) (hC : C = C1 + C2) (hS0 : S = S1 + S2) (hw : px_W G D' C1 S1 M' 0 (px_ent M'.2.2.1 (.ref y :: as)) [] h (fun rv h1 => px_W G D C2 S2 M (pc + 3) ls (rv.toList ++ st) h1 Q)) : px_W G D C S M pc ls stk h Q := by
  intro p l e R s m args below meth c H locs cells slots lsr Qm cx hS hR hl hd hlo hc hk
  subst hstk
  subst hC
  subst hS0
  have hts := cx.2.2.2.2.2.2.1
  have hst' : ((st.map (px_v G)).map fun v => v.category).sum ≤ 8 := by rw [px_sum]; exact hst
  have hm61 := hok.2.2.2.2.2
  have hm := px_met (as := .ref y :: as) l hok.1 hln hw
  have h0 := hts _ hok.2.1
  have hpay := px_pay hok hts
  rw [hret] at hm h0 hpay
  refine px_call (va_runI (As := as.map (px_v G)) (rest := st.map (px_v G)) ⟨cx.1, cx.2.1, cx.2.2.1, cx.2.2.2.2.2.1, hts⟩ hm ⟨⟨rfl, rfl, (by show D' + 1 ≤ R.frames; omega), (by show 8 + (M'.2.2.1 + 11) + 80 * D' ≤ R.locals; omega), hpay, List.mem_cons_self, h0, hts _ hok.2.2.1, hok.2.2.2.1, px_num hok, hts _ w1⟩, hin, hts _ w2⟩ ⟨px_blind, fun U hU hW => px_pre (as := .ref y :: as) cx hS hR hU hW⟩ rfl (by simp) hl.1 (by simp [px_v]) (lv_room hst') d ⟨by omega, by omega⟩) hS fun rv h1 H1 locs1 q1 hR1 hS1 => ?_
  have k1 := q1 p l e R s m args below meth c H1 locs1 (cells + C1) (slots + S1) lsr Qm cx hS1 hR1 hl hd (by omega) (by omega) (fun pc' lsr' H' locs' rv h' a1 a2 a3 a4 => by
    rw [show cells + C1 + C2 = cells + (C1 + C2) by omega, show slots + S1 + S2 = slots + (S1 + S2) by omega]
    exact hk pc' lsr' H' locs' rv h' a1 a2 a3 a4)
  rw [List.map_append] at k1
  cases rv <;> exact k1
theorem wp_callIN {y : Nat} (hret : M'.2.2.2 = none) (d : decode M.2.1 pc = .ok (.invokespecial idx, 3)) (hin : M'.1.name = "<init>") {host : String} (w1 : Cond.methodLinkNest M.1.cls idx M'.1 host ∈ px_tb) (w2 : Cond.instanceMethod M'.1 ∈ px_tb) (hok : px_ok M' as.length) (hln : (px_sl (.ref y :: as)).length ≤ M'.2.2.1) (hstk : stk = as.reverse ++ .ref y :: st) (hst : (st.map fun v => v.category).sum ≤ 8) (hD : D' + 1 ≤ D) (hC : C = C1 + C2) (hS0 : S = S1 + S2) (hw : px_W G D' C1 S1 M' 0 (px_ent M'.2.2.1 (.ref y :: as)) [] h (fun rv h1 => px_W G D C2 S2 M (pc + 3) ls (rv.toList ++ st) h1 Q)) : px_W G D C S M pc ls stk h Q := by
  intro p l e R s m args below meth c H locs cells slots lsr Qm cx hS hR hl hd hlo hc hk
  subst hstk
  subst hC
  subst hS0
  have hts := cx.2.2.2.2.2.2.1
  have hst' : ((st.map (px_v G)).map fun v => v.category).sum ≤ 8 := by rw [px_sum]; exact hst
  have hm61 := hok.2.2.2.2.2
  have hm := px_met (as := .ref y :: as) l hok.1 hln hw
  have h0 := hts _ hok.2.1
  have hpay := px_pay hok hts
  rw [hret] at hm h0 hpay
  refine px_call (va_runIN (host := host) (As := as.map (px_v G)) (rest := st.map (px_v G)) ⟨cx.1, cx.2.1, cx.2.2.1, cx.2.2.2.2.2.1, hts⟩ hm ⟨⟨⟨rfl, rfl, (by show D' + 1 ≤ R.frames; omega), (by show 8 + (M'.2.2.1 + 11) + 80 * D' ≤ R.locals; omega), hpay, List.mem_cons_self⟩, h0, hts _ hok.2.2.1, hok.2.2.2.1, px_num hok, hts _ w1⟩, hin, hts _ w2⟩ ⟨px_blind, fun U hU hW => px_pre (as := .ref y :: as) cx hS hR hU hW⟩ rfl (by simp) hl.1 (by simp [px_v]) (lv_room hst') d ⟨by omega, by omega⟩) hS fun rv h1 H1 locs1 q1 hR1 hS1 => ?_
  have k1 := q1 p l e R s m args below meth c H1 locs1 (cells + C1) (slots + S1) lsr Qm cx hS1 hR1 hl hd (by omega) (by omega) (fun pc' lsr' H' locs' rv h' a1 a2 a3 a4 => by
    rw [show cells + C1 + C2 = cells + (C1 + C2) by omega, show slots + S1 + S2 = slots + (S1 + S2) by omega]
    exact hk pc' lsr' H' locs' rv h' a1 a2 a3 a4)
  rw [List.map_append] at k1
  cases rv <;> exact k1
theorem wp_callSU {ci y : Nat} {fs : List Value} {r : vw_C} (d : decode M.2.1 pc = .ok (.invokespecial idx, 3)) (hci : px_cls[ci]? = some r) (w1 : Cond.methodLink M.1.cls idx M'.1 ∈ px_tb) (w2 : Cond.sameMethod M'.1.cls M'.1.cls M'.1.name M'.1.desc ∈ px_tb) (w3 : Cond.superclass M.1.cls M'.1.cls ∈ px_tb) (w4 : Cond.instanceMethod M'.1 ∈ px_tb) (hno : M'.1.name ≠ "<init>") (he : h[y]? = some (.inr (ci, fs))) (hok : px_ok M' as.length) (hln : (px_sl (.ref y :: as)).length ≤ M'.2.2.1) (hstk : stk = as.reverse ++ .ref y :: st) (hst : (st.map fun v => v.category).sum ≤ 8) (hD : D' + 1 ≤ D) (hC : C = C1 + C2) (hS0 : S = S1 + S2) (hw : px_W G D' C1 S1 M' 0 (px_ent M'.2.2.1 (.ref y :: as)) [] h (fun rv h1 => px_W G D C2 S2 M (pc + 3) ls (rv.toList ++ st) h1 Q)) : px_W G D C S M pc ls stk h Q := by
  intro p l e R s m args below meth c H locs cells slots lsr Qm cx hS hR hl hd hlo hc hk
  subst hstk
  subst hC
  subst hS0
  have hts := cx.2.2.2.2.2.2.1
  have hst' : ((st.map (px_v G)).map fun v => v.category).sum ≤ 8 := by rw [px_sum]; exact hst
  have hm61 := hok.2.2.2.2.2
  refine px_call (va_runSU (As := as.map (px_v G)) (rest := st.map (px_v G)) (cx.2.2.2.2.2.2.2.2.1.1 ci r hci).2 ⟨cx.1, cx.2.1, cx.2.2.1, cx.2.2.2.2.2.1, hts⟩ (px_met (as := .ref y :: as) l hok.1 hln hw) ⟨⟨rfl, rfl, (by show D' + 1 ≤ R.frames; omega), (by show 8 + (M'.2.2.1 + 11) + 80 * D' ≤ R.locals; omega), px_pay hok hts, List.mem_cons_self⟩, hts _ w1, hts _ w2, hts _ w3, hts _ w4, hts _ hok.2.2.1, hts _ hok.2.1, hno, px_num hok⟩ ⟨px_blind, px_recv cx.2.2.2.2.2.2.2.2.1 hR he hci, fun U hU hW => px_pre (as := .ref y :: as) cx hS hR hU hW⟩ rfl (by simp) hl.1 (by simp [px_v]) (lv_room hst') d ⟨by omega, by omega⟩) hS fun rv h1 H1 locs1 q1 hR1 hS1 => ?_
  have k1 := q1 p l e R s m args below meth c H1 locs1 (cells + C1) (slots + S1) lsr Qm cx hS1 hR1 hl hd (by omega) (by omega) (fun pc' lsr' H' locs' rv h' a1 a2 a3 a4 => by
    rw [show cells + C1 + C2 = cells + (C1 + C2) by omega, show slots + S1 + S2 = slots + (S1 + S2) by omega]
    exact hk pc' lsr' H' locs' rv h' a1 a2 a3 a4)
  rw [List.map_append] at k1
  cases rv <;> exact k1
theorem wp_callSTR {i : Nat} (hi : i < 3) (d : decode M.2.1 pc = .ok (.invokevirtual idx, 3)) (w1 : Cond.methodLink M.1.cls idx M'.1 ∈ px_tb) (w2 : Cond.instanceMethod M'.1 ∈ px_tb) (w3 : Cond.selects "java/lang/String" M'.1 M'.1 ∈ px_tb) (hok : px_ok M' as.length) (hln : (px_sl (.retAddr (3 + i) :: as)).length ≤ M'.2.2.1) (hstk : stk = as.reverse ++ .retAddr (3 + i) :: st) (hst : (st.map fun v => v.category).sum ≤ 8) (hD : D' + 1 ≤ D) (hC : C = C1 + C2) (hS0 : S = S1 + S2) (hw : px_W G D' C1 S1 M' 0 (px_ent M'.2.2.1 (.retAddr (3 + i) :: as)) [] h (fun rv h1 => px_W G D C2 S2 M (pc + 3) ls (rv.toList ++ st) h1 Q)) : px_W G D C S M pc ls stk h Q := by
  intro p l e R s m args below meth c H locs cells slots lsr Qm cx hS hR hl hd hlo hc hk
  subst hstk
  subst hC
  subst hS0
  have hts := cx.2.2.2.2.2.2.1
  have hst' : ((st.map (px_v G)).map fun v => v.category).sum ≤ 8 := by rw [px_sum]; exact hst
  have hm61 := hok.2.2.2.2.2
  obtain ⟨-, -, -, -, -, adK, adV, z1, z2, z3⟩ := cx.2.2.2.2.2.2.2.2.2.1
  have ev : px_v G (.retAddr (3 + i)) = .ref (adK i) := by show va_rf (G.2.2.2.1 (3 + i)) = _; rw [(z1 i hi).1]; rfl
  have hm := px_met (as := .retAddr (3 + i) :: as) l hok.1 hln hw
  refine px_call (va_runV (As := as.map (px_v G)) (rest := st.map (px_v G)) (b := adK i) ⟨cx.1, cx.2.1, cx.2.2.1, cx.2.2.2.2.2.1, hts⟩ hm ⟨⟨rfl, rfl, (by show D' + 1 ≤ R.frames; omega), (by show 8 + (M'.2.2.1 + 11) + 80 * D' ≤ R.locals; omega), px_pay hok hts, List.mem_cons_self, hts _ hok.2.1, hts _ hok.2.2.1, hok.2.2.2.1, px_num hok, hts _ w1⟩, hts _ w2, hts _ w3⟩ ⟨px_blind, vk_recv z2 hi hS, fun U hU hW => by
    have q := px_pre (as := .retAddr (3 + i) :: as) cx hS hR hU hW
    rw [List.map_cons, ev] at q
    exact q⟩ rfl (by simp) hl.1 (by simp [ev]) (lv_room hst') d ⟨by omega, by omega⟩) hS fun rv h1 H1 locs1 q1 hR1 hS1 => ?_
  have k1 := q1 p l e R s m args below meth c H1 locs1 (cells + C1) (slots + S1) lsr Qm cx hS1 hR1 hl hd (by omega) (by omega) (fun pc' lsr' H' locs' rv h' a1 a2 a3 a4 => by
    rw [show cells + C1 + C2 = cells + (C1 + C2) by omega, show slots + S1 + S2 = slots + (S1 + S2) by omega]
    exact hk pc' lsr' H' locs' rv h' a1 a2 a3 a4)
  rw [List.map_append] at k1
  cases rv <;> exact k1
/-- java.lang.Object's <init> -/
theorem px_objI : Cond.instanceMethod Lib.objectInit ∈ px_tb ∧ Cond.code Lib.objectInit ⟨#[0xb1]⟩ 1 none ∈ px_tb := ⟨px_in (by decide +kernel) rfl, px_in (by decide +kernel) rfl⟩
theorem wp_objInit {y : Nat} (d : decode M.2.1 pc = .ok (.invokespecial idx, 3)) (w1 : Cond.methodLink M.1.cls idx Lib.objectInit ∈ px_tb) (hst : (st.map fun v => v.category).sum ≤ 8) (hD : 1 ≤ D) (k : px_W G D C S M (pc + 3) ls st h Q) : px_W G D C S M pc ls (.ref y :: st) h Q := by
  intro p l e R s m args below meth c H locs cells slots lsr Qm cx hS hR hl hd hlo hc hk
  have hts := cx.2.2.2.2.2.2.1
  have hst' : ((st.map (px_v G)).map fun v => v.category).sum ≤ 8 := by rw [px_sum]; exact hst
  exact W.objInit cx.1 cx.2.1 cx.2.2.2.2.2.1 (hts _ w1) (hts _ px_objI.1) (hts _ px_objI.2) (g := F0 m pc lsr (.ref (G.1 + y) :: st.map (px_v G))) rfl (hl.1.trans cx.2.2.1.symm) rfl d (by omega) (by show 2 * 0 + _ + 12 ≤ _; omega) (k p l e R s m args below meth c H locs cells slots lsr Qm cx hS hR hl hd hlo hc hk)
end PXCALL
end
