theorem px_t1 {w : Cond} (hw : w ∈ tables_1_1) : w ∈ lw_tbl := List.mem_append_right _ (by show w ∈ tables_1; unfold tables_1; exact List.mem_append_left _ (hw))
theorem px_t2 {w : Cond} (hw : w ∈ tables_1_2) : w ∈ lw_tbl := List.mem_append_right _ (by show w ∈ tables_1; unfold tables_1; exact List.mem_append_right _ (List.mem_append_left _ (hw)))
theorem px_t3 {w : Cond} (hw : w ∈ tables_1_3) : w ∈ lw_tbl := List.mem_append_right _ (by show w ∈ tables_1; unfold tables_1; exact List.mem_append_right _ (List.mem_append_right _ (List.mem_append_left _ (hw))))
theorem px_t4 {w : Cond} (hw : w ∈ tables_1_4) : w ∈ lw_tbl := List.mem_append_right _ (by show w ∈ tables_1; unfold tables_1; exact List.mem_append_right _ (List.mem_append_right _ (List.mem_append_right _ (List.mem_append_left _ (hw)))))
theorem px_t5 {w : Cond} (hw : w ∈ tables_1_5) : w ∈ lw_tbl := List.mem_append_right _ (by show w ∈ tables_1; unfold tables_1; exact List.mem_append_right _ (List.mem_append_right _ (List.mem_append_right _ (List.mem_append_right _ (List.mem_append_left _ (hw))))))
theorem px_t6 {w : Cond} (hw : w ∈ tables_1_6) : w ∈ lw_tbl := List.mem_append_right _ (by show w ∈ tables_1; unfold tables_1; exact List.mem_append_right _ (List.mem_append_right _ (List.mem_append_right _ (List.mem_append_right _ (List.mem_append_right _ (List.mem_append_left _ (hw)))))))
theorem px_t7 {w : Cond} (hw : w ∈ tables_1_7) : w ∈ lw_tbl := List.mem_append_right _ (by show w ∈ tables_1; unfold tables_1; exact List.mem_append_right _ (List.mem_append_right _ (List.mem_append_right _ (List.mem_append_right _ (List.mem_append_right _ (List.mem_append_right _ (hw)))))))
theorem w_0 : Cond.selects "TubeChain" ⟨"TubeChain", "isNoMan", "(I)Z"⟩ ⟨"TubeChain", "isNoMan", "(I)Z"⟩ ∈ px_tb := px_in (List.mem_of_getElem? (i := 0) rfl) rfl
theorem w_1 : Cond.selects "TubeChain$Scaffold" ⟨"TubeChain$Scaffold", "reckonPace", "(LTubeChain$Man;II)I"⟩ ⟨"TubeChain$Scaffold", "reckonPace", "(LTubeChain$Man;II)I"⟩ ∈ px_tb := px_in (List.mem_of_getElem? (i := 1) rfl) rfl
theorem w_2 : Cond.selects "TubeChain$Scaffold" ⟨"TubeChain$Scaffold", "test", "(I)I"⟩ ⟨"TubeChain$Scaffold", "test", "(I)I"⟩ ∈ px_tb := px_in (List.mem_of_getElem? (i := 2) rfl) rfl
theorem w_3 : Cond.selects "TubeChain$Scaffold" ⟨"TubeChain$Scaffold", "readClause", "()Z"⟩ ⟨"TubeChain$Scaffold", "readClause", "()Z"⟩ ∈ px_tb := px_in (List.mem_of_getElem? (i := 3) rfl) rfl
theorem w_4 : Cond.selects "TubeChain$Scaffold" ⟨"TubeChain$Scaffold", "readWord", "()I"⟩ ⟨"TubeChain$Scaffold", "readWord", "()I"⟩ ∈ px_tb := px_in (List.mem_of_getElem? (i := 4) rfl) rfl
theorem w_5 : Cond.selects "TubeChain$Scaffold" ⟨"TubeChain$Scaffold", "passes", "(C)Z"⟩ ⟨"TubeChain$Scaffold", "passes", "(C)Z"⟩ ∈ px_tb := px_in (List.mem_of_getElem? (i := 5) rfl) rfl
theorem w_6 : Cond.selects "TubeChain$Scaffold" ⟨"TubeChain$Scaffold", "readNumber", "()I"⟩ ⟨"TubeChain$Scaffold", "readNumber", "()I"⟩ ∈ px_tb := px_in (List.mem_of_getElem? (i := 6) rfl) rfl
theorem w_7 : Cond.selects "TubeChain$Scaffold" ⟨"TubeChain$Scaffold", "readEither", "(I)Z"⟩ ⟨"TubeChain$Scaffold", "readEither", "(I)Z"⟩ ∈ px_tb := px_in (List.mem_of_getElem? (i := 7) rfl) rfl
theorem w_8 : Cond.selects "TubeChain$Scaffold" ⟨"TubeChain$Scaffold", "readBoth", "(I)Z"⟩ ⟨"TubeChain$Scaffold", "readBoth", "(I)Z"⟩ ∈ px_tb := px_in (List.mem_of_getElem? (i := 8) rfl) rfl
theorem w_9 : Cond.selects "TubeChain$Scaffold" ⟨"TubeChain$Scaffold", "readOne", "(I)Z"⟩ ⟨"TubeChain$Scaffold", "readOne", "(I)Z"⟩ ∈ px_tb := px_in (List.mem_of_getElem? (i := 9) rfl) rfl
theorem w_10 : Cond.selects "TubeChain$Scaffold" ⟨"TubeChain$Scaffold", "readTest", "()Z"⟩ ⟨"TubeChain$Scaffold", "readTest", "()Z"⟩ ∈ px_tb := px_in (List.mem_of_getElem? (i := 10) rfl) rfl
theorem w_11 : Cond.selects "TubeChain$Scaffold" ⟨"TubeChain$Scaffold", "emit", "(I)Z"⟩ ⟨"TubeChain$Scaffold", "emit", "(I)Z"⟩ ∈ px_tb := px_in (List.mem_of_getElem? (i := 11) rfl) rfl
theorem w_12 : Cond.selects "TubeChain$Trial" ⟨"TubeChain$Trial", "blame", "(I)V"⟩ ⟨"TubeChain$Trial", "blame", "(I)V"⟩ ∈ px_tb := px_in (List.mem_of_getElem? (i := 12) rfl) rfl
theorem w_13 : Cond.selects "TubeChain" ⟨"TubeChain", "pulleyLoses", "(II)I"⟩ ⟨"TubeChain", "pulleyLoses", "(II)I"⟩ ∈ px_tb := px_in (List.mem_of_getElem? (i := 13) rfl) rfl
theorem w_14 : Cond.selects "TubeChain" ⟨"TubeChain", "startWithTired", "(I)V"⟩ ⟨"TubeChain", "startWithTired", "(I)V"⟩ ∈ px_tb := px_in (List.mem_of_getElem? (i := 14) rfl) rfl
theorem w_15 : Cond.selects "TubeChainModel" ⟨"TubeChainModel", "in", "(III)Z"⟩ ⟨"TubeChainModel", "in", "(III)Z"⟩ ∈ px_tb := px_in (List.mem_of_getElem? (i := 15) rfl) rfl
theorem w_16 : Cond.selects "TubeChainModel" ⟨"TubeChainModel", "isMan", "(I)Z"⟩ ⟨"TubeChainModel", "isMan", "(I)Z"⟩ ∈ px_tb := px_in (List.mem_of_getElem? (i := 16) rfl) rfl
theorem w_17 : Cond.selects "TubeChainModel" ⟨"TubeChainModel", "placeOf", "(I)I"⟩ ⟨"TubeChainModel", "placeOf", "(I)I"⟩ ∈ px_tb := px_in (List.mem_of_getElem? (i := 17) rfl) rfl
theorem w_18 : Cond.selects "TubeChainModel" ⟨"TubeChainModel", "goesText", "(I)Z"⟩ ⟨"TubeChainModel", "goesText", "(I)Z"⟩ ∈ px_tb := px_in (List.mem_of_getElem? (i := 18) rfl) rfl
theorem w_19 : Cond.selects "TubeChainModel" ⟨"TubeChainModel", "takesClause", "(I)Z"⟩ ⟨"TubeChainModel", "takesClause", "(I)Z"⟩ ∈ px_tb := px_in (List.mem_of_getElem? (i := 19) rfl) rfl
theorem w_20 : Cond.selects "TubeChainModel" ⟨"TubeChainModel", "takesHead", "(I)Z"⟩ ⟨"TubeChainModel", "takesHead", "(I)Z"⟩ ∈ px_tb := px_in (List.mem_of_getElem? (i := 20) rfl) rfl
theorem w_21 : Cond.selects "TubeChainModel" ⟨"TubeChainModel", "next", "()I"⟩ ⟨"TubeChainModel", "next", "()I"⟩ ∈ px_tb := px_in (List.mem_of_getElem? (i := 21) rfl) rfl
theorem w_22 : Cond.selects "TubeChainModel" ⟨"TubeChainModel", "takesWord", "(II)Z"⟩ ⟨"TubeChainModel", "takesWord", "(II)Z"⟩ ∈ px_tb := px_in (List.mem_of_getElem? (i := 22) rfl) rfl
theorem w_23 : Cond.selects "TubeChainModel" ⟨"TubeChainModel", "takes", "(I)Z"⟩ ⟨"TubeChainModel", "takes", "(I)Z"⟩ ∈ px_tb := px_in (List.mem_of_getElem? (i := 23) rfl) rfl
theorem w_24 : Cond.selects "TubeChainModel" ⟨"TubeChainModel", "second", "()I"⟩ ⟨"TubeChainModel", "second", "()I"⟩ ∈ px_tb := px_in (List.mem_of_getElem? (i := 24) rfl) rfl
theorem w_25 : Cond.selects "TubeChainModel" ⟨"TubeChainModel", "takesNumber", "()Z"⟩ ⟨"TubeChainModel", "takesNumber", "()Z"⟩ ∈ px_tb := px_in (List.mem_of_getElem? (i := 25) rfl) rfl
theorem w_26 : Cond.selects "TubeChainModel" ⟨"TubeChainModel", "isDigit", "()Z"⟩ ⟨"TubeChainModel", "isDigit", "()Z"⟩ ∈ px_tb := px_in (List.mem_of_getElem? (i := 26) rfl) rfl
theorem w_27 : Cond.selects "TubeChainModel" ⟨"TubeChainModel", "takesE", "(I)Z"⟩ ⟨"TubeChainModel", "takesE", "(I)Z"⟩ ∈ px_tb := px_in (List.mem_of_getElem? (i := 27) rfl) rfl
theorem w_28 : Cond.selects "TubeChainModel" ⟨"TubeChainModel", "takesTest", "()Z"⟩ ⟨"TubeChainModel", "takesTest", "()Z"⟩ ∈ px_tb := px_in (List.mem_of_getElem? (i := 28) rfl) rfl
theorem w_29 : Cond.selects "TubeChainModel" ⟨"TubeChainModel", "letterAt", "(I)I"⟩ ⟨"TubeChainModel", "letterAt", "(I)I"⟩ ∈ px_tb := px_in (List.mem_of_getElem? (i := 29) rfl) rfl
theorem w_30 : Cond.selects "TubeChainModel" ⟨"TubeChainModel", "emits", "(I)V"⟩ ⟨"TubeChainModel", "emits", "(I)V"⟩ ∈ px_tb := px_in (List.mem_of_getElem? (i := 30) rfl) rfl
theorem w_31 : Cond.selects "TubeChainModel" ⟨"TubeChainModel", "whole", "()V"⟩ ⟨"TubeChainModel", "whole", "()V"⟩ ∈ px_tb := px_in (List.mem_of_getElem? (i := 31) rfl) rfl
theorem w_32 : Cond.selects "TubeChainModel" ⟨"TubeChainModel", "settle", "(I)V"⟩ ⟨"TubeChainModel", "settle", "(I)V"⟩ ∈ px_tb := px_in (List.mem_of_getElem? (i := 32) rfl) rfl
theorem w_33 : Cond.selects "TubeChainModel" ⟨"TubeChainModel", "pace", "(I)I"⟩ ⟨"TubeChainModel", "pace", "(I)I"⟩ ∈ px_tb := px_in (List.mem_of_getElem? (i := 33) rfl) rfl
theorem w_34 : Cond.selects "TubeChainModel" ⟨"TubeChainModel", "begin", "()I"⟩ ⟨"TubeChainModel", "begin", "()I"⟩ ∈ px_tb := px_in (List.mem_of_getElem? (i := 34) rfl) rfl
theorem w_35 : Cond.selects "TubeChainModel" ⟨"TubeChainModel", "behind", "()I"⟩ ⟨"TubeChainModel", "behind", "()I"⟩ ∈ px_tb := px_in (List.mem_of_getElem? (i := 35) rfl) rfl
theorem w_36 : Cond.selects "TubeChainModel" ⟨"TubeChainModel", "holdsTest", "(II)Z"⟩ ⟨"TubeChainModel", "holdsTest", "(II)Z"⟩ ∈ px_tb := px_in (List.mem_of_getElem? (i := 36) rfl) rfl
theorem w_37 : Cond.selects "TubeChainModel" ⟨"TubeChainModel", "factOf", "(II)I"⟩ ⟨"TubeChainModel", "factOf", "(II)I"⟩ ∈ px_tb := px_in (List.mem_of_getElem? (i := 37) rfl) rfl
theorem w_38 : Cond.selects "TubeChainModel" ⟨"TubeChainModel", "atLeastOne", "(I)I"⟩ ⟨"TubeChainModel", "atLeastOne", "(I)I"⟩ ∈ px_tb := px_in (List.mem_of_getElem? (i := 38) rfl) rfl
theorem w_39 : Cond.selects "TubeChainModel" ⟨"TubeChainModel", "holdsFor", "(I)I"⟩ ⟨"TubeChainModel", "holdsFor", "(I)I"⟩ ∈ px_tb := px_in (List.mem_of_getElem? (i := 39) rfl) rfl
theorem w_40 : Cond.selects "TubeChainModel" ⟨"TubeChainModel", "strongly", "(II)I"⟩ ⟨"TubeChainModel", "strongly", "(II)I"⟩ ∈ px_tb := px_in (List.mem_of_getElem? (i := 40) rfl) rfl
theorem w_41 : Cond.selects "TubeChainModel" ⟨"TubeChainModel", "rise", "()I"⟩ ⟨"TubeChainModel", "rise", "()I"⟩ ∈ px_tb := px_in (List.mem_of_getElem? (i := 41) rfl) rfl
theorem w_42 : Cond.selects "TubeChainModel" ⟨"TubeChainModel", "lastOf", "(II)I"⟩ ⟨"TubeChainModel", "lastOf", "(II)I"⟩ ∈ px_tb := px_in (List.mem_of_getElem? (i := 42) rfl) rfl
theorem w_43 : Cond.selects "TubeChainModel" ⟨"TubeChainModel", "rest", "()I"⟩ ⟨"TubeChainModel", "rest", "()I"⟩ ∈ px_tb := px_in (List.mem_of_getElem? (i := 43) rfl) rfl
theorem w_44 : Cond.selects "TubeChainModel" ⟨"TubeChainModel", "pull", "()I"⟩ ⟨"TubeChainModel", "pull", "()I"⟩ ∈ px_tb := px_in (List.mem_of_getElem? (i := 44) rfl) rfl
theorem w_45 : Cond.selects "TubeChainModel" ⟨"TubeChainModel", "isBeat", "(I)Z"⟩ ⟨"TubeChainModel", "isBeat", "(I)Z"⟩ ∈ px_tb := px_in (List.mem_of_getElem? (i := 45) rfl) rfl
theorem w_46 : Cond.selects "TubeChainModel" ⟨"TubeChainModel", "goTube", "()Z"⟩ ⟨"TubeChainModel", "goTube", "()Z"⟩ ∈ px_tb := px_in (List.mem_of_getElem? (i := 46) rfl) rfl
theorem w_47 : Cond.selects "TubeChainModel" ⟨"TubeChainModel", "holdsOnce", "(I)V"⟩ ⟨"TubeChainModel", "holdsOnce", "(I)V"⟩ ∈ px_tb := px_in (List.mem_of_getElem? (i := 47) rfl) rfl
theorem w_48 : Cond.selects "TubeChainModel" ⟨"TubeChainModel", "layTubes", "(IIII)V"⟩ ⟨"TubeChainModel", "layTubes", "(IIII)V"⟩ ∈ px_tb := px_in (List.mem_of_getElem? (i := 48) rfl) rfl
theorem w_49 : Cond.selects "TubeChainModel" ⟨"TubeChainModel", "save", "()V"⟩ ⟨"TubeChainModel", "save", "()V"⟩ ∈ px_tb := px_in (List.mem_of_getElem? (i := 49) rfl) rfl
theorem w_50 : Cond.selects "TubeChainModel" ⟨"TubeChainModel", "putBack", "()V"⟩ ⟨"TubeChainModel", "putBack", "()V"⟩ ∈ px_tb := px_in (List.mem_of_getElem? (i := 50) rfl) rfl
theorem w_51 : Cond.selects "TubeChainModel" ⟨"TubeChainModel", "mostDrops", "()I"⟩ ⟨"TubeChainModel", "mostDrops", "()I"⟩ ∈ px_tb := px_in (List.mem_of_getElem? (i := 51) rfl) rfl
theorem w_52 : Cond.selects "TubeChainModel" ⟨"TubeChainModel", "safeNow", "(I)I"⟩ ⟨"TubeChainModel", "safeNow", "(I)I"⟩ ∈ px_tb := px_in (List.mem_of_getElem? (i := 52) rfl) rfl
theorem w_53 : Cond.selects "TubeChainModel" ⟨"TubeChainModel", "upBy", "(II)I"⟩ ⟨"TubeChainModel", "upBy", "(II)I"⟩ ∈ px_tb := px_in (List.mem_of_getElem? (i := 53) rfl) rfl
theorem w_54 : Cond.selects "TubeChainModel" ⟨"TubeChainModel", "keepChain", "()V"⟩ ⟨"TubeChainModel", "keepChain", "()V"⟩ ∈ px_tb := px_in (List.mem_of_getElem? (i := 54) rfl) rfl
theorem w_55 : Cond.selects "TubeChainModel" ⟨"TubeChainModel", "layOrder", "(I)Z"⟩ ⟨"TubeChainModel", "layOrder", "(I)Z"⟩ ∈ px_tb := px_in (List.mem_of_getElem? (i := 55) rfl) rfl
theorem w_56 : Cond.selects "TubeChainModel" ⟨"TubeChainModel", "has", "(II)Z"⟩ ⟨"TubeChainModel", "has", "(II)Z"⟩ ∈ px_tb := px_in (List.mem_of_getElem? (i := 56) rfl) rfl
theorem w_57 : Cond.selects "TubeChainModel" ⟨"TubeChainModel", "putChain", "()V"⟩ ⟨"TubeChainModel", "putChain", "()V"⟩ ∈ px_tb := px_in (List.mem_of_getElem? (i := 57) rfl) rfl
theorem w_58 : Cond.selects "TubeChainModel" ⟨"TubeChainModel", "pulleyOf", "(II)I"⟩ ⟨"TubeChainModel", "pulleyOf", "(II)I"⟩ ∈ px_tb := px_in (List.mem_of_getElem? (i := 58) rfl) rfl
theorem w_59 : Cond.selects "TubeChainModel" ⟨"TubeChainModel", "swaps", "(II)V"⟩ ⟨"TubeChainModel", "swaps", "(II)V"⟩ ∈ px_tb := px_in (List.mem_of_getElem? (i := 59) rfl) rfl
theorem w_60 : Cond.selects "TubeChainModel" ⟨"TubeChainModel", "lowest", "(III)J"⟩ ⟨"TubeChainModel", "lowest", "(III)J"⟩ ∈ px_tb := px_in (List.mem_of_getElem? (i := 60) rfl) rfl
theorem w_61 : Cond.selects "TubeChainModel" ⟨"TubeChainModel", "divisor", "(II)I"⟩ ⟨"TubeChainModel", "divisor", "(II)I"⟩ ∈ px_tb := px_in (List.mem_of_getElem? (i := 61) rfl) rfl
theorem w_62 : Cond.selects "TubeChainModel" ⟨"TubeChainModel", "isTape", "(I)Z"⟩ ⟨"TubeChainModel", "isTape", "(I)Z"⟩ ∈ px_tb := px_in (List.mem_of_getElem? (i := 62) rfl) rfl
theorem w_63 : Cond.selects "TubeChainModel" ⟨"TubeChainModel", "throwsAct", "(II)I"⟩ ⟨"TubeChainModel", "throwsAct", "(II)I"⟩ ∈ px_tb := px_in (List.mem_of_getElem? (i := 63) rfl) rfl
theorem w_64 : Cond.selects "TubeChainModel" ⟨"TubeChainModel", "body", "(I)V"⟩ ⟨"TubeChainModel", "body", "(I)V"⟩ ∈ px_tb := px_in (List.mem_of_getElem? (i := 64) rfl) rfl
theorem w_65 : Cond.selects "TubeChainModel" ⟨"TubeChainModel", "manThrows", "(II)I"⟩ ⟨"TubeChainModel", "manThrows", "(II)I"⟩ ∈ px_tb := px_in (List.mem_of_getElem? (i := 65) rfl) rfl
theorem w_66 : Cond.selects "TubeChainModel" ⟨"TubeChainModel", "takesAct", "(II)I"⟩ ⟨"TubeChainModel", "takesAct", "(II)I"⟩ ∈ px_tb := px_in (List.mem_of_getElem? (i := 66) rfl) rfl
theorem w_67 : Cond.selects "TubeChainModel" ⟨"TubeChainModel", "strongTakes", "(II)I"⟩ ⟨"TubeChainModel", "strongTakes", "(II)I"⟩ ∈ px_tb := px_in (List.mem_of_getElem? (i := 67) rfl) rfl
theorem w_68 : Cond.selects "TubeChainModel" ⟨"TubeChainModel", "manTakes", "(II)I"⟩ ⟨"TubeChainModel", "manTakes", "(II)I"⟩ ∈ px_tb := px_in (List.mem_of_getElem? (i := 68) rfl) rfl
theorem w_69 : Cond.selects "TubeChainModel" ⟨"TubeChainModel", "tellsAct", "(II)I"⟩ ⟨"TubeChainModel", "tellsAct", "(II)I"⟩ ∈ px_tb := px_in (List.mem_of_getElem? (i := 69) rfl) rfl
theorem w_70 : Cond.selects "TubeChainModel" ⟨"TubeChainModel", "manTells", "(II)I"⟩ ⟨"TubeChainModel", "manTells", "(II)I"⟩ ∈ px_tb := px_in (List.mem_of_getElem? (i := 70) rfl) rfl
theorem w_71 : Cond.selects "TubeChainModel" ⟨"TubeChainModel", "narrow", "(IJ)J"⟩ ⟨"TubeChainModel", "narrow", "(IJ)J"⟩ ∈ px_tb := px_in (List.mem_of_getElem? (i := 71) rfl) rfl
theorem w_72 : Cond.initialized "TubeChainLaw" ∈ px_tb := px_in (px_t1 (List.mem_of_getElem? (i := 0) rfl)) rfl
theorem w_73 : Cond.initialized "TubeChain" ∈ px_tb := px_in (px_t1 (List.mem_of_getElem? (i := 1) rfl)) rfl
theorem w_74 : Cond.initialized "TubeChain$Scaffold" ∈ px_tb := px_in (px_t1 (List.mem_of_getElem? (i := 2) rfl)) rfl
theorem w_75 : Cond.initialized "java/lang/Math" ∈ px_tb := px_in (px_t1 (List.mem_of_getElem? (i := 3) rfl)) rfl
theorem w_76 : Cond.initialized "TubeChain$Man" ∈ px_tb := px_in (px_t1 (List.mem_of_getElem? (i := 4) rfl)) rfl
theorem w_77 : Cond.initialized "TubeChain$Site" ∈ px_tb := px_in (px_t1 (List.mem_of_getElem? (i := 5) rfl)) rfl
theorem w_78 : Cond.initialized "TubeChain$Trial" ∈ px_tb := px_in (px_t1 (List.mem_of_getElem? (i := 6) rfl)) rfl
theorem w_79 : Cond.initialized "TubeChain$Tape" ∈ px_tb := px_in (px_t1 (List.mem_of_getElem? (i := 7) rfl)) rfl
theorem w_80 : Cond.initialized "TubeChainModel" ∈ px_tb := px_in (px_t1 (List.mem_of_getElem? (i := 8) rfl)) rfl
theorem w_81 : Cond.initialized "TubeChain$Strong" ∈ px_tb := px_in (px_t1 (List.mem_of_getElem? (i := 9) rfl)) rfl
theorem w_82 : Cond.initialized "TubeChain$Gloved" ∈ px_tb := px_in (px_t1 (List.mem_of_getElem? (i := 10) rfl)) rfl
theorem w_83 : Cond.initialized "TubeChain$Tiring" ∈ px_tb := px_in (px_t1 (List.mem_of_getElem? (i := 11) rfl)) rfl
theorem w_84 : Cond.initialized "TubeChain$Calling" ∈ px_tb := px_in (px_t1 (List.mem_of_getElem? (i := 12) rfl)) rfl
theorem w_85 : Cond.initialized "TubeChain$Slipping" ∈ px_tb := px_in (px_t1 (List.mem_of_getElem? (i := 13) rfl)) rfl
theorem w_86 : Cond.initialized "TubeChain$Told" ∈ px_tb := px_in (px_t1 (List.mem_of_getElem? (i := 14) rfl)) rfl
theorem w_87 : Cond.initialized "java/lang/System" ∈ px_tb := px_in (px_t1 (List.mem_of_getElem? (i := 15) rfl)) rfl
theorem w_88 : Cond.initialized "java/lang/String" ∈ px_tb := px_in (px_t1 (List.mem_of_getElem? (i := 16) rfl)) rfl
theorem w_89 : Cond.initialized "java/lang/StringLatin1" ∈ px_tb := px_in (px_t1 (List.mem_of_getElem? (i := 17) rfl)) rfl
theorem w_90 : Cond.initialized "jdk/internal/util/Preconditions" ∈ px_tb := px_in (px_t1 (List.mem_of_getElem? (i := 18) rfl)) rfl
theorem w_91 : Cond.initialized "java/lang/StringUTF16" ∈ px_tb := px_in (px_t1 (List.mem_of_getElem? (i := 19) rfl)) rfl
theorem w_92 : Cond.initialized "java/lang/Character" ∈ px_tb := px_in (px_t1 (List.mem_of_getElem? (i := 20) rfl)) rfl
theorem w_93 : Cond.initialized "java/util/Arrays" ∈ px_tb := px_in (px_t1 (List.mem_of_getElem? (i := 21) rfl)) rfl
theorem w_94 : Cond.classLink "TubeChainLaw" 7 "TubeChain" ∈ px_tb := px_in (px_t1 (List.mem_of_getElem? (i := 22) rfl)) rfl
theorem w_95 : Cond.instantiable "TubeChain" 11 ∈ px_tb := px_in (px_t1 (List.mem_of_getElem? (i := 23) rfl)) rfl
theorem w_96 : Cond.methodLink "TubeChainLaw" 9 ⟨"TubeChain", "<init>", "()V"⟩ ∈ px_tb := px_in (px_t1 (List.mem_of_getElem? (i := 24) rfl)) rfl
theorem w_97 : Cond.instanceMethod ⟨"TubeChain", "<init>", "()V"⟩ ∈ px_tb := px_in (px_t1 (List.mem_of_getElem? (i := 25) rfl)) rfl
theorem w_99 : Cond.methodLink "TubeChain" 3 ⟨"java/lang/Object", "<init>", "()V"⟩ ∈ px_tb := px_in (px_t1 (List.mem_of_getElem? (i := 27) rfl)) rfl
theorem w_100 : Cond.instanceMethod ⟨"java/lang/Object", "<init>", "()V"⟩ ∈ px_tb := px_in (px_t1 (List.mem_of_getElem? (i := 28) rfl)) rfl
theorem w_102 : Cond.classLink "TubeChain" 9 "TubeChain$Scaffold" ∈ px_tb := px_in (px_t1 (List.mem_of_getElem? (i := 30) rfl)) rfl
theorem w_103 : Cond.instantiable "TubeChain$Scaffold" 10 ∈ px_tb := px_in (px_t1 (List.mem_of_getElem? (i := 31) rfl)) rfl
theorem w_104 : Cond.methodLink "TubeChain" 11 ⟨"TubeChain$Scaffold", "<init>", "(I)V"⟩ ∈ px_tb := px_in (px_t1 (List.mem_of_getElem? (i := 32) rfl)) rfl
theorem w_105 : Cond.instanceMethod ⟨"TubeChain$Scaffold", "<init>", "(I)V"⟩ ∈ px_tb := px_in (px_t1 (List.mem_of_getElem? (i := 33) rfl)) rfl
theorem w_107 : Cond.methodLink "TubeChain$Scaffold" 3 ⟨"java/lang/Object", "<init>", "()V"⟩ ∈ px_tb := px_in (px_t1 (List.mem_of_getElem? (i := 35) rfl)) rfl
theorem w_108 : Cond.methodLink "TubeChain$Scaffold" 28 ⟨"java/lang/Math", "max", "(II)I"⟩ ∈ px_tb := px_in (px_t1 (List.mem_of_getElem? (i := 36) rfl)) rfl
theorem w_109 : Cond.static ⟨"java/lang/Math", "max", "(II)I"⟩ ∈ px_tb := px_in (px_t1 (List.mem_of_getElem? (i := 37) rfl)) rfl
theorem w_111 : Cond.fieldLink "TubeChain$Scaffold" 9 "TubeChain$Scaffold" "codes" "[I" ∈ px_tb := px_in (px_t1 (List.mem_of_getElem? (i := 39) rfl)) rfl
theorem w_112 : Cond.fieldLink "TubeChain$Scaffold" 15 "TubeChain$Scaffold" "values" "[I" ∈ px_tb := px_in (px_t1 (List.mem_of_getElem? (i := 40) rfl)) rfl
theorem w_113 : Cond.fieldLink "TubeChain$Scaffold" 34 "TubeChain$Scaffold" "known" "[J" ∈ px_tb := px_in (px_t1 (List.mem_of_getElem? (i := 41) rfl)) rfl
theorem w_114 : Cond.fieldLink "TubeChain$Scaffold" 38 "TubeChain$Scaffold" "text" "[C" ∈ px_tb := px_in (px_t1 (List.mem_of_getElem? (i := 42) rfl)) rfl
theorem w_115 : Cond.fieldLink "TubeChain$Scaffold" 51 "TubeChain$Scaffold" "codeCount" "I" ∈ px_tb := px_in (px_t1 (List.mem_of_getElem? (i := 43) rfl)) rfl
theorem w_116 : Cond.fieldLink "TubeChain$Scaffold" 45 "TubeChain$Scaffold" "length" "I" ∈ px_tb := px_in (px_t1 (List.mem_of_getElem? (i := 44) rfl)) rfl
theorem w_117 : Cond.fieldLink "TubeChain$Scaffold" 48 "TubeChain$Scaffold" "at" "I" ∈ px_tb := px_in (px_t1 (List.mem_of_getElem? (i := 45) rfl)) rfl
theorem w_118 : Cond.fieldLink "TubeChain$Scaffold" 18 "TubeChain$Scaffold" "rise" "I" ∈ px_tb := px_in (px_t1 (List.mem_of_getElem? (i := 46) rfl)) rfl
theorem w_119 : Cond.fieldLink "TubeChain" 163 "TubeChain$Scaffold" "rise" "I" ∈ px_tb := px_in (px_t1 (List.mem_of_getElem? (i := 47) rfl)) rfl
theorem w_120 : Cond.fieldLink "TubeChain$Site" 85 "TubeChain$Scaffold" "rise" "I" ∈ px_tb := px_in (px_t1 (List.mem_of_getElem? (i := 48) rfl)) rfl
theorem w_121 : Cond.fieldLink "TubeChain$Scaffold" 22 "TubeChain$Scaffold" "rest" "I" ∈ px_tb := px_in (px_t1 (List.mem_of_getElem? (i := 49) rfl)) rfl
theorem w_122 : Cond.fieldLink "TubeChain" 166 "TubeChain$Scaffold" "rest" "I" ∈ px_tb := px_in (px_t1 (List.mem_of_getElem? (i := 50) rfl)) rfl
theorem w_123 : Cond.fieldLink "TubeChain$Site" 96 "TubeChain$Scaffold" "rest" "I" ∈ px_tb := px_in (px_t1 (List.mem_of_getElem? (i := 51) rfl)) rfl
theorem w_124 : Cond.fieldLink "TubeChain$Scaffold" 25 "TubeChain$Scaffold" "pull" "I" ∈ px_tb := px_in (px_t1 (List.mem_of_getElem? (i := 52) rfl)) rfl
theorem w_125 : Cond.fieldLink "TubeChain" 169 "TubeChain$Scaffold" "pull" "I" ∈ px_tb := px_in (px_t1 (List.mem_of_getElem? (i := 53) rfl)) rfl
theorem w_146 : Cond.superclass "TubeChain$Scaffold" "java/lang/Object" ∈ px_tb := px_in (px_t1 (List.mem_of_getElem? (i := 74) rfl)) rfl
theorem w_147 : Cond.arrayClass .int ∈ px_tb := px_in (px_t1 (List.mem_of_getElem? (i := 75) rfl)) rfl
theorem w_148 : Cond.arrayClass .long ∈ px_tb := px_in (px_t1 (List.mem_of_getElem? (i := 76) rfl)) rfl
theorem w_149 : Cond.arrayClass .char ∈ px_tb := px_in (px_t1 (List.mem_of_getElem? (i := 77) rfl)) rfl
theorem w_150 : Cond.classLink "TubeChain" 14 "TubeChain$Man" ∈ px_tb := px_in (px_t1 (List.mem_of_getElem? (i := 78) rfl)) rfl
theorem w_151 : Cond.instantiable "TubeChain$Man" 2 ∈ px_tb := px_in (px_t1 (List.mem_of_getElem? (i := 79) rfl)) rfl
theorem w_152 : Cond.methodLink "TubeChain" 16 ⟨"TubeChain$Man", "<init>", "(II)V"⟩ ∈ px_tb := px_in (px_t1 (List.mem_of_getElem? (i := 80) rfl)) rfl
theorem w_153 : Cond.instanceMethod ⟨"TubeChain$Man", "<init>", "(II)V"⟩ ∈ px_tb := px_in (px_t1 (List.mem_of_getElem? (i := 81) rfl)) rfl
theorem w_155 : Cond.methodLink "TubeChain$Man" 1 ⟨"java/lang/Object", "<init>", "()V"⟩ ∈ px_tb := px_in (px_t1 (List.mem_of_getElem? (i := 83) rfl)) rfl
theorem w_156 : Cond.fieldLink "TubeChain$Man" 7 "TubeChain$Man" "number" "I" ∈ px_tb := px_in (px_t1 (List.mem_of_getElem? (i := 84) rfl)) rfl
theorem w_157 : Cond.fieldLink "TubeChain$Slipping" 17 "TubeChain$Slipping" "number" "I" ∈ px_tb := px_in (px_t1 (List.mem_of_getElem? (i := 85) rfl)) rfl
theorem w_158 : Cond.sameField "TubeChain$Slipping" "TubeChain$Man" "number" "I" ∈ px_tb := px_in (px_t1 (List.mem_of_getElem? (i := 86) rfl)) rfl
theorem w_159 : Cond.fieldLink "TubeChain$Scaffold" 103 "TubeChain$Man" "number" "I" ∈ px_tb := px_in (px_t1 (List.mem_of_getElem? (i := 87) rfl)) rfl
theorem w_160 : Cond.fieldLink "TubeChain$Man" 13 "TubeChain$Man" "v" "I" ∈ px_tb := px_in (px_t1 (List.mem_of_getElem? (i := 88) rfl)) rfl
theorem w_161 : Cond.fieldLink "TubeChain$Strong" 7 "TubeChain$Strong" "v" "I" ∈ px_tb := px_in (px_t1 (List.mem_of_getElem? (i := 89) rfl)) rfl
theorem w_162 : Cond.sameField "TubeChain$Strong" "TubeChain$Man" "v" "I" ∈ px_tb := px_in (px_t1 (List.mem_of_getElem? (i := 90) rfl)) rfl
theorem w_163 : Cond.fieldLink "TubeChain$Slipping" 7 "TubeChain$Slipping" "v" "I" ∈ px_tb := px_in (px_t1 (List.mem_of_getElem? (i := 91) rfl)) rfl
theorem w_164 : Cond.sameField "TubeChain$Slipping" "TubeChain$Man" "v" "I" ∈ px_tb := px_in (px_t1 (List.mem_of_getElem? (i := 92) rfl)) rfl
theorem w_165 : Cond.fieldLink "TubeChain" 109 "TubeChain$Man" "v" "I" ∈ px_tb := px_in (px_t1 (List.mem_of_getElem? (i := 93) rfl)) rfl
theorem w_166 : Cond.fieldLink "TubeChain$Told" 24 "TubeChain$Told" "v" "I" ∈ px_tb := px_in (px_t1 (List.mem_of_getElem? (i := 94) rfl)) rfl
theorem w_167 : Cond.sameField "TubeChain$Told" "TubeChain$Man" "v" "I" ∈ px_tb := px_in (px_t1 (List.mem_of_getElem? (i := 95) rfl)) rfl
theorem w_168 : Cond.fieldLink "TubeChain$Scaffold" 115 "TubeChain$Man" "v" "I" ∈ px_tb := px_in (px_t1 (List.mem_of_getElem? (i := 96) rfl)) rfl
theorem w_173 : Cond.superclass "TubeChain$Man" "java/lang/Object" ∈ px_tb := px_in (px_t1 (List.mem_of_getElem? (i := 101) rfl)) rfl
theorem w_174 : Cond.classLink "TubeChain" 19 "TubeChain$Site" ∈ px_tb := px_in (px_t1 (List.mem_of_getElem? (i := 102) rfl)) rfl
theorem w_175 : Cond.instantiable "TubeChain$Site" 15 ∈ px_tb := px_in (px_t1 (List.mem_of_getElem? (i := 103) rfl)) rfl
theorem w_176 : Cond.methodLink "TubeChain" 21 ⟨"TubeChain$Site", "<init>", "(LTubeChain$Scaffold;LTubeChain$Man;)V"⟩ ∈ px_tb := px_in (px_t1 (List.mem_of_getElem? (i := 104) rfl)) rfl
theorem w_177 : Cond.instanceMethod ⟨"TubeChain$Site", "<init>", "(LTubeChain$Scaffold;LTubeChain$Man;)V"⟩ ∈ px_tb := px_in (px_t1 (List.mem_of_getElem? (i := 105) rfl)) rfl
theorem w_179 : Cond.methodLink "TubeChain$Site" 3 ⟨"java/lang/Object", "<init>", "()V"⟩ ∈ px_tb := px_in (px_t1 (List.mem_of_getElem? (i := 107) rfl)) rfl
theorem w_180 : Cond.classLink "TubeChain$Site" 9 "TubeChain$Man" ∈ px_tb := px_in (px_t1 (List.mem_of_getElem? (i := 108) rfl)) rfl
theorem w_181 : Cond.arrayOver (.object "TubeChain$Man") ∈ px_tb := px_in (px_t1 (List.mem_of_getElem? (i := 109) rfl)) rfl
theorem w_182 : Cond.fieldLink "TubeChain$Site" 11 "TubeChain$Site" "men" "[LTubeChain$Man;" ∈ px_tb := px_in (px_t1 (List.mem_of_getElem? (i := 110) rfl)) rfl
theorem w_183 : Cond.fieldLink "TubeChain" 101 "TubeChain$Site" "men" "[LTubeChain$Man;" ∈ px_tb := px_in (px_t1 (List.mem_of_getElem? (i := 111) rfl)) rfl
theorem w_184 : Cond.fieldLink "TubeChain$Site" 17 "TubeChain$Site" "held" "[I" ∈ px_tb := px_in (px_t1 (List.mem_of_getElem? (i := 112) rfl)) rfl
theorem w_185 : Cond.fieldLink "TubeChain" 112 "TubeChain$Site" "held" "[I" ∈ px_tb := px_in (px_t1 (List.mem_of_getElem? (i := 113) rfl)) rfl
theorem w_186 : Cond.fieldLink "TubeChain$Site" 21 "TubeChain$Site" "free" "[I" ∈ px_tb := px_in (px_t1 (List.mem_of_getElem? (i := 114) rfl)) rfl
theorem w_187 : Cond.fieldLink "TubeChain" 115 "TubeChain$Site" "free" "[I" ∈ px_tb := px_in (px_t1 (List.mem_of_getElem? (i := 115) rfl)) rfl
theorem w_188 : Cond.fieldLink "TubeChain$Site" 24 "TubeChain$Site" "rows" "[I" ∈ px_tb := px_in (px_t1 (List.mem_of_getElem? (i := 116) rfl)) rfl
theorem w_189 : Cond.fieldLink "TubeChain" 128 "TubeChain$Site" "rows" "[I" ∈ px_tb := px_in (px_t1 (List.mem_of_getElem? (i := 117) rfl)) rfl
theorem w_190 : Cond.fieldLink "TubeChain$Site" 27 "TubeChain$Site" "line" "[I" ∈ px_tb := px_in (px_t1 (List.mem_of_getElem? (i := 118) rfl)) rfl
theorem w_191 : Cond.fieldLink "TubeChain" 172 "TubeChain$Site" "line" "[I" ∈ px_tb := px_in (px_t1 (List.mem_of_getElem? (i := 119) rfl)) rfl
theorem w_192 : Cond.fieldLink "TubeChain$Site" 30 "TubeChain$Site" "seen" "[I" ∈ px_tb := px_in (px_t1 (List.mem_of_getElem? (i := 120) rfl)) rfl
theorem w_193 : Cond.fieldLink "TubeChain" 243 "TubeChain$Site" "seen" "[I" ∈ px_tb := px_in (px_t1 (List.mem_of_getElem? (i := 121) rfl)) rfl
theorem w_194 : Cond.fieldLink "TubeChain$Site" 33 "TubeChain$Site" "book" "[I" ∈ px_tb := px_in (px_t1 (List.mem_of_getElem? (i := 122) rfl)) rfl
theorem w_195 : Cond.fieldLink "TubeChain" 264 "TubeChain$Site" "book" "[I" ∈ px_tb := px_in (px_t1 (List.mem_of_getElem? (i := 123) rfl)) rfl
theorem w_196 : Cond.fieldLink "TubeChain" 67 "TubeChain$Site" "manCount" "I" ∈ px_tb := px_in (px_t1 (List.mem_of_getElem? (i := 124) rfl)) rfl
theorem w_197 : Cond.fieldLink "TubeChain$Site" 46 "TubeChain$Site" "manCount" "I" ∈ px_tb := px_in (px_t1 (List.mem_of_getElem? (i := 125) rfl)) rfl
theorem w_198 : Cond.fieldLink "TubeChain$Site" 50 "TubeChain$Site" "lineLength" "I" ∈ px_tb := px_in (px_t1 (List.mem_of_getElem? (i := 126) rfl)) rfl
theorem w_199 : Cond.fieldLink "TubeChain" 131 "TubeChain$Site" "lineLength" "I" ∈ px_tb := px_in (px_t1 (List.mem_of_getElem? (i := 127) rfl)) rfl
theorem w_200 : Cond.fieldLink "TubeChain$Site" 53 "TubeChain$Site" "tenth" "I" ∈ px_tb := px_in (px_t1 (List.mem_of_getElem? (i := 128) rfl)) rfl
theorem w_201 : Cond.fieldLink "TubeChain$Trial" 44 "TubeChain$Site" "tenth" "I" ∈ px_tb := px_in (px_t1 (List.mem_of_getElem? (i := 129) rfl)) rfl
theorem w_202 : Cond.fieldLink "TubeChain" 154 "TubeChain$Site" "tenth" "I" ∈ px_tb := px_in (px_t1 (List.mem_of_getElem? (i := 130) rfl)) rfl
theorem w_203 : Cond.fieldLink "TubeChain$Site" 56 "TubeChain$Site" "risen" "I" ∈ px_tb := px_in (px_t1 (List.mem_of_getElem? (i := 131) rfl)) rfl
theorem w_204 : Cond.fieldLink "TubeChain" 157 "TubeChain$Site" "risen" "I" ∈ px_tb := px_in (px_t1 (List.mem_of_getElem? (i := 132) rfl)) rfl
theorem w_205 : Cond.fieldLink "TubeChain$Site" 59 "TubeChain$Site" "fallen" "I" ∈ px_tb := px_in (px_t1 (List.mem_of_getElem? (i := 133) rfl)) rfl
theorem w_206 : Cond.fieldLink "TubeChain" 160 "TubeChain$Site" "fallen" "I" ∈ px_tb := px_in (px_t1 (List.mem_of_getElem? (i := 134) rfl)) rfl
theorem w_207 : Cond.fieldLink "TubeChain$Site" 62 "TubeChain$Site" "seenCount" "I" ∈ px_tb := px_in (px_t1 (List.mem_of_getElem? (i := 135) rfl)) rfl
theorem w_208 : Cond.fieldLink "TubeChain" 240 "TubeChain$Site" "seenCount" "I" ∈ px_tb := px_in (px_t1 (List.mem_of_getElem? (i := 136) rfl)) rfl
theorem w_209 : Cond.fieldLink "TubeChain$Site" 65 "TubeChain$Site" "bookCount" "I" ∈ px_tb := px_in (px_t1 (List.mem_of_getElem? (i := 137) rfl)) rfl
theorem w_210 : Cond.fieldLink "TubeChain" 261 "TubeChain$Site" "bookCount" "I" ∈ px_tb := px_in (px_t1 (List.mem_of_getElem? (i := 138) rfl)) rfl
theorem w_211 : Cond.fieldLink "TubeChain$Site" 36 "TubeChain$Site" "scaffold" "LTubeChain$Scaffold;" ∈ px_tb := px_in (px_t1 (List.mem_of_getElem? (i := 139) rfl)) rfl
theorem w_212 : Cond.fieldLink "TubeChain" 150 "TubeChain$Site" "scaffold" "LTubeChain$Scaffold;" ∈ px_tb := px_in (px_t1 (List.mem_of_getElem? (i := 140) rfl)) rfl
theorem w_243 : Cond.superclass "TubeChain$Site" "java/lang/Object" ∈ px_tb := px_in (px_t1 (List.mem_of_getElem? (i := 171) rfl)) rfl
theorem w_244 : Cond.classLink "TubeChain" 33 "TubeChain$Trial" ∈ px_tb := px_in (px_t1 (List.mem_of_getElem? (i := 172) rfl)) rfl
theorem w_245 : Cond.instantiable "TubeChain$Trial" 6 ∈ px_tb := px_in (px_t1 (List.mem_of_getElem? (i := 173) rfl)) rfl
theorem w_246 : Cond.methodLink "TubeChain" 35 ⟨"TubeChain$Trial", "<init>", "(LTubeChain$Site;LTubeChain$Site;)V"⟩ ∈ px_tb := px_in (px_t1 (List.mem_of_getElem? (i := 174) rfl)) rfl
theorem w_247 : Cond.instanceMethod ⟨"TubeChain$Trial", "<init>", "(LTubeChain$Site;LTubeChain$Site;)V"⟩ ∈ px_tb := px_in (px_t1 (List.mem_of_getElem? (i := 175) rfl)) rfl
theorem w_249 : Cond.methodLink "TubeChain$Trial" 3 ⟨"java/lang/Object", "<init>", "()V"⟩ ∈ px_tb := px_in (px_t1 (List.mem_of_getElem? (i := 177) rfl)) rfl
theorem w_250 : Cond.fieldLink "TubeChain$Trial" 15 "TubeChain$Trial" "start" "LTubeChain$Site;" ∈ px_tb := px_in (px_t1 (List.mem_of_getElem? (i := 178) rfl)) rfl
theorem w_251 : Cond.fieldLink "TubeChain" 206 "TubeChain$Trial" "start" "LTubeChain$Site;" ∈ px_tb := px_in (px_t1 (List.mem_of_getElem? (i := 179) rfl)) rfl
theorem w_252 : Cond.fieldLink "TubeChain$Trial" 19 "TubeChain$Trial" "run" "LTubeChain$Site;" ∈ px_tb := px_in (px_t1 (List.mem_of_getElem? (i := 180) rfl)) rfl
theorem w_253 : Cond.fieldLink "TubeChain$Trial" 9 "TubeChain$Trial" "fellBy" "[I" ∈ px_tb := px_in (px_t1 (List.mem_of_getElem? (i := 181) rfl)) rfl
theorem w_254 : Cond.fieldLink "TubeChain" 199 "TubeChain$Trial" "fellBy" "[I" ∈ px_tb := px_in (px_t1 (List.mem_of_getElem? (i := 182) rfl)) rfl
theorem w_255 : Cond.fieldLink "TubeChain$Trial" 34 "TubeChain$Trial" "risen" "I" ∈ px_tb := px_in (px_t1 (List.mem_of_getElem? (i := 183) rfl)) rfl
theorem w_256 : Cond.fieldLink "TubeChain" 192 "TubeChain$Trial" "risen" "I" ∈ px_tb := px_in (px_t1 (List.mem_of_getElem? (i := 184) rfl)) rfl
theorem w_257 : Cond.fieldLink "TubeChain$Trial" 38 "TubeChain$Trial" "latest" "I" ∈ px_tb := px_in (px_t1 (List.mem_of_getElem? (i := 185) rfl)) rfl
theorem w_258 : Cond.fieldLink "TubeChain" 193 "TubeChain$Trial" "latest" "I" ∈ px_tb := px_in (px_t1 (List.mem_of_getElem? (i := 186) rfl)) rfl
theorem w_259 : Cond.fieldLink "TubeChain$Trial" 41 "TubeChain$Trial" "fell" "I" ∈ px_tb := px_in (px_t1 (List.mem_of_getElem? (i := 187) rfl)) rfl
theorem w_260 : Cond.fieldLink "TubeChain" 229 "TubeChain$Trial" "fell" "I" ∈ px_tb := px_in (px_t1 (List.mem_of_getElem? (i := 188) rfl)) rfl
theorem w_273 : Cond.superclass "TubeChain$Trial" "java/lang/Object" ∈ px_tb := px_in (px_t1 (List.mem_of_getElem? (i := 201) rfl)) rfl
theorem w_274 : Cond.arrayOver (.object "TubeChain$Scaffold") ∈ px_tb := px_in (px_t1 (List.mem_of_getElem? (i := 202) rfl)) rfl
theorem w_275 : Cond.classLink "TubeChain" 50 "TubeChain$Tape" ∈ px_tb := px_in (px_t1 (List.mem_of_getElem? (i := 203) rfl)) rfl
theorem w_276 : Cond.arrayOver (.object "TubeChain$Tape") ∈ px_tb := px_in (px_t1 (List.mem_of_getElem? (i := 204) rfl)) rfl
theorem w_277 : Cond.instantiable "TubeChain$Tape" 3 ∈ px_tb := px_in (px_t1 (List.mem_of_getElem? (i := 205) rfl)) rfl
theorem w_278 : Cond.methodLinkNest "TubeChain" 56 ⟨"TubeChain$Tape", "<init>", "()V"⟩ "TubeChain" ∈ px_tb := px_in (px_t1 (List.mem_of_getElem? (i := 206) rfl)) rfl
theorem w_279 : Cond.instanceMethod ⟨"TubeChain$Tape", "<init>", "()V"⟩ ∈ px_tb := px_in (px_t1 (List.mem_of_getElem? (i := 207) rfl)) rfl
theorem w_281 : Cond.methodLink "TubeChain$Tape" 3 ⟨"java/lang/Object", "<init>", "()V"⟩ ∈ px_tb := px_in (px_t1 (List.mem_of_getElem? (i := 209) rfl)) rfl
theorem w_282 : Cond.fieldLink "TubeChain$Tape" 9 "TubeChain$Tape" "items" "[J" ∈ px_tb := px_in (px_t1 (List.mem_of_getElem? (i := 210) rfl)) rfl
theorem w_283 : Cond.fieldLink "TubeChain" 276 "TubeChain$Tape" "items" "[J" ∈ px_tb := px_in (px_t1 (List.mem_of_getElem? (i := 211) rfl)) rfl
theorem w_284 : Cond.fieldLink "TubeChain$Tape" 15 "TubeChain$Tape" "sort" "I" ∈ px_tb := px_in (px_t1 (List.mem_of_getElem? (i := 212) rfl)) rfl
theorem w_285 : Cond.fieldLink "TubeChain" 270 "TubeChain$Tape" "sort" "I" ∈ px_tb := px_in (px_t1 (List.mem_of_getElem? (i := 213) rfl)) rfl
theorem w_286 : Cond.fieldLink "TubeChain$Tape" 19 "TubeChain$Tape" "length" "I" ∈ px_tb := px_in (px_t1 (List.mem_of_getElem? (i := 214) rfl)) rfl
theorem w_287 : Cond.fieldLink "TubeChain" 273 "TubeChain$Tape" "length" "I" ∈ px_tb := px_in (px_t1 (List.mem_of_getElem? (i := 215) rfl)) rfl
theorem w_294 : Cond.superclass "TubeChain$Tape" "java/lang/Object" ∈ px_tb := px_in (px_t1 (List.mem_of_getElem? (i := 222) rfl)) rfl
theorem w_295 : Cond.fieldLink "TubeChain" 24 "TubeChain" "now" "LTubeChain$Site;" ∈ px_tb := px_in (px_t1 (List.mem_of_getElem? (i := 223) rfl)) rfl
theorem w_296 : Cond.fieldLink "TubeChain" 30 "TubeChain" "image" "LTubeChain$Site;" ∈ px_tb := px_in (px_t1 (List.mem_of_getElem? (i := 224) rfl)) rfl
theorem w_297 : Cond.fieldLink "TubeChain" 38 "TubeChain" "trial" "LTubeChain$Trial;" ∈ px_tb := px_in (px_t1 (List.mem_of_getElem? (i := 225) rfl)) rfl
theorem w_298 : Cond.fieldLink "TubeChain" 42 "TubeChain" "scaffolds" "[LTubeChain$Scaffold;" ∈ px_tb := px_in (px_t1 (List.mem_of_getElem? (i := 226) rfl)) rfl
theorem w_299 : Cond.fieldLink "TubeChain" 46 "TubeChain" "text" "[C" ∈ px_tb := px_in (px_t1 (List.mem_of_getElem? (i := 227) rfl)) rfl
theorem w_300 : Cond.fieldLink "TubeChain" 52 "TubeChain" "tapes" "[LTubeChain$Tape;" ∈ px_tb := px_in (px_t1 (List.mem_of_getElem? (i := 228) rfl)) rfl
theorem w_301 : Cond.fieldLink "TubeChain" 57 "TubeChain" "ran" "[I" ∈ px_tb := px_in (px_t1 (List.mem_of_getElem? (i := 229) rfl)) rfl
theorem w_302 : Cond.fieldLink "TubeChain" 61 "TubeChain" "bestRow" "[I" ∈ px_tb := px_in (px_t1 (List.mem_of_getElem? (i := 230) rfl)) rfl
theorem w_303 : Cond.fieldLink "TubeChain" 143 "TubeChain" "scaffoldCount" "I" ∈ px_tb := px_in (px_t1 (List.mem_of_getElem? (i := 231) rfl)) rfl
theorem w_304 : Cond.fieldLink "TubeChain" 140 "TubeChain" "textLength" "I" ∈ px_tb := px_in (px_t1 (List.mem_of_getElem? (i := 232) rfl)) rfl
theorem w_305 : Cond.fieldLink "TubeChain" 286 "TubeChain" "hasImage" "Z" ∈ px_tb := px_in (px_t1 (List.mem_of_getElem? (i := 233) rfl)) rfl
theorem w_328 : Cond.superclass "TubeChain" "java/lang/Object" ∈ px_tb := px_in (px_t2 (List.mem_of_getElem? (i := 16) rfl)) rfl
theorem w_329 : Cond.methodLink "TubeChainLaw" 13 ⟨"TubeChain", "man", "(II)I"⟩ ∈ px_tb := px_in (px_t2 (List.mem_of_getElem? (i := 17) rfl)) rfl
theorem w_330 : Cond.instanceMethod ⟨"TubeChain", "man", "(II)I"⟩ ∈ px_tb := px_in (px_t2 (List.mem_of_getElem? (i := 18) rfl)) rfl
theorem w_331 : Cond.selects "TubeChain" ⟨"TubeChain", "man", "(II)I"⟩ ⟨"TubeChain", "man", "(II)I"⟩ ∈ px_tb := px_in (px_t2 (List.mem_of_getElem? (i := 19) rfl)) rfl
theorem w_333 : Cond.fieldLink "TubeChain" 64 "TubeChain" "ABOVE" "[I" ∈ px_tb := px_in (px_t2 (List.mem_of_getElem? (i := 21) rfl)) rfl
theorem w_335 : Cond.methodLink "TubeChain" 71 ⟨"TubeChain", "newMan", "(III)LTubeChain$Man;"⟩ ∈ px_tb := px_in (px_t2 (List.mem_of_getElem? (i := 23) rfl)) rfl
theorem w_336 : Cond.static ⟨"TubeChain", "newMan", "(III)LTubeChain$Man;"⟩ ∈ px_tb := px_in (px_t2 (List.mem_of_getElem? (i := 24) rfl)) rfl
theorem w_338 : Cond.classLink "TubeChain" 79 "TubeChain$Strong" ∈ px_tb := px_in (px_t2 (List.mem_of_getElem? (i := 26) rfl)) rfl
theorem w_339 : Cond.instantiable "TubeChain$Strong" 2 ∈ px_tb := px_in (px_t2 (List.mem_of_getElem? (i := 27) rfl)) rfl
theorem w_340 : Cond.methodLink "TubeChain" 81 ⟨"TubeChain$Strong", "<init>", "(II)V"⟩ ∈ px_tb := px_in (px_t2 (List.mem_of_getElem? (i := 28) rfl)) rfl
theorem w_341 : Cond.instanceMethod ⟨"TubeChain$Strong", "<init>", "(II)V"⟩ ∈ px_tb := px_in (px_t2 (List.mem_of_getElem? (i := 29) rfl)) rfl
theorem w_343 : Cond.methodLink "TubeChain$Strong" 1 ⟨"TubeChain$Man", "<init>", "(II)V"⟩ ∈ px_tb := px_in (px_t2 (List.mem_of_getElem? (i := 31) rfl)) rfl
theorem w_346 : Cond.superclass "TubeChain$Strong" "TubeChain$Man" ∈ px_tb := px_in (px_t2 (List.mem_of_getElem? (i := 34) rfl)) rfl
theorem w_347 : Cond.classLink "TubeChain" 82 "TubeChain$Gloved" ∈ px_tb := px_in (px_t2 (List.mem_of_getElem? (i := 35) rfl)) rfl
theorem w_348 : Cond.instantiable "TubeChain$Gloved" 2 ∈ px_tb := px_in (px_t2 (List.mem_of_getElem? (i := 36) rfl)) rfl
theorem w_349 : Cond.methodLink "TubeChain" 84 ⟨"TubeChain$Gloved", "<init>", "(II)V"⟩ ∈ px_tb := px_in (px_t2 (List.mem_of_getElem? (i := 37) rfl)) rfl
theorem w_350 : Cond.instanceMethod ⟨"TubeChain$Gloved", "<init>", "(II)V"⟩ ∈ px_tb := px_in (px_t2 (List.mem_of_getElem? (i := 38) rfl)) rfl
theorem w_352 : Cond.methodLink "TubeChain$Gloved" 1 ⟨"TubeChain$Man", "<init>", "(II)V"⟩ ∈ px_tb := px_in (px_t2 (List.mem_of_getElem? (i := 40) rfl)) rfl
theorem w_355 : Cond.superclass "TubeChain$Gloved" "TubeChain$Man" ∈ px_tb := px_in (px_t2 (List.mem_of_getElem? (i := 43) rfl)) rfl
theorem w_356 : Cond.classLink "TubeChain" 85 "TubeChain$Tiring" ∈ px_tb := px_in (px_t2 (List.mem_of_getElem? (i := 44) rfl)) rfl
theorem w_357 : Cond.instantiable "TubeChain$Tiring" 2 ∈ px_tb := px_in (px_t2 (List.mem_of_getElem? (i := 45) rfl)) rfl
theorem w_358 : Cond.methodLink "TubeChain" 87 ⟨"TubeChain$Tiring", "<init>", "(II)V"⟩ ∈ px_tb := px_in (px_t2 (List.mem_of_getElem? (i := 46) rfl)) rfl
theorem w_359 : Cond.instanceMethod ⟨"TubeChain$Tiring", "<init>", "(II)V"⟩ ∈ px_tb := px_in (px_t2 (List.mem_of_getElem? (i := 47) rfl)) rfl
theorem w_361 : Cond.methodLink "TubeChain$Tiring" 1 ⟨"TubeChain$Man", "<init>", "(II)V"⟩ ∈ px_tb := px_in (px_t2 (List.mem_of_getElem? (i := 49) rfl)) rfl
theorem w_364 : Cond.superclass "TubeChain$Tiring" "TubeChain$Man" ∈ px_tb := px_in (px_t2 (List.mem_of_getElem? (i := 52) rfl)) rfl
theorem w_365 : Cond.classLink "TubeChain" 88 "TubeChain$Calling" ∈ px_tb := px_in (px_t2 (List.mem_of_getElem? (i := 53) rfl)) rfl
theorem w_366 : Cond.instantiable "TubeChain$Calling" 2 ∈ px_tb := px_in (px_t2 (List.mem_of_getElem? (i := 54) rfl)) rfl
theorem w_367 : Cond.methodLink "TubeChain" 90 ⟨"TubeChain$Calling", "<init>", "(II)V"⟩ ∈ px_tb := px_in (px_t2 (List.mem_of_getElem? (i := 55) rfl)) rfl
theorem w_368 : Cond.instanceMethod ⟨"TubeChain$Calling", "<init>", "(II)V"⟩ ∈ px_tb := px_in (px_t2 (List.mem_of_getElem? (i := 56) rfl)) rfl
theorem w_370 : Cond.methodLink "TubeChain$Calling" 1 ⟨"TubeChain$Strong", "<init>", "(II)V"⟩ ∈ px_tb := px_in (px_t2 (List.mem_of_getElem? (i := 58) rfl)) rfl
theorem w_373 : Cond.superclass "TubeChain$Calling" "TubeChain$Strong" ∈ px_tb := px_in (px_t2 (List.mem_of_getElem? (i := 61) rfl)) rfl
theorem w_374 : Cond.classLink "TubeChain" 91 "TubeChain$Slipping" ∈ px_tb := px_in (px_t2 (List.mem_of_getElem? (i := 62) rfl)) rfl
theorem w_375 : Cond.instantiable "TubeChain$Slipping" 2 ∈ px_tb := px_in (px_t2 (List.mem_of_getElem? (i := 63) rfl)) rfl
theorem w_376 : Cond.methodLink "TubeChain" 93 ⟨"TubeChain$Slipping", "<init>", "(II)V"⟩ ∈ px_tb := px_in (px_t2 (List.mem_of_getElem? (i := 64) rfl)) rfl
theorem w_377 : Cond.instanceMethod ⟨"TubeChain$Slipping", "<init>", "(II)V"⟩ ∈ px_tb := px_in (px_t2 (List.mem_of_getElem? (i := 65) rfl)) rfl
theorem w_379 : Cond.methodLink "TubeChain$Slipping" 1 ⟨"TubeChain$Gloved", "<init>", "(II)V"⟩ ∈ px_tb := px_in (px_t2 (List.mem_of_getElem? (i := 67) rfl)) rfl
theorem w_382 : Cond.superclass "TubeChain$Slipping" "TubeChain$Gloved" ∈ px_tb := px_in (px_t2 (List.mem_of_getElem? (i := 70) rfl)) rfl
theorem w_383 : Cond.classLink "TubeChain" 94 "TubeChain$Told" ∈ px_tb := px_in (px_t2 (List.mem_of_getElem? (i := 71) rfl)) rfl
theorem w_384 : Cond.instantiable "TubeChain$Told" 2 ∈ px_tb := px_in (px_t2 (List.mem_of_getElem? (i := 72) rfl)) rfl
theorem w_385 : Cond.methodLink "TubeChain" 96 ⟨"TubeChain$Told", "<init>", "(II)V"⟩ ∈ px_tb := px_in (px_t2 (List.mem_of_getElem? (i := 73) rfl)) rfl
theorem w_386 : Cond.instanceMethod ⟨"TubeChain$Told", "<init>", "(II)V"⟩ ∈ px_tb := px_in (px_t2 (List.mem_of_getElem? (i := 74) rfl)) rfl
theorem w_388 : Cond.methodLink "TubeChain$Told" 1 ⟨"TubeChain$Tiring", "<init>", "(II)V"⟩ ∈ px_tb := px_in (px_t2 (List.mem_of_getElem? (i := 76) rfl)) rfl
theorem w_391 : Cond.superclass "TubeChain$Told" "TubeChain$Tiring" ∈ px_tb := px_in (px_t2 (List.mem_of_getElem? (i := 79) rfl)) rfl
theorem w_392 : Cond.methodLink "TubeChain" 75 ⟨"TubeChain$Site", "join", "(LTubeChain$Man;)I"⟩ ∈ px_tb := px_in (px_t2 (List.mem_of_getElem? (i := 80) rfl)) rfl
theorem w_393 : Cond.instanceMethod ⟨"TubeChain$Site", "join", "(LTubeChain$Man;)I"⟩ ∈ px_tb := px_in (px_t2 (List.mem_of_getElem? (i := 81) rfl)) rfl
theorem w_394 : Cond.selects "TubeChain$Site" ⟨"TubeChain$Site", "join", "(LTubeChain$Man;)I"⟩ ⟨"TubeChain$Site", "join", "(LTubeChain$Man;)I"⟩ ∈ px_tb := px_in (px_t2 (List.mem_of_getElem? (i := 82) rfl)) rfl
theorem w_396 : Cond.methodLink "TubeChain$Site" 68 ⟨"TubeChain$Site", "insertAt", "(II)V"⟩ ∈ px_tb := px_in (px_t2 (List.mem_of_getElem? (i := 84) rfl)) rfl
theorem w_397 : Cond.instanceMethod ⟨"TubeChain$Site", "insertAt", "(II)V"⟩ ∈ px_tb := px_in (px_t2 (List.mem_of_getElem? (i := 85) rfl)) rfl
theorem w_398 : Cond.selects "TubeChain$Site" ⟨"TubeChain$Site", "insertAt", "(II)V"⟩ ⟨"TubeChain$Site", "insertAt", "(II)V"⟩ ∈ px_tb := px_in (px_t2 (List.mem_of_getElem? (i := 86) rfl)) rfl
theorem w_400 : Cond.methodLink "TubeChain$Site" 40 ⟨"java/lang/System", "arraycopy", "(Ljava/lang/Object;ILjava/lang/Object;II)V"⟩ ∈ px_tb := px_in (px_t2 (List.mem_of_getElem? (i := 88) rfl)) rfl
theorem w_401 : Cond.static ⟨"java/lang/System", "arraycopy", "(Ljava/lang/Object;ILjava/lang/Object;II)V"⟩ ∈ px_tb := px_in (px_t2 (List.mem_of_getElem? (i := 89) rfl)) rfl
theorem w_403 : Cond.methodLink "TubeChainLaw" 18 ⟨"TubeChain", "of", "(II)I"⟩ ∈ px_tb := px_in (px_t2 (List.mem_of_getElem? (i := 91) rfl)) rfl
theorem w_404 : Cond.instanceMethod ⟨"TubeChain", "of", "(II)I"⟩ ∈ px_tb := px_in (px_t2 (List.mem_of_getElem? (i := 92) rfl)) rfl
theorem w_405 : Cond.selects "TubeChain" ⟨"TubeChain", "of", "(II)I"⟩ ⟨"TubeChain", "of", "(II)I"⟩ ∈ px_tb := px_in (px_t2 (List.mem_of_getElem? (i := 93) rfl)) rfl
theorem w_407 : Cond.methodLink "TubeChain" 97 ⟨"TubeChain", "isNoMan", "(I)Z"⟩ ∈ px_tb := px_in (px_t2 (List.mem_of_getElem? (i := 95) rfl)) rfl
theorem w_409 : Cond.instanceMethod ⟨"TubeChain", "isNoMan", "(I)Z"⟩ ∈ px_tb := px_in (px_t2 (List.mem_of_getElem? (i := 97) rfl)) rfl
theorem w_411 : Cond.methodLink "TubeChain" 105 ⟨"TubeChain$Man", "kind", "()I"⟩ ∈ px_tb := px_in (px_t2 (List.mem_of_getElem? (i := 99) rfl)) rfl
theorem w_412 : Cond.instanceMethod ⟨"TubeChain$Man", "kind", "()I"⟩ ∈ px_tb := px_in (px_t2 (List.mem_of_getElem? (i := 100) rfl)) rfl
theorem w_413 : Cond.selects "TubeChain$Man" ⟨"TubeChain$Man", "kind", "()I"⟩ ⟨"TubeChain$Man", "kind", "()I"⟩ ∈ px_tb := px_in (px_t2 (List.mem_of_getElem? (i := 101) rfl)) rfl
theorem w_414 : Cond.sameMethod "TubeChain$Man" "TubeChain$Man" "kind" "()I" ∈ px_tb := px_in (px_t2 (List.mem_of_getElem? (i := 102) rfl)) rfl
theorem w_415 : Cond.selects "TubeChain$Calling" ⟨"TubeChain$Man", "kind", "()I"⟩ ⟨"TubeChain$Calling", "kind", "()I"⟩ ∈ px_tb := px_in (px_t2 (List.mem_of_getElem? (i := 103) rfl)) rfl
theorem w_416 : Cond.instanceMethod ⟨"TubeChain$Calling", "kind", "()I"⟩ ∈ px_tb := px_in (px_t2 (List.mem_of_getElem? (i := 104) rfl)) rfl
theorem w_418 : Cond.selects "TubeChain$Gloved" ⟨"TubeChain$Man", "kind", "()I"⟩ ⟨"TubeChain$Gloved", "kind", "()I"⟩ ∈ px_tb := px_in (px_t2 (List.mem_of_getElem? (i := 106) rfl)) rfl
theorem w_419 : Cond.instanceMethod ⟨"TubeChain$Gloved", "kind", "()I"⟩ ∈ px_tb := px_in (px_t2 (List.mem_of_getElem? (i := 107) rfl)) rfl
theorem w_421 : Cond.selects "TubeChain$Slipping" ⟨"TubeChain$Man", "kind", "()I"⟩ ⟨"TubeChain$Slipping", "kind", "()I"⟩ ∈ px_tb := px_in (px_t2 (List.mem_of_getElem? (i := 109) rfl)) rfl
theorem w_422 : Cond.instanceMethod ⟨"TubeChain$Slipping", "kind", "()I"⟩ ∈ px_tb := px_in (px_t2 (List.mem_of_getElem? (i := 110) rfl)) rfl
theorem w_424 : Cond.selects "TubeChain$Strong" ⟨"TubeChain$Man", "kind", "()I"⟩ ⟨"TubeChain$Strong", "kind", "()I"⟩ ∈ px_tb := px_in (px_t2 (List.mem_of_getElem? (i := 112) rfl)) rfl
theorem w_425 : Cond.instanceMethod ⟨"TubeChain$Strong", "kind", "()I"⟩ ∈ px_tb := px_in (px_t2 (List.mem_of_getElem? (i := 113) rfl)) rfl
theorem w_427 : Cond.selects "TubeChain$Tiring" ⟨"TubeChain$Man", "kind", "()I"⟩ ⟨"TubeChain$Tiring", "kind", "()I"⟩ ∈ px_tb := px_in (px_t2 (List.mem_of_getElem? (i := 115) rfl)) rfl
theorem w_428 : Cond.instanceMethod ⟨"TubeChain$Tiring", "kind", "()I"⟩ ∈ px_tb := px_in (px_t2 (List.mem_of_getElem? (i := 116) rfl)) rfl
theorem w_430 : Cond.selects "TubeChain$Told" ⟨"TubeChain$Man", "kind", "()I"⟩ ⟨"TubeChain$Told", "kind", "()I"⟩ ∈ px_tb := px_in (px_t2 (List.mem_of_getElem? (i := 118) rfl)) rfl
theorem w_431 : Cond.instanceMethod ⟨"TubeChain$Told", "kind", "()I"⟩ ∈ px_tb := px_in (px_t2 (List.mem_of_getElem? (i := 119) rfl)) rfl
theorem w_434 : Cond.methodLink "TubeChain" 118 ⟨"TubeChain$Site", "placeOf", "(I)I"⟩ ∈ px_tb := px_in (px_t2 (List.mem_of_getElem? (i := 122) rfl)) rfl
theorem w_435 : Cond.instanceMethod ⟨"TubeChain$Site", "placeOf", "(I)I"⟩ ∈ px_tb := px_in (px_t2 (List.mem_of_getElem? (i := 123) rfl)) rfl
theorem w_436 : Cond.selects "TubeChain$Site" ⟨"TubeChain$Site", "placeOf", "(I)I"⟩ ⟨"TubeChain$Site", "placeOf", "(I)I"⟩ ∈ px_tb := px_in (px_t2 (List.mem_of_getElem? (i := 124) rfl)) rfl
theorem w_438 : Cond.methodLink "TubeChain" 122 ⟨"TubeChain$Site", "paceAt", "(I)I"⟩ ∈ px_tb := px_in (px_t2 (List.mem_of_getElem? (i := 126) rfl)) rfl
theorem w_439 : Cond.instanceMethod ⟨"TubeChain$Site", "paceAt", "(I)I"⟩ ∈ px_tb := px_in (px_t2 (List.mem_of_getElem? (i := 127) rfl)) rfl
theorem w_440 : Cond.selects "TubeChain$Site" ⟨"TubeChain$Site", "paceAt", "(I)I"⟩ ⟨"TubeChain$Site", "paceAt", "(I)I"⟩ ∈ px_tb := px_in (px_t2 (List.mem_of_getElem? (i := 128) rfl)) rfl
theorem w_442 : Cond.methodLink "TubeChain$Site" 75 ⟨"TubeChain$Scaffold", "pace", "(LTubeChain$Man;II)I"⟩ ∈ px_tb := px_in (px_t2 (List.mem_of_getElem? (i := 130) rfl)) rfl
theorem w_443 : Cond.instanceMethod ⟨"TubeChain$Scaffold", "pace", "(LTubeChain$Man;II)I"⟩ ∈ px_tb := px_in (px_t2 (List.mem_of_getElem? (i := 131) rfl)) rfl
theorem w_444 : Cond.selects "TubeChain$Scaffold" ⟨"TubeChain$Scaffold", "pace", "(LTubeChain$Man;II)I"⟩ ⟨"TubeChain$Scaffold", "pace", "(LTubeChain$Man;II)I"⟩ ∈ px_tb := px_in (px_t2 (List.mem_of_getElem? (i := 132) rfl)) rfl
theorem w_446 : Cond.methodLink "TubeChain$Scaffold" 108 ⟨"TubeChain$Scaffold", "reckonPace", "(LTubeChain$Man;II)I"⟩ ∈ px_tb := px_in (px_t2 (List.mem_of_getElem? (i := 134) rfl)) rfl
theorem w_448 : Cond.instanceMethod ⟨"TubeChain$Scaffold", "reckonPace", "(LTubeChain$Man;II)I"⟩ ∈ px_tb := px_in (px_t2 (List.mem_of_getElem? (i := 136) rfl)) rfl
theorem w_450 : Cond.methodLink "TubeChain$Scaffold" 112 ⟨"TubeChain$Man", "kind", "()I"⟩ ∈ px_tb := px_in (px_t2 (List.mem_of_getElem? (i := 138) rfl)) rfl
theorem w_451 : Cond.methodLink "TubeChain$Scaffold" 42 ⟨"java/lang/Math", "min", "(II)I"⟩ ∈ px_tb := px_in (px_t2 (List.mem_of_getElem? (i := 139) rfl)) rfl
theorem w_452 : Cond.static ⟨"java/lang/Math", "min", "(II)I"⟩ ∈ px_tb := px_in (px_t2 (List.mem_of_getElem? (i := 140) rfl)) rfl
theorem w_454 : Cond.methodLink "TubeChain$Scaffold" 122 ⟨"TubeChain$Scaffold", "test", "(I)I"⟩ ∈ px_tb := px_in (px_t2 (List.mem_of_getElem? (i := 142) rfl)) rfl
theorem w_456 : Cond.instanceMethod ⟨"TubeChain$Scaffold", "test", "(I)I"⟩ ∈ px_tb := px_in (px_t2 (List.mem_of_getElem? (i := 144) rfl)) rfl
theorem w_458 : Cond.constantLong "TubeChain$Scaffold" 118 1000 ∈ px_tb := px_in (px_t2 (List.mem_of_getElem? (i := 146) rfl)) rfl
theorem w_459 : Cond.constantLong "TubeChain$Scaffold" 120 1024 ∈ px_tb := px_in (px_t2 (List.mem_of_getElem? (i := 147) rfl)) rfl
theorem w_460 : Cond.methodLink "TubeChain" 125 ⟨"TubeChain$Site", "holdsAt", "(I)I"⟩ ∈ px_tb := px_in (px_t2 (List.mem_of_getElem? (i := 148) rfl)) rfl
theorem w_461 : Cond.instanceMethod ⟨"TubeChain$Site", "holdsAt", "(I)I"⟩ ∈ px_tb := px_in (px_t2 (List.mem_of_getElem? (i := 149) rfl)) rfl
theorem w_462 : Cond.selects "TubeChain$Site" ⟨"TubeChain$Site", "holdsAt", "(I)I"⟩ ⟨"TubeChain$Site", "holdsAt", "(I)I"⟩ ∈ px_tb := px_in (px_t2 (List.mem_of_getElem? (i := 150) rfl)) rfl
theorem w_464 : Cond.methodLink "TubeChain$Site" 81 ⟨"TubeChain$Man", "holds", "(III)I"⟩ ∈ px_tb := px_in (px_t2 (List.mem_of_getElem? (i := 152) rfl)) rfl
theorem w_465 : Cond.instanceMethod ⟨"TubeChain$Man", "holds", "(III)I"⟩ ∈ px_tb := px_in (px_t2 (List.mem_of_getElem? (i := 153) rfl)) rfl
theorem w_466 : Cond.selects "TubeChain$Man" ⟨"TubeChain$Man", "holds", "(III)I"⟩ ⟨"TubeChain$Man", "holds", "(III)I"⟩ ∈ px_tb := px_in (px_t2 (List.mem_of_getElem? (i := 154) rfl)) rfl
theorem w_467 : Cond.sameMethod "TubeChain$Man" "TubeChain$Man" "holds" "(III)I" ∈ px_tb := px_in (px_t2 (List.mem_of_getElem? (i := 155) rfl)) rfl
theorem w_468 : Cond.selects "TubeChain$Calling" ⟨"TubeChain$Man", "holds", "(III)I"⟩ ⟨"TubeChain$Calling", "holds", "(III)I"⟩ ∈ px_tb := px_in (px_t2 (List.mem_of_getElem? (i := 156) rfl)) rfl
theorem w_469 : Cond.instanceMethod ⟨"TubeChain$Calling", "holds", "(III)I"⟩ ∈ px_tb := px_in (px_t2 (List.mem_of_getElem? (i := 157) rfl)) rfl
theorem w_471 : Cond.methodLink "TubeChain$Calling" 7 ⟨"TubeChain$Strong", "holds", "(III)I"⟩ ∈ px_tb := px_in (px_t2 (List.mem_of_getElem? (i := 159) rfl)) rfl
theorem w_472 : Cond.instanceMethod ⟨"TubeChain$Strong", "holds", "(III)I"⟩ ∈ px_tb := px_in (px_t2 (List.mem_of_getElem? (i := 160) rfl)) rfl
theorem w_474 : Cond.methodLink "TubeChain$Strong" 13 ⟨"java/lang/Math", "max", "(II)I"⟩ ∈ px_tb := px_in (px_t2 (List.mem_of_getElem? (i := 162) rfl)) rfl
theorem w_475 : Cond.methodLink "TubeChain$Calling" 11 ⟨"java/lang/Math", "max", "(II)I"⟩ ∈ px_tb := px_in (px_t2 (List.mem_of_getElem? (i := 163) rfl)) rfl
theorem w_476 : Cond.selects "TubeChain$Gloved" ⟨"TubeChain$Man", "holds", "(III)I"⟩ ⟨"TubeChain$Gloved", "holds", "(III)I"⟩ ∈ px_tb := px_in (px_t2 (List.mem_of_getElem? (i := 164) rfl)) rfl
theorem w_477 : Cond.instanceMethod ⟨"TubeChain$Gloved", "holds", "(III)I"⟩ ∈ px_tb := px_in (px_t2 (List.mem_of_getElem? (i := 165) rfl)) rfl
theorem w_479 : Cond.selects "TubeChain$Slipping" ⟨"TubeChain$Man", "holds", "(III)I"⟩ ⟨"TubeChain$Gloved", "holds", "(III)I"⟩ ∈ px_tb := px_in (px_t2 (List.mem_of_getElem? (i := 167) rfl)) rfl
theorem w_480 : Cond.selects "TubeChain$Strong" ⟨"TubeChain$Man", "holds", "(III)I"⟩ ⟨"TubeChain$Strong", "holds", "(III)I"⟩ ∈ px_tb := px_in (px_t2 (List.mem_of_getElem? (i := 168) rfl)) rfl
theorem w_481 : Cond.selects "TubeChain$Tiring" ⟨"TubeChain$Man", "holds", "(III)I"⟩ ⟨"TubeChain$Tiring", "holds", "(III)I"⟩ ∈ px_tb := px_in (px_t2 (List.mem_of_getElem? (i := 169) rfl)) rfl
theorem w_482 : Cond.instanceMethod ⟨"TubeChain$Tiring", "holds", "(III)I"⟩ ∈ px_tb := px_in (px_t2 (List.mem_of_getElem? (i := 170) rfl)) rfl
theorem w_484 : Cond.selects "TubeChain$Told" ⟨"TubeChain$Man", "holds", "(III)I"⟩ ⟨"TubeChain$Told", "holds", "(III)I"⟩ ∈ px_tb := px_in (px_t2 (List.mem_of_getElem? (i := 172) rfl)) rfl
theorem w_485 : Cond.instanceMethod ⟨"TubeChain$Told", "holds", "(III)I"⟩ ∈ px_tb := px_in (px_t2 (List.mem_of_getElem? (i := 173) rfl)) rfl
theorem w_487 : Cond.methodLink "TubeChain$Told" 7 ⟨"TubeChain$Tiring", "holds", "(III)I"⟩ ∈ px_tb := px_in (px_t2 (List.mem_of_getElem? (i := 175) rfl)) rfl
theorem w_489 : Cond.methodLink "TubeChainLaw" 22 ⟨"TubeChain", "held", "(II)I"⟩ ∈ px_tb := px_in (px_t2 (List.mem_of_getElem? (i := 177) rfl)) rfl
theorem w_490 : Cond.instanceMethod ⟨"TubeChain", "held", "(II)I"⟩ ∈ px_tb := px_in (px_t2 (List.mem_of_getElem? (i := 178) rfl)) rfl
theorem w_491 : Cond.selects "TubeChain" ⟨"TubeChain", "held", "(II)I"⟩ ⟨"TubeChain", "held", "(II)I"⟩ ∈ px_tb := px_in (px_t2 (List.mem_of_getElem? (i := 179) rfl)) rfl
theorem w_493 : Cond.methodLink "TubeChainLaw" 26 ⟨"TubeChain", "row", "(III)I"⟩ ∈ px_tb := px_in (px_t2 (List.mem_of_getElem? (i := 181) rfl)) rfl
theorem w_494 : Cond.instanceMethod ⟨"TubeChain", "row", "(III)I"⟩ ∈ px_tb := px_in (px_t2 (List.mem_of_getElem? (i := 182) rfl)) rfl
theorem w_495 : Cond.selects "TubeChain" ⟨"TubeChain", "row", "(III)I"⟩ ⟨"TubeChain", "row", "(III)I"⟩ ∈ px_tb := px_in (px_t2 (List.mem_of_getElem? (i := 183) rfl)) rfl
theorem w_497 : Cond.methodLink "TubeChainLaw" 31 ⟨"TubeChain", "place", "(II)I"⟩ ∈ px_tb := px_in (px_t2 (List.mem_of_getElem? (i := 185) rfl)) rfl
theorem w_498 : Cond.instanceMethod ⟨"TubeChain", "place", "(II)I"⟩ ∈ px_tb := px_in (px_t2 (List.mem_of_getElem? (i := 186) rfl)) rfl
theorem w_499 : Cond.selects "TubeChain" ⟨"TubeChain", "place", "(II)I"⟩ ⟨"TubeChain", "place", "(II)I"⟩ ∈ px_tb := px_in (px_t2 (List.mem_of_getElem? (i := 187) rfl)) rfl
theorem w_501 : Cond.methodLink "TubeChain" 134 ⟨"TubeChain$Site", "removeAt", "(I)V"⟩ ∈ px_tb := px_in (px_t2 (List.mem_of_getElem? (i := 189) rfl)) rfl
theorem w_502 : Cond.instanceMethod ⟨"TubeChain$Site", "removeAt", "(I)V"⟩ ∈ px_tb := px_in (px_t2 (List.mem_of_getElem? (i := 190) rfl)) rfl
theorem w_503 : Cond.selects "TubeChain$Site" ⟨"TubeChain$Site", "removeAt", "(I)V"⟩ ⟨"TubeChain$Site", "removeAt", "(I)V"⟩ ∈ px_tb := px_in (px_t2 (List.mem_of_getElem? (i := 191) rfl)) rfl
theorem w_505 : Cond.methodLink "TubeChain" 137 ⟨"TubeChain$Site", "insertAt", "(II)V"⟩ ∈ px_tb := px_in (px_t2 (List.mem_of_getElem? (i := 193) rfl)) rfl
theorem w_506 : Cond.methodLink "TubeChainLaw" 35 ⟨"TubeChain", "feed", "(I)I"⟩ ∈ px_tb := px_in (px_t2 (List.mem_of_getElem? (i := 194) rfl)) rfl
theorem w_507 : Cond.instanceMethod ⟨"TubeChain", "feed", "(I)I"⟩ ∈ px_tb := px_in (px_t2 (List.mem_of_getElem? (i := 195) rfl)) rfl
theorem w_508 : Cond.selects "TubeChain" ⟨"TubeChain", "feed", "(I)I"⟩ ⟨"TubeChain", "feed", "(I)I"⟩ ∈ px_tb := px_in (px_t2 (List.mem_of_getElem? (i := 196) rfl)) rfl
theorem w_510 : Cond.methodLink "TubeChainLaw" 40 ⟨"TubeChain", "scaffold", "()I"⟩ ∈ px_tb := px_in (px_t2 (List.mem_of_getElem? (i := 198) rfl)) rfl
theorem w_511 : Cond.instanceMethod ⟨"TubeChain", "scaffold", "()I"⟩ ∈ px_tb := px_in (px_t2 (List.mem_of_getElem? (i := 199) rfl)) rfl
theorem w_512 : Cond.selects "TubeChain" ⟨"TubeChain", "scaffold", "()I"⟩ ⟨"TubeChain", "scaffold", "()I"⟩ ∈ px_tb := px_in (px_t2 (List.mem_of_getElem? (i := 200) rfl)) rfl
theorem w_514 : Cond.methodLink "TubeChain" 146 ⟨"TubeChain$Scaffold", "compile", "([CI)I"⟩ ∈ px_tb := px_in (px_t2 (List.mem_of_getElem? (i := 202) rfl)) rfl
theorem w_515 : Cond.instanceMethod ⟨"TubeChain$Scaffold", "compile", "([CI)I"⟩ ∈ px_tb := px_in (px_t2 (List.mem_of_getElem? (i := 203) rfl)) rfl
theorem w_516 : Cond.selects "TubeChain$Scaffold" ⟨"TubeChain$Scaffold", "compile", "([CI)I"⟩ ⟨"TubeChain$Scaffold", "compile", "([CI)I"⟩ ∈ px_tb := px_in (px_t2 (List.mem_of_getElem? (i := 204) rfl)) rfl
theorem w_518 : Cond.methodLink "TubeChain$Scaffold" 54 ⟨"TubeChain$Scaffold", "readClause", "()Z"⟩ ∈ px_tb := px_in (px_t2 (List.mem_of_getElem? (i := 206) rfl)) rfl
theorem w_520 : Cond.instanceMethod ⟨"TubeChain$Scaffold", "readClause", "()Z"⟩ ∈ px_tb := px_in (px_t2 (List.mem_of_getElem? (i := 208) rfl)) rfl
theorem w_522 : Cond.methodLink "TubeChain$Scaffold" 62 ⟨"TubeChain$Scaffold", "readWord", "()I"⟩ ∈ px_tb := px_in (px_t2 (List.mem_of_getElem? (i := 210) rfl)) rfl
theorem w_524 : Cond.instanceMethod ⟨"TubeChain$Scaffold", "readWord", "()I"⟩ ∈ px_tb := px_in (px_t2 (List.mem_of_getElem? (i := 212) rfl)) rfl
theorem w_527 : Cond.methodLink "TubeChain$Scaffold" 78 ⟨"java/lang/String", "length", "()I"⟩ ∈ px_tb := px_in (px_t2 (List.mem_of_getElem? (i := 215) rfl)) rfl
theorem w_528 : Cond.instanceMethod ⟨"java/lang/String", "length", "()I"⟩ ∈ px_tb := px_in (px_t2 (List.mem_of_getElem? (i := 216) rfl)) rfl
theorem w_529 : Cond.selects "java/lang/String" ⟨"java/lang/String", "length", "()I"⟩ ⟨"java/lang/String", "length", "()I"⟩ ∈ px_tb := px_in (px_t2 (List.mem_of_getElem? (i := 217) rfl)) rfl
theorem w_531 : Cond.methodLink "java/lang/String" 335 ⟨"java/lang/String", "coder", "()B"⟩ ∈ px_tb := px_in (px_t2 (List.mem_of_getElem? (i := 219) rfl)) rfl
theorem w_532 : Cond.instanceMethod ⟨"java/lang/String", "coder", "()B"⟩ ∈ px_tb := px_in (px_t2 (List.mem_of_getElem? (i := 220) rfl)) rfl
theorem w_533 : Cond.selects "java/lang/String" ⟨"java/lang/String", "coder", "()B"⟩ ⟨"java/lang/String", "coder", "()B"⟩ ∈ px_tb := px_in (px_t2 (List.mem_of_getElem? (i := 221) rfl)) rfl
theorem w_535 : Cond.fieldLink "java/lang/String" 38 "java/lang/String" "COMPACT_STRINGS" "Z" ∈ px_tb := px_in (px_t2 (List.mem_of_getElem? (i := 223) rfl)) rfl
theorem w_537 : Cond.methodLink "TubeChain$Scaffold" 82 ⟨"java/lang/String", "charAt", "(I)C"⟩ ∈ px_tb := px_in (px_t2 (List.mem_of_getElem? (i := 225) rfl)) rfl
theorem w_538 : Cond.instanceMethod ⟨"java/lang/String", "charAt", "(I)C"⟩ ∈ px_tb := px_in (px_t2 (List.mem_of_getElem? (i := 226) rfl)) rfl
theorem w_539 : Cond.selects "java/lang/String" ⟨"java/lang/String", "charAt", "(I)C"⟩ ⟨"java/lang/String", "charAt", "(I)C"⟩ ∈ px_tb := px_in (px_t2 (List.mem_of_getElem? (i := 227) rfl)) rfl
theorem w_541 : Cond.methodLink "java/lang/String" 492 ⟨"java/lang/String", "isLatin1", "()Z"⟩ ∈ px_tb := px_in (px_t2 (List.mem_of_getElem? (i := 229) rfl)) rfl
theorem w_542 : Cond.instanceMethod ⟨"java/lang/String", "isLatin1", "()Z"⟩ ∈ px_tb := px_in (px_t2 (List.mem_of_getElem? (i := 230) rfl)) rfl
theorem w_543 : Cond.selects "java/lang/String" ⟨"java/lang/String", "isLatin1", "()Z"⟩ ⟨"java/lang/String", "isLatin1", "()Z"⟩ ∈ px_tb := px_in (px_t2 (List.mem_of_getElem? (i := 231) rfl)) rfl
theorem w_545 : Cond.methodLink "java/lang/String" 495 ⟨"java/lang/StringLatin1", "charAt", "([BI)C"⟩ ∈ px_tb := px_in (px_t2 (List.mem_of_getElem? (i := 233) rfl)) rfl
theorem w_546 : Cond.static ⟨"java/lang/StringLatin1", "charAt", "([BI)C"⟩ ∈ px_tb := px_in (px_t2 (List.mem_of_getElem? (i := 234) rfl)) rfl
theorem w_548 : Cond.methodLink "java/lang/StringLatin1" 9 ⟨"java/lang/String", "checkIndex", "(II)V"⟩ ∈ px_tb := px_in (px_t2 (List.mem_of_getElem? (i := 236) rfl)) rfl
theorem w_549 : Cond.static ⟨"java/lang/String", "checkIndex", "(II)V"⟩ ∈ px_tb := px_in (px_t2 (List.mem_of_getElem? (i := 237) rfl)) rfl
theorem w_551 : Cond.fieldLink "java/lang/String" 1053 "jdk/internal/util/Preconditions" "SIOOBE_FORMATTER" "Ljava/util/function/BiFunction;" ∈ px_tb := px_in (px_t2 (List.mem_of_getElem? (i := 239) rfl)) rfl
theorem w_553 : Cond.methodLink "java/lang/String" 1059 ⟨"jdk/internal/util/Preconditions", "checkIndex", "(IILjava/util/function/BiFunction;)I"⟩ ∈ px_tb := px_in (px_t3 (List.mem_of_getElem? (i := 1) rfl)) rfl
theorem w_554 : Cond.static ⟨"jdk/internal/util/Preconditions", "checkIndex", "(IILjava/util/function/BiFunction;)I"⟩ ∈ px_tb := px_in (px_t3 (List.mem_of_getElem? (i := 2) rfl)) rfl
theorem w_556 : Cond.methodLink "java/lang/String" 498 ⟨"java/lang/StringUTF16", "charAt", "([BI)C"⟩ ∈ px_tb := px_in (px_t3 (List.mem_of_getElem? (i := 4) rfl)) rfl
theorem w_557 : Cond.static ⟨"java/lang/StringUTF16", "charAt", "([BI)C"⟩ ∈ px_tb := px_in (px_t3 (List.mem_of_getElem? (i := 5) rfl)) rfl
theorem w_559 : Cond.methodLink "java/lang/StringUTF16" 67 ⟨"java/lang/StringUTF16", "checkIndex", "(I[B)V"⟩ ∈ px_tb := px_in (px_t3 (List.mem_of_getElem? (i := 7) rfl)) rfl
theorem w_560 : Cond.static ⟨"java/lang/StringUTF16", "checkIndex", "(I[B)V"⟩ ∈ px_tb := px_in (px_t3 (List.mem_of_getElem? (i := 8) rfl)) rfl
theorem w_562 : Cond.methodLink "java/lang/StringUTF16" 48 ⟨"java/lang/StringUTF16", "length", "([B)I"⟩ ∈ px_tb := px_in (px_t3 (List.mem_of_getElem? (i := 10) rfl)) rfl
theorem w_563 : Cond.static ⟨"java/lang/StringUTF16", "length", "([B)I"⟩ ∈ px_tb := px_in (px_t3 (List.mem_of_getElem? (i := 11) rfl)) rfl
theorem w_565 : Cond.methodLink "java/lang/StringUTF16" 414 ⟨"java/lang/String", "checkIndex", "(II)V"⟩ ∈ px_tb := px_in (px_t3 (List.mem_of_getElem? (i := 13) rfl)) rfl
theorem w_566 : Cond.methodLink "java/lang/StringUTF16" 71 ⟨"java/lang/StringUTF16", "getChar", "([BI)C"⟩ ∈ px_tb := px_in (px_t3 (List.mem_of_getElem? (i := 14) rfl)) rfl
theorem w_567 : Cond.static ⟨"java/lang/StringUTF16", "getChar", "([BI)C"⟩ ∈ px_tb := px_in (px_t3 (List.mem_of_getElem? (i := 15) rfl)) rfl
theorem w_569 : Cond.fieldLink "java/lang/StringUTF16" 44 "java/lang/StringUTF16" "$assertionsDisabled" "Z" ∈ px_tb := px_in (px_t3 (List.mem_of_getElem? (i := 17) rfl)) rfl
theorem w_571 : Cond.fieldLink "java/lang/StringUTF16" 59 "java/lang/StringUTF16" "HI_BYTE_SHIFT" "I" ∈ px_tb := px_in (px_t3 (List.mem_of_getElem? (i := 19) rfl)) rfl
theorem w_573 : Cond.fieldLink "java/lang/StringUTF16" 63 "java/lang/StringUTF16" "LO_BYTE_SHIFT" "I" ∈ px_tb := px_in (px_t3 (List.mem_of_getElem? (i := 21) rfl)) rfl
theorem w_575 : Cond.methodLink "TubeChain$Scaffold" 58 ⟨"TubeChain$Scaffold", "passes", "(C)Z"⟩ ∈ px_tb := px_in (px_t3 (List.mem_of_getElem? (i := 23) rfl)) rfl
theorem w_577 : Cond.instanceMethod ⟨"TubeChain$Scaffold", "passes", "(C)Z"⟩ ∈ px_tb := px_in (px_t3 (List.mem_of_getElem? (i := 25) rfl)) rfl
theorem w_579 : Cond.methodLink "TubeChain$Scaffold" 66 ⟨"TubeChain$Scaffold", "readNumber", "()I"⟩ ∈ px_tb := px_in (px_t3 (List.mem_of_getElem? (i := 27) rfl)) rfl
theorem w_581 : Cond.instanceMethod ⟨"TubeChain$Scaffold", "readNumber", "()I"⟩ ∈ px_tb := px_in (px_t3 (List.mem_of_getElem? (i := 29) rfl)) rfl
theorem w_583 : Cond.methodLink "TubeChain$Scaffold" 69 ⟨"TubeChain$Scaffold", "readEither", "(I)Z"⟩ ∈ px_tb := px_in (px_t3 (List.mem_of_getElem? (i := 31) rfl)) rfl
theorem w_585 : Cond.instanceMethod ⟨"TubeChain$Scaffold", "readEither", "(I)Z"⟩ ∈ px_tb := px_in (px_t3 (List.mem_of_getElem? (i := 33) rfl)) rfl
theorem w_587 : Cond.methodLink "TubeChain$Scaffold" 86 ⟨"TubeChain$Scaffold", "readBoth", "(I)Z"⟩ ∈ px_tb := px_in (px_t3 (List.mem_of_getElem? (i := 35) rfl)) rfl
theorem w_589 : Cond.instanceMethod ⟨"TubeChain$Scaffold", "readBoth", "(I)Z"⟩ ∈ px_tb := px_in (px_t3 (List.mem_of_getElem? (i := 37) rfl)) rfl
theorem w_591 : Cond.methodLink "TubeChain$Scaffold" 89 ⟨"TubeChain$Scaffold", "readOne", "(I)Z"⟩ ∈ px_tb := px_in (px_t3 (List.mem_of_getElem? (i := 39) rfl)) rfl
theorem w_593 : Cond.instanceMethod ⟨"TubeChain$Scaffold", "readOne", "(I)Z"⟩ ∈ px_tb := px_in (px_t3 (List.mem_of_getElem? (i := 41) rfl)) rfl
theorem w_595 : Cond.methodLink "TubeChain$Scaffold" 92 ⟨"TubeChain$Scaffold", "readTest", "()Z"⟩ ∈ px_tb := px_in (px_t3 (List.mem_of_getElem? (i := 43) rfl)) rfl
theorem w_597 : Cond.instanceMethod ⟨"TubeChain$Scaffold", "readTest", "()Z"⟩ ∈ px_tb := px_in (px_t3 (List.mem_of_getElem? (i := 45) rfl)) rfl
theorem w_600 : Cond.methodLink "TubeChain$Scaffold" 97 ⟨"java/lang/String", "indexOf", "(I)I"⟩ ∈ px_tb := px_in (px_t3 (List.mem_of_getElem? (i := 48) rfl)) rfl
theorem w_601 : Cond.instanceMethod ⟨"java/lang/String", "indexOf", "(I)I"⟩ ∈ px_tb := px_in (px_t3 (List.mem_of_getElem? (i := 49) rfl)) rfl
theorem w_602 : Cond.selects "java/lang/String" ⟨"java/lang/String", "indexOf", "(I)I"⟩ ⟨"java/lang/String", "indexOf", "(I)I"⟩ ∈ px_tb := px_in (px_t3 (List.mem_of_getElem? (i := 50) rfl)) rfl
theorem w_604 : Cond.methodLink "java/lang/String" 633 ⟨"java/lang/String", "indexOf", "(II)I"⟩ ∈ px_tb := px_in (px_t3 (List.mem_of_getElem? (i := 52) rfl)) rfl
theorem w_605 : Cond.instanceMethod ⟨"java/lang/String", "indexOf", "(II)I"⟩ ∈ px_tb := px_in (px_t3 (List.mem_of_getElem? (i := 53) rfl)) rfl
theorem w_606 : Cond.selects "java/lang/String" ⟨"java/lang/String", "indexOf", "(II)I"⟩ ⟨"java/lang/String", "indexOf", "(II)I"⟩ ∈ px_tb := px_in (px_t3 (List.mem_of_getElem? (i := 54) rfl)) rfl
theorem w_608 : Cond.methodLink "java/lang/String" 505 ⟨"java/lang/String", "length", "()I"⟩ ∈ px_tb := px_in (px_t3 (List.mem_of_getElem? (i := 56) rfl)) rfl
theorem w_609 : Cond.methodLink "java/lang/String" 637 ⟨"java/lang/StringLatin1", "indexOf", "([BIII)I"⟩ ∈ px_tb := px_in (px_t3 (List.mem_of_getElem? (i := 57) rfl)) rfl
theorem w_610 : Cond.static ⟨"java/lang/StringLatin1", "indexOf", "([BIII)I"⟩ ∈ px_tb := px_in (px_t3 (List.mem_of_getElem? (i := 58) rfl)) rfl
theorem w_612 : Cond.methodLink "java/lang/StringLatin1" 88 ⟨"java/lang/StringLatin1", "canEncode", "(I)Z"⟩ ∈ px_tb := px_in (px_t3 (List.mem_of_getElem? (i := 60) rfl)) rfl
theorem w_613 : Cond.static ⟨"java/lang/StringLatin1", "canEncode", "(I)Z"⟩ ∈ px_tb := px_in (px_t3 (List.mem_of_getElem? (i := 61) rfl)) rfl
theorem w_615 : Cond.methodLink "java/lang/StringLatin1" 92 ⟨"java/lang/Math", "max", "(II)I"⟩ ∈ px_tb := px_in (px_t3 (List.mem_of_getElem? (i := 63) rfl)) rfl
theorem w_616 : Cond.methodLink "java/lang/StringLatin1" 38 ⟨"java/lang/Math", "min", "(II)I"⟩ ∈ px_tb := px_in (px_t3 (List.mem_of_getElem? (i := 64) rfl)) rfl
theorem w_617 : Cond.methodLink "java/lang/StringLatin1" 95 ⟨"java/lang/StringLatin1", "indexOfChar", "([BIII)I"⟩ ∈ px_tb := px_in (px_t3 (List.mem_of_getElem? (i := 65) rfl)) rfl
theorem w_618 : Cond.static ⟨"java/lang/StringLatin1", "indexOfChar", "([BIII)I"⟩ ∈ px_tb := px_in (px_t3 (List.mem_of_getElem? (i := 66) rfl)) rfl
theorem w_620 : Cond.methodLink "java/lang/String" 640 ⟨"java/lang/StringUTF16", "indexOf", "([BIII)I"⟩ ∈ px_tb := px_in (px_t3 (List.mem_of_getElem? (i := 68) rfl)) rfl
theorem w_621 : Cond.static ⟨"java/lang/StringUTF16", "indexOf", "([BIII)I"⟩ ∈ px_tb := px_in (px_t3 (List.mem_of_getElem? (i := 69) rfl)) rfl
theorem w_623 : Cond.methodLink "java/lang/StringUTF16" 224 ⟨"java/lang/Math", "max", "(II)I"⟩ ∈ px_tb := px_in (px_t3 (List.mem_of_getElem? (i := 71) rfl)) rfl
theorem w_624 : Cond.methodLink "java/lang/StringUTF16" 183 ⟨"java/lang/Math", "min", "(II)I"⟩ ∈ px_tb := px_in (px_t3 (List.mem_of_getElem? (i := 72) rfl)) rfl
theorem w_625 : Cond.constant "java/lang/StringUTF16" 227 65536 ∈ px_tb := px_in (px_t3 (List.mem_of_getElem? (i := 73) rfl)) rfl
theorem w_626 : Cond.methodLink "java/lang/StringUTF16" 228 ⟨"java/lang/StringUTF16", "indexOfChar", "([BIII)I"⟩ ∈ px_tb := px_in (px_t3 (List.mem_of_getElem? (i := 74) rfl)) rfl
theorem w_627 : Cond.static ⟨"java/lang/StringUTF16", "indexOfChar", "([BIII)I"⟩ ∈ px_tb := px_in (px_t3 (List.mem_of_getElem? (i := 75) rfl)) rfl
theorem w_629 : Cond.methodLink "java/lang/StringUTF16" 96 ⟨"java/lang/StringUTF16", "checkBoundsBeginEnd", "(II[B)V"⟩ ∈ px_tb := px_in (px_t3 (List.mem_of_getElem? (i := 77) rfl)) rfl
theorem w_630 : Cond.static ⟨"java/lang/StringUTF16", "checkBoundsBeginEnd", "(II[B)V"⟩ ∈ px_tb := px_in (px_t3 (List.mem_of_getElem? (i := 78) rfl)) rfl
theorem w_632 : Cond.methodLink "java/lang/StringUTF16" 241 ⟨"java/lang/String", "checkBoundsBeginEnd", "(III)V"⟩ ∈ px_tb := px_in (px_t3 (List.mem_of_getElem? (i := 80) rfl)) rfl
theorem w_633 : Cond.static ⟨"java/lang/String", "checkBoundsBeginEnd", "(III)V"⟩ ∈ px_tb := px_in (px_t3 (List.mem_of_getElem? (i := 81) rfl)) rfl
theorem w_635 : Cond.methodLink "java/lang/String" 1062 ⟨"jdk/internal/util/Preconditions", "checkFromToIndex", "(IIILjava/util/function/BiFunction;)I"⟩ ∈ px_tb := px_in (px_t3 (List.mem_of_getElem? (i := 83) rfl)) rfl
theorem w_636 : Cond.static ⟨"jdk/internal/util/Preconditions", "checkFromToIndex", "(IIILjava/util/function/BiFunction;)I"⟩ ∈ px_tb := px_in (px_t3 (List.mem_of_getElem? (i := 84) rfl)) rfl
theorem w_638 : Cond.methodLink "java/lang/StringUTF16" 244 ⟨"java/lang/StringUTF16", "indexOfCharUnsafe", "([BIII)I"⟩ ∈ px_tb := px_in (px_t3 (List.mem_of_getElem? (i := 86) rfl)) rfl
theorem w_639 : Cond.static ⟨"java/lang/StringUTF16", "indexOfCharUnsafe", "([BIII)I"⟩ ∈ px_tb := px_in (px_t3 (List.mem_of_getElem? (i := 87) rfl)) rfl
theorem w_641 : Cond.methodLink "java/lang/StringUTF16" 232 ⟨"java/lang/StringUTF16", "indexOfSupplementary", "([BIII)I"⟩ ∈ px_tb := px_in (px_t3 (List.mem_of_getElem? (i := 89) rfl)) rfl
theorem w_642 : Cond.static ⟨"java/lang/StringUTF16", "indexOfSupplementary", "([BIII)I"⟩ ∈ px_tb := px_in (px_t3 (List.mem_of_getElem? (i := 90) rfl)) rfl
theorem w_644 : Cond.methodLink "java/lang/StringUTF16" 164 ⟨"java/lang/Character", "isValidCodePoint", "(I)Z"⟩ ∈ px_tb := px_in (px_t3 (List.mem_of_getElem? (i := 92) rfl)) rfl
theorem w_645 : Cond.static ⟨"java/lang/Character", "isValidCodePoint", "(I)Z"⟩ ∈ px_tb := px_in (px_t3 (List.mem_of_getElem? (i := 93) rfl)) rfl
theorem w_647 : Cond.methodLink "java/lang/StringUTF16" 157 ⟨"java/lang/Character", "highSurrogate", "(I)C"⟩ ∈ px_tb := px_in (px_t3 (List.mem_of_getElem? (i := 95) rfl)) rfl
theorem w_648 : Cond.static ⟨"java/lang/Character", "highSurrogate", "(I)C"⟩ ∈ px_tb := px_in (px_t3 (List.mem_of_getElem? (i := 96) rfl)) rfl
theorem w_650 : Cond.constant "java/lang/Character" 110 55232 ∈ px_tb := px_in (px_t3 (List.mem_of_getElem? (i := 98) rfl)) rfl
theorem w_651 : Cond.methodLink "java/lang/StringUTF16" 161 ⟨"java/lang/Character", "lowSurrogate", "(I)C"⟩ ∈ px_tb := px_in (px_t3 (List.mem_of_getElem? (i := 99) rfl)) rfl
theorem w_652 : Cond.static ⟨"java/lang/Character", "lowSurrogate", "(I)C"⟩ ∈ px_tb := px_in (px_t3 (List.mem_of_getElem? (i := 100) rfl)) rfl
theorem w_654 : Cond.constant "java/lang/Character" 76 56320 ∈ px_tb := px_in (px_t3 (List.mem_of_getElem? (i := 102) rfl)) rfl
theorem w_656 : Cond.methodLink "TubeChain$Scaffold" 73 ⟨"TubeChain$Scaffold", "emit", "(I)Z"⟩ ∈ px_tb := px_in (px_t3 (List.mem_of_getElem? (i := 104) rfl)) rfl
theorem w_658 : Cond.instanceMethod ⟨"TubeChain$Scaffold", "emit", "(I)Z"⟩ ∈ px_tb := px_in (px_t3 (List.mem_of_getElem? (i := 106) rfl)) rfl
theorem w_660 : Cond.arrayClass .byte ∈ px_tb := px_in (px_t3 (List.mem_of_getElem? (i := 108) rfl)) rfl
theorem w_661 : Cond.methodLink "TubeChainLaw" 45 ⟨"TubeChain", "told", "(I)I"⟩ ∈ px_tb := px_in (px_t3 (List.mem_of_getElem? (i := 109) rfl)) rfl
theorem w_662 : Cond.instanceMethod ⟨"TubeChain", "told", "(I)I"⟩ ∈ px_tb := px_in (px_t3 (List.mem_of_getElem? (i := 110) rfl)) rfl
theorem w_663 : Cond.selects "TubeChain" ⟨"TubeChain", "told", "(I)I"⟩ ⟨"TubeChain", "told", "(I)I"⟩ ∈ px_tb := px_in (px_t3 (List.mem_of_getElem? (i := 111) rfl)) rfl
theorem w_665 : Cond.methodLink "TubeChainLaw" 49 ⟨"TubeChain", "up", "(I)I"⟩ ∈ px_tb := px_in (px_t3 (List.mem_of_getElem? (i := 113) rfl)) rfl
theorem w_666 : Cond.instanceMethod ⟨"TubeChain", "up", "(I)I"⟩ ∈ px_tb := px_in (px_t3 (List.mem_of_getElem? (i := 114) rfl)) rfl
theorem w_667 : Cond.selects "TubeChain" ⟨"TubeChain", "up", "(I)I"⟩ ⟨"TubeChain", "up", "(I)I"⟩ ∈ px_tb := px_in (px_t3 (List.mem_of_getElem? (i := 115) rfl)) rfl
theorem w_669 : Cond.methodLink "TubeChain" 175 ⟨"TubeChain", "isNoBeat", "(I)Z"⟩ ∈ px_tb := px_in (px_t3 (List.mem_of_getElem? (i := 117) rfl)) rfl
theorem w_670 : Cond.static ⟨"TubeChain", "isNoBeat", "(I)Z"⟩ ∈ px_tb := px_in (px_t3 (List.mem_of_getElem? (i := 118) rfl)) rfl
theorem w_672 : Cond.constant "TubeChain" 178 999999 ∈ px_tb := px_in (px_t3 (List.mem_of_getElem? (i := 120) rfl)) rfl
theorem w_673 : Cond.methodLink "TubeChain" 179 ⟨"TubeChain$Site", "throwTube", "(I)I"⟩ ∈ px_tb := px_in (px_t3 (List.mem_of_getElem? (i := 121) rfl)) rfl
theorem w_674 : Cond.instanceMethod ⟨"TubeChain$Site", "throwTube", "(I)I"⟩ ∈ px_tb := px_in (px_t3 (List.mem_of_getElem? (i := 122) rfl)) rfl
theorem w_675 : Cond.selects "TubeChain$Site" ⟨"TubeChain$Site", "throwTube", "(I)I"⟩ ⟨"TubeChain$Site", "throwTube", "(I)I"⟩ ∈ px_tb := px_in (px_t3 (List.mem_of_getElem? (i := 123) rfl)) rfl
theorem w_677 : Cond.methodLink "TubeChain$Site" 88 ⟨"TubeChain$Man", "slips", "(I)Z"⟩ ∈ px_tb := px_in (px_t3 (List.mem_of_getElem? (i := 125) rfl)) rfl
theorem w_678 : Cond.instanceMethod ⟨"TubeChain$Man", "slips", "(I)Z"⟩ ∈ px_tb := px_in (px_t3 (List.mem_of_getElem? (i := 126) rfl)) rfl
theorem w_679 : Cond.selects "TubeChain$Man" ⟨"TubeChain$Man", "slips", "(I)Z"⟩ ⟨"TubeChain$Man", "slips", "(I)Z"⟩ ∈ px_tb := px_in (px_t3 (List.mem_of_getElem? (i := 127) rfl)) rfl
theorem w_680 : Cond.sameMethod "TubeChain$Man" "TubeChain$Man" "slips" "(I)Z" ∈ px_tb := px_in (px_t3 (List.mem_of_getElem? (i := 128) rfl)) rfl
theorem w_681 : Cond.selects "TubeChain$Calling" ⟨"TubeChain$Man", "slips", "(I)Z"⟩ ⟨"TubeChain$Man", "slips", "(I)Z"⟩ ∈ px_tb := px_in (px_t3 (List.mem_of_getElem? (i := 129) rfl)) rfl
theorem w_682 : Cond.selects "TubeChain$Gloved" ⟨"TubeChain$Man", "slips", "(I)Z"⟩ ⟨"TubeChain$Man", "slips", "(I)Z"⟩ ∈ px_tb := px_in (px_t3 (List.mem_of_getElem? (i := 130) rfl)) rfl
theorem w_683 : Cond.selects "TubeChain$Slipping" ⟨"TubeChain$Man", "slips", "(I)Z"⟩ ⟨"TubeChain$Slipping", "slips", "(I)Z"⟩ ∈ px_tb := px_in (px_t3 (List.mem_of_getElem? (i := 131) rfl)) rfl
theorem w_684 : Cond.instanceMethod ⟨"TubeChain$Slipping", "slips", "(I)Z"⟩ ∈ px_tb := px_in (px_t3 (List.mem_of_getElem? (i := 132) rfl)) rfl
theorem w_686 : Cond.selects "TubeChain$Strong" ⟨"TubeChain$Man", "slips", "(I)Z"⟩ ⟨"TubeChain$Man", "slips", "(I)Z"⟩ ∈ px_tb := px_in (px_t3 (List.mem_of_getElem? (i := 134) rfl)) rfl
theorem w_687 : Cond.selects "TubeChain$Tiring" ⟨"TubeChain$Man", "slips", "(I)Z"⟩ ⟨"TubeChain$Man", "slips", "(I)Z"⟩ ∈ px_tb := px_in (px_t3 (List.mem_of_getElem? (i := 135) rfl)) rfl
theorem w_688 : Cond.selects "TubeChain$Told" ⟨"TubeChain$Man", "slips", "(I)Z"⟩ ⟨"TubeChain$Man", "slips", "(I)Z"⟩ ∈ px_tb := px_in (px_t3 (List.mem_of_getElem? (i := 136) rfl)) rfl
theorem w_690 : Cond.methodLink "TubeChain$Site" 92 ⟨"TubeChain$Site", "holdsAt", "(I)I"⟩ ∈ px_tb := px_in (px_t3 (List.mem_of_getElem? (i := 138) rfl)) rfl
theorem w_691 : Cond.methodLink "TubeChain" 182 ⟨"TubeChain$Site", "capHeld", "()V"⟩ ∈ px_tb := px_in (px_t3 (List.mem_of_getElem? (i := 139) rfl)) rfl
theorem w_692 : Cond.instanceMethod ⟨"TubeChain$Site", "capHeld", "()V"⟩ ∈ px_tb := px_in (px_t3 (List.mem_of_getElem? (i := 140) rfl)) rfl
theorem w_693 : Cond.selects "TubeChain$Site" ⟨"TubeChain$Site", "capHeld", "()V"⟩ ⟨"TubeChain$Site", "capHeld", "()V"⟩ ∈ px_tb := px_in (px_t3 (List.mem_of_getElem? (i := 141) rfl)) rfl
theorem w_695 : Cond.methodLink "TubeChain$Site" 99 ⟨"java/lang/Math", "min", "(II)I"⟩ ∈ px_tb := px_in (px_t3 (List.mem_of_getElem? (i := 143) rfl)) rfl
theorem w_696 : Cond.methodLink "TubeChainLaw" 53 ⟨"TubeChain", "pause", "(I)I"⟩ ∈ px_tb := px_in (px_t3 (List.mem_of_getElem? (i := 144) rfl)) rfl
theorem w_697 : Cond.instanceMethod ⟨"TubeChain", "pause", "(I)I"⟩ ∈ px_tb := px_in (px_t3 (List.mem_of_getElem? (i := 145) rfl)) rfl
theorem w_698 : Cond.selects "TubeChain" ⟨"TubeChain", "pause", "(I)I"⟩ ⟨"TubeChain", "pause", "(I)I"⟩ ∈ px_tb := px_in (px_t3 (List.mem_of_getElem? (i := 146) rfl)) rfl
theorem w_700 : Cond.methodLink "TubeChainLaw" 57 ⟨"TubeChain", "on", "(III)I"⟩ ∈ px_tb := px_in (px_t3 (List.mem_of_getElem? (i := 148) rfl)) rfl
theorem w_701 : Cond.instanceMethod ⟨"TubeChain", "on", "(III)I"⟩ ∈ px_tb := px_in (px_t3 (List.mem_of_getElem? (i := 149) rfl)) rfl
theorem w_702 : Cond.selects "TubeChain" ⟨"TubeChain", "on", "(III)I"⟩ ⟨"TubeChain", "on", "(III)I"⟩ ∈ px_tb := px_in (px_t3 (List.mem_of_getElem? (i := 150) rfl)) rfl
theorem w_704 : Cond.methodLink "TubeChain" 185 ⟨"TubeChain$Trial", "startFrom", "(LTubeChain$Site;)V"⟩ ∈ px_tb := px_in (px_t3 (List.mem_of_getElem? (i := 152) rfl)) rfl
theorem w_705 : Cond.instanceMethod ⟨"TubeChain$Trial", "startFrom", "(LTubeChain$Site;)V"⟩ ∈ px_tb := px_in (px_t3 (List.mem_of_getElem? (i := 153) rfl)) rfl
theorem w_706 : Cond.selects "TubeChain$Trial" ⟨"TubeChain$Trial", "startFrom", "(LTubeChain$Site;)V"⟩ ⟨"TubeChain$Trial", "startFrom", "(LTubeChain$Site;)V"⟩ ∈ px_tb := px_in (px_t3 (List.mem_of_getElem? (i := 154) rfl)) rfl
theorem w_708 : Cond.methodLink "TubeChain$Trial" 22 ⟨"TubeChain$Site", "copyChain", "(LTubeChain$Site;)V"⟩ ∈ px_tb := px_in (px_t3 (List.mem_of_getElem? (i := 156) rfl)) rfl
theorem w_709 : Cond.instanceMethod ⟨"TubeChain$Site", "copyChain", "(LTubeChain$Site;)V"⟩ ∈ px_tb := px_in (px_t3 (List.mem_of_getElem? (i := 157) rfl)) rfl
theorem w_710 : Cond.selects "TubeChain$Site" ⟨"TubeChain$Site", "copyChain", "(LTubeChain$Site;)V"⟩ ⟨"TubeChain$Site", "copyChain", "(LTubeChain$Site;)V"⟩ ∈ px_tb := px_in (px_t3 (List.mem_of_getElem? (i := 158) rfl)) rfl
theorem w_712 : Cond.methodLink "TubeChain" 189 ⟨"TubeChain$Trial", "throwTubes", "(II)V"⟩ ∈ px_tb := px_in (px_t3 (List.mem_of_getElem? (i := 160) rfl)) rfl
theorem w_713 : Cond.instanceMethod ⟨"TubeChain$Trial", "throwTubes", "(II)V"⟩ ∈ px_tb := px_in (px_t3 (List.mem_of_getElem? (i := 161) rfl)) rfl
theorem w_714 : Cond.selects "TubeChain$Trial" ⟨"TubeChain$Trial", "throwTubes", "(II)V"⟩ ⟨"TubeChain$Trial", "throwTubes", "(II)V"⟩ ∈ px_tb := px_in (px_t3 (List.mem_of_getElem? (i := 162) rfl)) rfl
theorem w_716 : Cond.methodLink "TubeChain$Trial" 28 ⟨"java/util/Arrays", "fill", "([II)V"⟩ ∈ px_tb := px_in (px_t3 (List.mem_of_getElem? (i := 164) rfl)) rfl
theorem w_717 : Cond.static ⟨"java/util/Arrays", "fill", "([II)V"⟩ ∈ px_tb := px_in (px_t3 (List.mem_of_getElem? (i := 165) rfl)) rfl
theorem w_719 : Cond.methodLink "TubeChain$Trial" 47 ⟨"TubeChain$Site", "throwTube", "(I)I"⟩ ∈ px_tb := px_in (px_t3 (List.mem_of_getElem? (i := 167) rfl)) rfl
theorem w_720 : Cond.methodLink "TubeChain$Trial" 51 ⟨"java/lang/Math", "max", "(II)I"⟩ ∈ px_tb := px_in (px_t3 (List.mem_of_getElem? (i := 168) rfl)) rfl
theorem w_721 : Cond.methodLink "TubeChain$Trial" 57 ⟨"TubeChain$Trial", "blame", "(I)V"⟩ ∈ px_tb := px_in (px_t3 (List.mem_of_getElem? (i := 169) rfl)) rfl
theorem w_723 : Cond.instanceMethod ⟨"TubeChain$Trial", "blame", "(I)V"⟩ ∈ px_tb := px_in (px_t3 (List.mem_of_getElem? (i := 171) rfl)) rfl
theorem w_725 : Cond.methodLink "TubeChain" 196 ⟨"TubeChain$Trial", "clumsiest", "()I"⟩ ∈ px_tb := px_in (px_t3 (List.mem_of_getElem? (i := 173) rfl)) rfl
theorem w_726 : Cond.instanceMethod ⟨"TubeChain$Trial", "clumsiest", "()I"⟩ ∈ px_tb := px_in (px_t3 (List.mem_of_getElem? (i := 174) rfl)) rfl
theorem w_727 : Cond.selects "TubeChain$Trial" ⟨"TubeChain$Trial", "clumsiest", "()I"⟩ ⟨"TubeChain$Trial", "clumsiest", "()I"⟩ ∈ px_tb := px_in (px_t3 (List.mem_of_getElem? (i := 175) rfl)) rfl
theorem w_729 : Cond.methodLink "TubeChainLaw" 61 ⟨"TubeChain", "safe", "(I)I"⟩ ∈ px_tb := px_in (px_t3 (List.mem_of_getElem? (i := 177) rfl)) rfl
theorem w_730 : Cond.instanceMethod ⟨"TubeChain", "safe", "(I)I"⟩ ∈ px_tb := px_in (px_t3 (List.mem_of_getElem? (i := 178) rfl)) rfl
theorem w_731 : Cond.selects "TubeChain" ⟨"TubeChain", "safe", "(I)I"⟩ ⟨"TubeChain", "safe", "(I)I"⟩ ∈ px_tb := px_in (px_t3 (List.mem_of_getElem? (i := 179) rfl)) rfl
theorem w_733 : Cond.methodLink "TubeChain" 202 ⟨"TubeChain$Trial", "leastSafeBelow", "(II)I"⟩ ∈ px_tb := px_in (px_t3 (List.mem_of_getElem? (i := 181) rfl)) rfl
theorem w_734 : Cond.instanceMethod ⟨"TubeChain$Trial", "leastSafeBelow", "(II)I"⟩ ∈ px_tb := px_in (px_t3 (List.mem_of_getElem? (i := 182) rfl)) rfl
theorem w_735 : Cond.selects "TubeChain$Trial" ⟨"TubeChain$Trial", "leastSafeBelow", "(II)I"⟩ ⟨"TubeChain$Trial", "leastSafeBelow", "(II)I"⟩ ∈ px_tb := px_in (px_t3 (List.mem_of_getElem? (i := 183) rfl)) rfl
theorem w_737 : Cond.methodLink "TubeChain$Trial" 61 ⟨"TubeChain$Trial", "noneFalls", "(IIII)Z"⟩ ∈ px_tb := px_in (px_t3 (List.mem_of_getElem? (i := 185) rfl)) rfl
theorem w_738 : Cond.instanceMethod ⟨"TubeChain$Trial", "noneFalls", "(IIII)Z"⟩ ∈ px_tb := px_in (px_t3 (List.mem_of_getElem? (i := 186) rfl)) rfl
theorem w_739 : Cond.selects "TubeChain$Trial" ⟨"TubeChain$Trial", "noneFalls", "(IIII)Z"⟩ ⟨"TubeChain$Trial", "noneFalls", "(IIII)Z"⟩ ∈ px_tb := px_in (px_t3 (List.mem_of_getElem? (i := 187) rfl)) rfl
theorem w_741 : Cond.methodLink "TubeChainLaw" 65 ⟨"TubeChain", "best", "(II)I"⟩ ∈ px_tb := px_in (px_t3 (List.mem_of_getElem? (i := 189) rfl)) rfl
theorem w_742 : Cond.instanceMethod ⟨"TubeChain", "best", "(II)I"⟩ ∈ px_tb := px_in (px_t3 (List.mem_of_getElem? (i := 190) rfl)) rfl
theorem w_743 : Cond.selects "TubeChain" ⟨"TubeChain", "best", "(II)I"⟩ ⟨"TubeChain", "best", "(II)I"⟩ ∈ px_tb := px_in (px_t3 (List.mem_of_getElem? (i := 191) rfl)) rfl
theorem w_745 : Cond.methodLink "TubeChainLaw" 69 ⟨"TubeChain", "slowest", "()I"⟩ ∈ px_tb := px_in (px_t3 (List.mem_of_getElem? (i := 193) rfl)) rfl
theorem w_746 : Cond.instanceMethod ⟨"TubeChain", "slowest", "()I"⟩ ∈ px_tb := px_in (px_t3 (List.mem_of_getElem? (i := 194) rfl)) rfl
theorem w_747 : Cond.selects "TubeChain" ⟨"TubeChain", "slowest", "()I"⟩ ⟨"TubeChain", "slowest", "()I"⟩ ∈ px_tb := px_in (px_t3 (List.mem_of_getElem? (i := 195) rfl)) rfl
theorem w_749 : Cond.methodLink "TubeChainLaw" 73 ⟨"TubeChain", "order", "(II)I"⟩ ∈ px_tb := px_in (px_t3 (List.mem_of_getElem? (i := 197) rfl)) rfl
theorem w_750 : Cond.instanceMethod ⟨"TubeChain", "order", "(II)I"⟩ ∈ px_tb := px_in (px_t3 (List.mem_of_getElem? (i := 198) rfl)) rfl
theorem w_751 : Cond.selects "TubeChain" ⟨"TubeChain", "order", "(II)I"⟩ ⟨"TubeChain", "order", "(II)I"⟩ ∈ px_tb := px_in (px_t3 (List.mem_of_getElem? (i := 199) rfl)) rfl
theorem w_753 : Cond.methodLink "TubeChain" 209 ⟨"TubeChain$Site", "lineUpByNumber", "()V"⟩ ∈ px_tb := px_in (px_t3 (List.mem_of_getElem? (i := 201) rfl)) rfl
theorem w_754 : Cond.instanceMethod ⟨"TubeChain$Site", "lineUpByNumber", "()V"⟩ ∈ px_tb := px_in (px_t3 (List.mem_of_getElem? (i := 202) rfl)) rfl
theorem w_755 : Cond.selects "TubeChain$Site" ⟨"TubeChain$Site", "lineUpByNumber", "()V"⟩ ⟨"TubeChain$Site", "lineUpByNumber", "()V"⟩ ∈ px_tb := px_in (px_t3 (List.mem_of_getElem? (i := 203) rfl)) rfl
theorem w_757 : Cond.methodLink "TubeChain" 212 ⟨"java/lang/System", "arraycopy", "(Ljava/lang/Object;ILjava/lang/Object;II)V"⟩ ∈ px_tb := px_in (px_t3 (List.mem_of_getElem? (i := 205) rfl)) rfl
theorem w_758 : Cond.methodLink "TubeChain" 218 ⟨"TubeChain$Site", "lineUpNext", "()Z"⟩ ∈ px_tb := px_in (px_t3 (List.mem_of_getElem? (i := 206) rfl)) rfl
theorem w_759 : Cond.instanceMethod ⟨"TubeChain$Site", "lineUpNext", "()Z"⟩ ∈ px_tb := px_in (px_t3 (List.mem_of_getElem? (i := 207) rfl)) rfl
theorem w_760 : Cond.selects "TubeChain$Site" ⟨"TubeChain$Site", "lineUpNext", "()Z"⟩ ⟨"TubeChain$Site", "lineUpNext", "()Z"⟩ ∈ px_tb := px_in (px_t3 (List.mem_of_getElem? (i := 208) rfl)) rfl
theorem w_762 : Cond.methodLink "TubeChain$Site" 72 ⟨"TubeChain$Site", "exchange", "(II)V"⟩ ∈ px_tb := px_in (px_t3 (List.mem_of_getElem? (i := 210) rfl)) rfl
theorem w_763 : Cond.instanceMethod ⟨"TubeChain$Site", "exchange", "(II)V"⟩ ∈ px_tb := px_in (px_t3 (List.mem_of_getElem? (i := 211) rfl)) rfl
theorem w_764 : Cond.selects "TubeChain$Site" ⟨"TubeChain$Site", "exchange", "(II)V"⟩ ⟨"TubeChain$Site", "exchange", "(II)V"⟩ ∈ px_tb := px_in (px_t3 (List.mem_of_getElem? (i := 212) rfl)) rfl
theorem w_766 : Cond.methodLink "TubeChainLaw" 77 ⟨"TubeChain", "without", "(III)I"⟩ ∈ px_tb := px_in (px_t3 (List.mem_of_getElem? (i := 214) rfl)) rfl
theorem w_767 : Cond.instanceMethod ⟨"TubeChain", "without", "(III)I"⟩ ∈ px_tb := px_in (px_t3 (List.mem_of_getElem? (i := 215) rfl)) rfl
theorem w_768 : Cond.selects "TubeChain" ⟨"TubeChain", "without", "(III)I"⟩ ⟨"TubeChain", "without", "(III)I"⟩ ∈ px_tb := px_in (px_t3 (List.mem_of_getElem? (i := 216) rfl)) rfl
theorem w_770 : Cond.methodLink "TubeChain" 222 ⟨"TubeChain", "isNoCount", "(I)Z"⟩ ∈ px_tb := px_in (px_t3 (List.mem_of_getElem? (i := 218) rfl)) rfl
theorem w_771 : Cond.static ⟨"TubeChain", "isNoCount", "(I)Z"⟩ ∈ px_tb := px_in (px_t3 (List.mem_of_getElem? (i := 219) rfl)) rfl
theorem w_773 : Cond.methodLink "TubeChainLaw" 81 ⟨"TubeChain", "pulley", "(II)I"⟩ ∈ px_tb := px_in (px_t3 (List.mem_of_getElem? (i := 221) rfl)) rfl
theorem w_774 : Cond.instanceMethod ⟨"TubeChain", "pulley", "(II)I"⟩ ∈ px_tb := px_in (px_t3 (List.mem_of_getElem? (i := 222) rfl)) rfl
theorem w_775 : Cond.selects "TubeChain" ⟨"TubeChain", "pulley", "(II)I"⟩ ⟨"TubeChain", "pulley", "(II)I"⟩ ∈ px_tb := px_in (px_t3 (List.mem_of_getElem? (i := 223) rfl)) rfl
theorem w_777 : Cond.constant "TubeChain" 225 (-100002) ∈ px_tb := px_in (px_t3 (List.mem_of_getElem? (i := 225) rfl)) rfl
theorem w_778 : Cond.methodLink "TubeChain" 226 ⟨"TubeChain", "pulleyLoses", "(II)I"⟩ ∈ px_tb := px_in (px_t3 (List.mem_of_getElem? (i := 226) rfl)) rfl
theorem w_780 : Cond.instanceMethod ⟨"TubeChain", "pulleyLoses", "(II)I"⟩ ∈ px_tb := px_in (px_t3 (List.mem_of_getElem? (i := 228) rfl)) rfl
theorem w_782 : Cond.constant "TubeChain" 232 (-100001) ∈ px_tb := px_in (px_t3 (List.mem_of_getElem? (i := 230) rfl)) rfl
theorem w_783 : Cond.methodLink "TubeChainLaw" 85 ⟨"TubeChain", "from", "(I)I"⟩ ∈ px_tb := px_in (px_t3 (List.mem_of_getElem? (i := 231) rfl)) rfl
theorem w_784 : Cond.instanceMethod ⟨"TubeChain", "from", "(I)I"⟩ ∈ px_tb := px_in (px_t3 (List.mem_of_getElem? (i := 232) rfl)) rfl
theorem w_785 : Cond.selects "TubeChain" ⟨"TubeChain", "from", "(I)I"⟩ ⟨"TubeChain", "from", "(I)I"⟩ ∈ px_tb := px_in (px_t3 (List.mem_of_getElem? (i := 233) rfl)) rfl
theorem w_787 : Cond.methodLink "TubeChainLaw" 89 ⟨"TubeChain", "rested", "(III)I"⟩ ∈ px_tb := px_in (px_t3 (List.mem_of_getElem? (i := 235) rfl)) rfl
theorem w_788 : Cond.instanceMethod ⟨"TubeChain", "rested", "(III)I"⟩ ∈ px_tb := px_in (px_t3 (List.mem_of_getElem? (i := 236) rfl)) rfl
theorem w_789 : Cond.selects "TubeChain" ⟨"TubeChain", "rested", "(III)I"⟩ ⟨"TubeChain", "rested", "(III)I"⟩ ∈ px_tb := px_in (px_t3 (List.mem_of_getElem? (i := 237) rfl)) rfl
theorem w_791 : Cond.methodLink "TubeChain" 233 ⟨"TubeChain$Trial", "noneFalls", "(IIII)Z"⟩ ∈ px_tb := px_in (px_t3 (List.mem_of_getElem? (i := 239) rfl)) rfl
theorem w_792 : Cond.methodLink "TubeChainLaw" 93 ⟨"TubeChain", "change", "(II)I"⟩ ∈ px_tb := px_in (px_t4 (List.mem_of_getElem? (i := 0) rfl)) rfl
theorem w_793 : Cond.instanceMethod ⟨"TubeChain", "change", "(II)I"⟩ ∈ px_tb := px_in (px_t4 (List.mem_of_getElem? (i := 1) rfl)) rfl
theorem w_794 : Cond.selects "TubeChain" ⟨"TubeChain", "change", "(II)I"⟩ ⟨"TubeChain", "change", "(II)I"⟩ ∈ px_tb := px_in (px_t4 (List.mem_of_getElem? (i := 2) rfl)) rfl
theorem w_796 : Cond.methodLink "TubeChain" 237 ⟨"TubeChain$Site", "exchange", "(II)V"⟩ ∈ px_tb := px_in (px_t4 (List.mem_of_getElem? (i := 4) rfl)) rfl
theorem w_797 : Cond.methodLink "TubeChainLaw" 97 ⟨"TubeChain", "see", "(I)I"⟩ ∈ px_tb := px_in (px_t4 (List.mem_of_getElem? (i := 5) rfl)) rfl
theorem w_798 : Cond.instanceMethod ⟨"TubeChain", "see", "(I)I"⟩ ∈ px_tb := px_in (px_t4 (List.mem_of_getElem? (i := 6) rfl)) rfl
theorem w_799 : Cond.selects "TubeChain" ⟨"TubeChain", "see", "(I)I"⟩ ⟨"TubeChain", "see", "(I)I"⟩ ∈ px_tb := px_in (px_t4 (List.mem_of_getElem? (i := 7) rfl)) rfl
theorem w_801 : Cond.methodLink "TubeChainLaw" 101 ⟨"TubeChain", "who", "(I)I"⟩ ∈ px_tb := px_in (px_t4 (List.mem_of_getElem? (i := 9) rfl)) rfl
theorem w_802 : Cond.instanceMethod ⟨"TubeChain", "who", "(I)I"⟩ ∈ px_tb := px_in (px_t4 (List.mem_of_getElem? (i := 10) rfl)) rfl
theorem w_803 : Cond.selects "TubeChain" ⟨"TubeChain", "who", "(I)I"⟩ ⟨"TubeChain", "who", "(I)I"⟩ ∈ px_tb := px_in (px_t4 (List.mem_of_getElem? (i := 11) rfl)) rfl
theorem w_805 : Cond.methodLink "TubeChain" 246 ⟨"TubeChain$Site", "seenAsBits", "()I"⟩ ∈ px_tb := px_in (px_t4 (List.mem_of_getElem? (i := 13) rfl)) rfl
theorem w_806 : Cond.instanceMethod ⟨"TubeChain$Site", "seenAsBits", "()I"⟩ ∈ px_tb := px_in (px_t4 (List.mem_of_getElem? (i := 14) rfl)) rfl
theorem w_807 : Cond.selects "TubeChain$Site" ⟨"TubeChain$Site", "seenAsBits", "()I"⟩ ⟨"TubeChain$Site", "seenAsBits", "()I"⟩ ∈ px_tb := px_in (px_t4 (List.mem_of_getElem? (i := 15) rfl)) rfl
theorem w_809 : Cond.methodLink "TubeChain" 249 ⟨"TubeChain", "startWithTired", "(I)V"⟩ ∈ px_tb := px_in (px_t4 (List.mem_of_getElem? (i := 17) rfl)) rfl
theorem w_811 : Cond.instanceMethod ⟨"TubeChain", "startWithTired", "(I)V"⟩ ∈ px_tb := px_in (px_t4 (List.mem_of_getElem? (i := 19) rfl)) rfl
theorem w_813 : Cond.methodLink "TubeChainLaw" 105 ⟨"TubeChain", "odds", "(III)J"⟩ ∈ px_tb := px_in (px_t4 (List.mem_of_getElem? (i := 21) rfl)) rfl
theorem w_814 : Cond.instanceMethod ⟨"TubeChain", "odds", "(III)J"⟩ ∈ px_tb := px_in (px_t4 (List.mem_of_getElem? (i := 22) rfl)) rfl
theorem w_815 : Cond.selects "TubeChain" ⟨"TubeChain", "odds", "(III)J"⟩ ⟨"TubeChain", "odds", "(III)J"⟩ ∈ px_tb := px_in (px_t4 (List.mem_of_getElem? (i := 23) rfl)) rfl
theorem w_817 : Cond.methodLink "TubeChain" 252 ⟨"TubeChain", "isNoPart", "(I)Z"⟩ ∈ px_tb := px_in (px_t4 (List.mem_of_getElem? (i := 25) rfl)) rfl
theorem w_818 : Cond.static ⟨"TubeChain", "isNoPart", "(I)Z"⟩ ∈ px_tb := px_in (px_t4 (List.mem_of_getElem? (i := 26) rfl)) rfl
theorem w_820 : Cond.constantLong "TubeChain" 255 (-9223372036854775808) ∈ px_tb := px_in (px_t4 (List.mem_of_getElem? (i := 28) rfl)) rfl
theorem w_821 : Cond.methodLink "TubeChain" 257 ⟨"TubeChain", "partOfFraction", "(III)J"⟩ ∈ px_tb := px_in (px_t4 (List.mem_of_getElem? (i := 29) rfl)) rfl
theorem w_822 : Cond.static ⟨"TubeChain", "partOfFraction", "(III)J"⟩ ∈ px_tb := px_in (px_t4 (List.mem_of_getElem? (i := 30) rfl)) rfl
theorem w_824 : Cond.methodLink "TubeChainLaw" 110 ⟨"TubeChain", "mean", "(II)J"⟩ ∈ px_tb := px_in (px_t4 (List.mem_of_getElem? (i := 32) rfl)) rfl
theorem w_825 : Cond.instanceMethod ⟨"TubeChain", "mean", "(II)J"⟩ ∈ px_tb := px_in (px_t4 (List.mem_of_getElem? (i := 33) rfl)) rfl
theorem w_826 : Cond.selects "TubeChain" ⟨"TubeChain", "mean", "(II)J"⟩ ⟨"TubeChain", "mean", "(II)J"⟩ ∈ px_tb := px_in (px_t4 (List.mem_of_getElem? (i := 34) rfl)) rfl
theorem w_828 : Cond.methodLink "TubeChainLaw" 115 ⟨"TubeChain", "book", "(IZ)I"⟩ ∈ px_tb := px_in (px_t4 (List.mem_of_getElem? (i := 36) rfl)) rfl
theorem w_829 : Cond.instanceMethod ⟨"TubeChain", "book", "(IZ)I"⟩ ∈ px_tb := px_in (px_t4 (List.mem_of_getElem? (i := 37) rfl)) rfl
theorem w_830 : Cond.selects "TubeChain" ⟨"TubeChain", "book", "(IZ)I"⟩ ⟨"TubeChain", "book", "(IZ)I"⟩ ∈ px_tb := px_in (px_t4 (List.mem_of_getElem? (i := 38) rfl)) rfl
theorem w_832 : Cond.methodLink "TubeChainLaw" 120 ⟨"TubeChain", "looked", "(I)I"⟩ ∈ px_tb := px_in (px_t4 (List.mem_of_getElem? (i := 40) rfl)) rfl
theorem w_833 : Cond.instanceMethod ⟨"TubeChain", "looked", "(I)I"⟩ ∈ px_tb := px_in (px_t4 (List.mem_of_getElem? (i := 41) rfl)) rfl
theorem w_834 : Cond.selects "TubeChain" ⟨"TubeChain", "looked", "(I)I"⟩ ⟨"TubeChain", "looked", "(I)I"⟩ ∈ px_tb := px_in (px_t4 (List.mem_of_getElem? (i := 42) rfl)) rfl
theorem w_836 : Cond.methodLink "TubeChainLaw" 124 ⟨"TubeChain", "judge", "(II)I"⟩ ∈ px_tb := px_in (px_t4 (List.mem_of_getElem? (i := 44) rfl)) rfl
theorem w_837 : Cond.instanceMethod ⟨"TubeChain", "judge", "(II)I"⟩ ∈ px_tb := px_in (px_t4 (List.mem_of_getElem? (i := 45) rfl)) rfl
theorem w_838 : Cond.selects "TubeChain" ⟨"TubeChain", "judge", "(II)I"⟩ ⟨"TubeChain", "judge", "(II)I"⟩ ∈ px_tb := px_in (px_t4 (List.mem_of_getElem? (i := 46) rfl)) rfl
theorem w_840 : Cond.methodLink "TubeChain" 267 ⟨"TubeChain", "isNoTape", "(I)Z"⟩ ∈ px_tb := px_in (px_t4 (List.mem_of_getElem? (i := 48) rfl)) rfl
theorem w_841 : Cond.static ⟨"TubeChain", "isNoTape", "(I)Z"⟩ ∈ px_tb := px_in (px_t4 (List.mem_of_getElem? (i := 49) rfl)) rfl
theorem w_843 : Cond.methodLink "TubeChainLaw" 128 ⟨"TubeChain", "image", "()I"⟩ ∈ px_tb := px_in (px_t4 (List.mem_of_getElem? (i := 51) rfl)) rfl
theorem w_844 : Cond.instanceMethod ⟨"TubeChain", "image", "()I"⟩ ∈ px_tb := px_in (px_t4 (List.mem_of_getElem? (i := 52) rfl)) rfl
theorem w_845 : Cond.selects "TubeChain" ⟨"TubeChain", "image", "()I"⟩ ⟨"TubeChain", "image", "()I"⟩ ∈ px_tb := px_in (px_t4 (List.mem_of_getElem? (i := 53) rfl)) rfl
theorem w_847 : Cond.methodLink "TubeChain" 280 ⟨"TubeChain$Site", "copyChain", "(LTubeChain$Site;)V"⟩ ∈ px_tb := px_in (px_t4 (List.mem_of_getElem? (i := 55) rfl)) rfl
theorem w_848 : Cond.methodLink "TubeChain" 283 ⟨"TubeChain$Site", "copyNotes", "(LTubeChain$Site;)V"⟩ ∈ px_tb := px_in (px_t4 (List.mem_of_getElem? (i := 56) rfl)) rfl
theorem w_849 : Cond.instanceMethod ⟨"TubeChain$Site", "copyNotes", "(LTubeChain$Site;)V"⟩ ∈ px_tb := px_in (px_t4 (List.mem_of_getElem? (i := 57) rfl)) rfl
theorem w_850 : Cond.selects "TubeChain$Site" ⟨"TubeChain$Site", "copyNotes", "(LTubeChain$Site;)V"⟩ ⟨"TubeChain$Site", "copyNotes", "(LTubeChain$Site;)V"⟩ ∈ px_tb := px_in (px_t4 (List.mem_of_getElem? (i := 58) rfl)) rfl
theorem w_852 : Cond.methodLink "TubeChainLaw" 132 ⟨"TubeChain", "undo", "()I"⟩ ∈ px_tb := px_in (px_t4 (List.mem_of_getElem? (i := 60) rfl)) rfl
theorem w_853 : Cond.instanceMethod ⟨"TubeChain", "undo", "()I"⟩ ∈ px_tb := px_in (px_t4 (List.mem_of_getElem? (i := 61) rfl)) rfl
theorem w_854 : Cond.selects "TubeChain" ⟨"TubeChain", "undo", "()I"⟩ ⟨"TubeChain", "undo", "()I"⟩ ∈ px_tb := px_in (px_t4 (List.mem_of_getElem? (i := 62) rfl)) rfl
theorem w_856 : Cond.methodLink "TubeChainLaw" 136 ⟨"TubeChain", "act", "(III)I"⟩ ∈ px_tb := px_in (px_t4 (List.mem_of_getElem? (i := 64) rfl)) rfl
theorem w_857 : Cond.instanceMethod ⟨"TubeChain", "act", "(III)I"⟩ ∈ px_tb := px_in (px_t4 (List.mem_of_getElem? (i := 65) rfl)) rfl
theorem w_858 : Cond.selects "TubeChain" ⟨"TubeChain", "act", "(III)I"⟩ ⟨"TubeChain", "act", "(III)I"⟩ ∈ px_tb := px_in (px_t4 (List.mem_of_getElem? (i := 66) rfl)) rfl
theorem w_860 : Cond.methodLink "TubeChain" 290 ⟨"TubeChain$Man", "tosses", "(I[I)I"⟩ ∈ px_tb := px_in (px_t4 (List.mem_of_getElem? (i := 68) rfl)) rfl
theorem w_861 : Cond.instanceMethod ⟨"TubeChain$Man", "tosses", "(I[I)I"⟩ ∈ px_tb := px_in (px_t4 (List.mem_of_getElem? (i := 69) rfl)) rfl
theorem w_862 : Cond.selects "TubeChain$Man" ⟨"TubeChain$Man", "tosses", "(I[I)I"⟩ ⟨"TubeChain$Man", "tosses", "(I[I)I"⟩ ∈ px_tb := px_in (px_t4 (List.mem_of_getElem? (i := 70) rfl)) rfl
theorem w_863 : Cond.sameMethod "TubeChain$Man" "TubeChain$Man" "tosses" "(I[I)I" ∈ px_tb := px_in (px_t4 (List.mem_of_getElem? (i := 71) rfl)) rfl
theorem w_864 : Cond.selects "TubeChain$Calling" ⟨"TubeChain$Man", "tosses", "(I[I)I"⟩ ⟨"TubeChain$Calling", "tosses", "(I[I)I"⟩ ∈ px_tb := px_in (px_t4 (List.mem_of_getElem? (i := 72) rfl)) rfl
theorem w_865 : Cond.instanceMethod ⟨"TubeChain$Calling", "tosses", "(I[I)I"⟩ ∈ px_tb := px_in (px_t4 (List.mem_of_getElem? (i := 73) rfl)) rfl
theorem w_867 : Cond.methodLink "TubeChain$Calling" 17 ⟨"TubeChain$Calling", "begin", "(I[I)V"⟩ ∈ px_tb := px_in (px_t4 (List.mem_of_getElem? (i := 75) rfl)) rfl
theorem w_868 : Cond.sameMethod "TubeChain$Calling" "TubeChain$Man" "begin" "(I[I)V" ∈ px_tb := px_in (px_t4 (List.mem_of_getElem? (i := 76) rfl)) rfl
theorem w_869 : Cond.static ⟨"TubeChain$Man", "begin", "(I[I)V"⟩ ∈ px_tb := px_in (px_t4 (List.mem_of_getElem? (i := 77) rfl)) rfl
theorem w_871 : Cond.methodLink "TubeChain$Calling" 23 ⟨"TubeChain$Strong", "tosses", "(I[I)I"⟩ ∈ px_tb := px_in (px_t4 (List.mem_of_getElem? (i := 79) rfl)) rfl
theorem w_872 : Cond.sameMethod "TubeChain$Strong" "TubeChain$Man" "tosses" "(I[I)I" ∈ px_tb := px_in (px_t4 (List.mem_of_getElem? (i := 80) rfl)) rfl
theorem w_874 : Cond.selects "TubeChain$Gloved" ⟨"TubeChain$Man", "tosses", "(I[I)I"⟩ ⟨"TubeChain$Gloved", "tosses", "(I[I)I"⟩ ∈ px_tb := px_in (px_t4 (List.mem_of_getElem? (i := 82) rfl)) rfl
theorem w_875 : Cond.instanceMethod ⟨"TubeChain$Gloved", "tosses", "(I[I)I"⟩ ∈ px_tb := px_in (px_t4 (List.mem_of_getElem? (i := 83) rfl)) rfl
theorem w_877 : Cond.methodLink "TubeChain$Gloved" 7 ⟨"TubeChain$Gloved", "begin", "(I[I)V"⟩ ∈ px_tb := px_in (px_t4 (List.mem_of_getElem? (i := 85) rfl)) rfl
theorem w_878 : Cond.sameMethod "TubeChain$Gloved" "TubeChain$Man" "begin" "(I[I)V" ∈ px_tb := px_in (px_t4 (List.mem_of_getElem? (i := 86) rfl)) rfl
theorem w_879 : Cond.methodLink "TubeChain$Gloved" 13 ⟨"TubeChain$Man", "tosses", "(I[I)I"⟩ ∈ px_tb := px_in (px_t4 (List.mem_of_getElem? (i := 87) rfl)) rfl
theorem w_880 : Cond.selects "TubeChain$Slipping" ⟨"TubeChain$Man", "tosses", "(I[I)I"⟩ ⟨"TubeChain$Gloved", "tosses", "(I[I)I"⟩ ∈ px_tb := px_in (px_t4 (List.mem_of_getElem? (i := 88) rfl)) rfl
theorem w_881 : Cond.selects "TubeChain$Strong" ⟨"TubeChain$Man", "tosses", "(I[I)I"⟩ ⟨"TubeChain$Man", "tosses", "(I[I)I"⟩ ∈ px_tb := px_in (px_t4 (List.mem_of_getElem? (i := 89) rfl)) rfl
theorem w_882 : Cond.selects "TubeChain$Tiring" ⟨"TubeChain$Man", "tosses", "(I[I)I"⟩ ⟨"TubeChain$Man", "tosses", "(I[I)I"⟩ ∈ px_tb := px_in (px_t4 (List.mem_of_getElem? (i := 90) rfl)) rfl
theorem w_883 : Cond.selects "TubeChain$Told" ⟨"TubeChain$Man", "tosses", "(I[I)I"⟩ ⟨"TubeChain$Told", "tosses", "(I[I)I"⟩ ∈ px_tb := px_in (px_t4 (List.mem_of_getElem? (i := 91) rfl)) rfl
theorem w_884 : Cond.instanceMethod ⟨"TubeChain$Told", "tosses", "(I[I)I"⟩ ∈ px_tb := px_in (px_t4 (List.mem_of_getElem? (i := 92) rfl)) rfl
theorem w_886 : Cond.methodLink "TubeChain$Told" 11 ⟨"TubeChain$Told", "begin", "(I[I)V"⟩ ∈ px_tb := px_in (px_t4 (List.mem_of_getElem? (i := 94) rfl)) rfl
theorem w_887 : Cond.sameMethod "TubeChain$Told" "TubeChain$Man" "begin" "(I[I)V" ∈ px_tb := px_in (px_t4 (List.mem_of_getElem? (i := 95) rfl)) rfl
theorem w_888 : Cond.methodLink "TubeChain$Told" 21 ⟨"TubeChain$Tiring", "tosses", "(I[I)I"⟩ ∈ px_tb := px_in (px_t4 (List.mem_of_getElem? (i := 96) rfl)) rfl
theorem w_889 : Cond.sameMethod "TubeChain$Tiring" "TubeChain$Man" "tosses" "(I[I)I" ∈ px_tb := px_in (px_t4 (List.mem_of_getElem? (i := 97) rfl)) rfl
theorem w_891 : Cond.methodLink "TubeChain$Man" 16 ⟨"TubeChain$Man", "begin", "(I[I)V"⟩ ∈ px_tb := px_in (px_t4 (List.mem_of_getElem? (i := 99) rfl)) rfl
theorem w_892 : Cond.methodLink "TubeChain" 294 ⟨"TubeChain$Man", "takes", "(I[I)I"⟩ ∈ px_tb := px_in (px_t4 (List.mem_of_getElem? (i := 100) rfl)) rfl
theorem w_893 : Cond.instanceMethod ⟨"TubeChain$Man", "takes", "(I[I)I"⟩ ∈ px_tb := px_in (px_t4 (List.mem_of_getElem? (i := 101) rfl)) rfl
theorem w_894 : Cond.selects "TubeChain$Man" ⟨"TubeChain$Man", "takes", "(I[I)I"⟩ ⟨"TubeChain$Man", "takes", "(I[I)I"⟩ ∈ px_tb := px_in (px_t4 (List.mem_of_getElem? (i := 102) rfl)) rfl
theorem w_895 : Cond.sameMethod "TubeChain$Man" "TubeChain$Man" "takes" "(I[I)I" ∈ px_tb := px_in (px_t4 (List.mem_of_getElem? (i := 103) rfl)) rfl
theorem w_896 : Cond.selects "TubeChain$Calling" ⟨"TubeChain$Man", "takes", "(I[I)I"⟩ ⟨"TubeChain$Calling", "takes", "(I[I)I"⟩ ∈ px_tb := px_in (px_t4 (List.mem_of_getElem? (i := 104) rfl)) rfl
theorem w_897 : Cond.instanceMethod ⟨"TubeChain$Calling", "takes", "(I[I)I"⟩ ∈ px_tb := px_in (px_t4 (List.mem_of_getElem? (i := 105) rfl)) rfl
theorem w_899 : Cond.methodLink "TubeChain$Calling" 27 ⟨"TubeChain$Strong", "takes", "(I[I)I"⟩ ∈ px_tb := px_in (px_t4 (List.mem_of_getElem? (i := 107) rfl)) rfl
theorem w_900 : Cond.instanceMethod ⟨"TubeChain$Strong", "takes", "(I[I)I"⟩ ∈ px_tb := px_in (px_t4 (List.mem_of_getElem? (i := 108) rfl)) rfl
theorem w_902 : Cond.methodLink "TubeChain$Strong" 19 ⟨"TubeChain$Strong", "begin", "(I[I)V"⟩ ∈ px_tb := px_in (px_t4 (List.mem_of_getElem? (i := 110) rfl)) rfl
theorem w_903 : Cond.sameMethod "TubeChain$Strong" "TubeChain$Man" "begin" "(I[I)V" ∈ px_tb := px_in (px_t4 (List.mem_of_getElem? (i := 111) rfl)) rfl
theorem w_904 : Cond.methodLink "TubeChain$Strong" 23 ⟨"TubeChain$Man", "takes", "(I[I)I"⟩ ∈ px_tb := px_in (px_t4 (List.mem_of_getElem? (i := 112) rfl)) rfl
theorem w_905 : Cond.selects "TubeChain$Gloved" ⟨"TubeChain$Man", "takes", "(I[I)I"⟩ ⟨"TubeChain$Man", "takes", "(I[I)I"⟩ ∈ px_tb := px_in (px_t4 (List.mem_of_getElem? (i := 113) rfl)) rfl
theorem w_906 : Cond.selects "TubeChain$Slipping" ⟨"TubeChain$Man", "takes", "(I[I)I"⟩ ⟨"TubeChain$Man", "takes", "(I[I)I"⟩ ∈ px_tb := px_in (px_t4 (List.mem_of_getElem? (i := 114) rfl)) rfl
theorem w_907 : Cond.selects "TubeChain$Strong" ⟨"TubeChain$Man", "takes", "(I[I)I"⟩ ⟨"TubeChain$Strong", "takes", "(I[I)I"⟩ ∈ px_tb := px_in (px_t4 (List.mem_of_getElem? (i := 115) rfl)) rfl
theorem w_908 : Cond.selects "TubeChain$Tiring" ⟨"TubeChain$Man", "takes", "(I[I)I"⟩ ⟨"TubeChain$Man", "takes", "(I[I)I"⟩ ∈ px_tb := px_in (px_t4 (List.mem_of_getElem? (i := 116) rfl)) rfl
theorem w_909 : Cond.selects "TubeChain$Told" ⟨"TubeChain$Man", "takes", "(I[I)I"⟩ ⟨"TubeChain$Told", "takes", "(I[I)I"⟩ ∈ px_tb := px_in (px_t4 (List.mem_of_getElem? (i := 117) rfl)) rfl
theorem w_910 : Cond.instanceMethod ⟨"TubeChain$Told", "takes", "(I[I)I"⟩ ∈ px_tb := px_in (px_t4 (List.mem_of_getElem? (i := 118) rfl)) rfl
theorem w_912 : Cond.methodLink "TubeChain$Told" 17 ⟨"TubeChain$Tiring", "takes", "(I[I)I"⟩ ∈ px_tb := px_in (px_t4 (List.mem_of_getElem? (i := 120) rfl)) rfl
theorem w_913 : Cond.sameMethod "TubeChain$Tiring" "TubeChain$Man" "takes" "(I[I)I" ∈ px_tb := px_in (px_t4 (List.mem_of_getElem? (i := 121) rfl)) rfl
theorem w_916 : Cond.methodLink "TubeChain$Man" 20 ⟨"TubeChain$Man", "tosses", "(I[I)I"⟩ ∈ px_tb := px_in (px_t4 (List.mem_of_getElem? (i := 124) rfl)) rfl
theorem w_917 : Cond.methodLink "TubeChain" 297 ⟨"TubeChain$Man", "tells", "(I[I)I"⟩ ∈ px_tb := px_in (px_t4 (List.mem_of_getElem? (i := 125) rfl)) rfl
theorem w_918 : Cond.instanceMethod ⟨"TubeChain$Man", "tells", "(I[I)I"⟩ ∈ px_tb := px_in (px_t4 (List.mem_of_getElem? (i := 126) rfl)) rfl
theorem w_919 : Cond.selects "TubeChain$Man" ⟨"TubeChain$Man", "tells", "(I[I)I"⟩ ⟨"TubeChain$Man", "tells", "(I[I)I"⟩ ∈ px_tb := px_in (px_t4 (List.mem_of_getElem? (i := 127) rfl)) rfl
theorem w_920 : Cond.sameMethod "TubeChain$Man" "TubeChain$Man" "tells" "(I[I)I" ∈ px_tb := px_in (px_t4 (List.mem_of_getElem? (i := 128) rfl)) rfl
theorem w_921 : Cond.selects "TubeChain$Calling" ⟨"TubeChain$Man", "tells", "(I[I)I"⟩ ⟨"TubeChain$Man", "tells", "(I[I)I"⟩ ∈ px_tb := px_in (px_t4 (List.mem_of_getElem? (i := 129) rfl)) rfl
theorem w_922 : Cond.selects "TubeChain$Gloved" ⟨"TubeChain$Man", "tells", "(I[I)I"⟩ ⟨"TubeChain$Man", "tells", "(I[I)I"⟩ ∈ px_tb := px_in (px_t4 (List.mem_of_getElem? (i := 130) rfl)) rfl
theorem w_923 : Cond.selects "TubeChain$Slipping" ⟨"TubeChain$Man", "tells", "(I[I)I"⟩ ⟨"TubeChain$Slipping", "tells", "(I[I)I"⟩ ∈ px_tb := px_in (px_t4 (List.mem_of_getElem? (i := 131) rfl)) rfl
theorem w_924 : Cond.instanceMethod ⟨"TubeChain$Slipping", "tells", "(I[I)I"⟩ ∈ px_tb := px_in (px_t4 (List.mem_of_getElem? (i := 132) rfl)) rfl
theorem w_926 : Cond.methodLink "TubeChain$Slipping" 13 ⟨"TubeChain$Slipping", "begin", "(I[I)V"⟩ ∈ px_tb := px_in (px_t4 (List.mem_of_getElem? (i := 134) rfl)) rfl
theorem w_927 : Cond.sameMethod "TubeChain$Slipping" "TubeChain$Man" "begin" "(I[I)V" ∈ px_tb := px_in (px_t4 (List.mem_of_getElem? (i := 135) rfl)) rfl
theorem w_928 : Cond.methodLink "TubeChain$Slipping" 20 ⟨"TubeChain$Gloved", "tells", "(I[I)I"⟩ ∈ px_tb := px_in (px_t4 (List.mem_of_getElem? (i := 136) rfl)) rfl
theorem w_929 : Cond.sameMethod "TubeChain$Gloved" "TubeChain$Man" "tells" "(I[I)I" ∈ px_tb := px_in (px_t4 (List.mem_of_getElem? (i := 137) rfl)) rfl
theorem w_931 : Cond.selects "TubeChain$Strong" ⟨"TubeChain$Man", "tells", "(I[I)I"⟩ ⟨"TubeChain$Man", "tells", "(I[I)I"⟩ ∈ px_tb := px_in (px_t4 (List.mem_of_getElem? (i := 139) rfl)) rfl
theorem w_932 : Cond.selects "TubeChain$Tiring" ⟨"TubeChain$Man", "tells", "(I[I)I"⟩ ⟨"TubeChain$Tiring", "tells", "(I[I)I"⟩ ∈ px_tb := px_in (px_t4 (List.mem_of_getElem? (i := 140) rfl)) rfl
theorem w_933 : Cond.instanceMethod ⟨"TubeChain$Tiring", "tells", "(I[I)I"⟩ ∈ px_tb := px_in (px_t4 (List.mem_of_getElem? (i := 141) rfl)) rfl
theorem w_935 : Cond.methodLink "TubeChain$Tiring" 7 ⟨"TubeChain$Tiring", "begin", "(I[I)V"⟩ ∈ px_tb := px_in (px_t4 (List.mem_of_getElem? (i := 143) rfl)) rfl
theorem w_936 : Cond.sameMethod "TubeChain$Tiring" "TubeChain$Man" "begin" "(I[I)V" ∈ px_tb := px_in (px_t4 (List.mem_of_getElem? (i := 144) rfl)) rfl
theorem w_937 : Cond.methodLink "TubeChain$Tiring" 13 ⟨"TubeChain$Man", "tells", "(I[I)I"⟩ ∈ px_tb := px_in (px_t4 (List.mem_of_getElem? (i := 145) rfl)) rfl
theorem w_938 : Cond.methodLink "TubeChain$Tiring" 17 ⟨"TubeChain$Tiring", "takes", "(I[I)I"⟩ ∈ px_tb := px_in (px_t4 (List.mem_of_getElem? (i := 146) rfl)) rfl
theorem w_939 : Cond.selects "TubeChain$Tiring" ⟨"TubeChain$Tiring", "takes", "(I[I)I"⟩ ⟨"TubeChain$Man", "takes", "(I[I)I"⟩ ∈ px_tb := px_in (px_t4 (List.mem_of_getElem? (i := 147) rfl)) rfl
theorem w_940 : Cond.selects "TubeChain$Told" ⟨"TubeChain$Tiring", "takes", "(I[I)I"⟩ ⟨"TubeChain$Told", "takes", "(I[I)I"⟩ ∈ px_tb := px_in (px_t4 (List.mem_of_getElem? (i := 148) rfl)) rfl
theorem w_941 : Cond.selects "TubeChain$Told" ⟨"TubeChain$Man", "tells", "(I[I)I"⟩ ⟨"TubeChain$Tiring", "tells", "(I[I)I"⟩ ∈ px_tb := px_in (px_t4 (List.mem_of_getElem? (i := 149) rfl)) rfl
theorem w_943 : Cond.methodLink "TubeChain$Man" 24 ⟨"TubeChain$Man", "takes", "(I[I)I"⟩ ∈ px_tb := px_in (px_t4 (List.mem_of_getElem? (i := 151) rfl)) rfl
theorem w_944 : Cond.methodLink "TubeChainLaw" 140 ⟨"TubeChain", "trace", "(I)I"⟩ ∈ px_tb := px_in (px_t4 (List.mem_of_getElem? (i := 152) rfl)) rfl
theorem w_945 : Cond.instanceMethod ⟨"TubeChain", "trace", "(I)I"⟩ ∈ px_tb := px_in (px_t4 (List.mem_of_getElem? (i := 153) rfl)) rfl
theorem w_946 : Cond.selects "TubeChain" ⟨"TubeChain", "trace", "(I)I"⟩ ⟨"TubeChain", "trace", "(I)I"⟩ ∈ px_tb := px_in (px_t4 (List.mem_of_getElem? (i := 154) rfl)) rfl
theorem w_948 : Cond.methodLink "TubeChainLaw" 144 ⟨"TubeChain", "taken", "(II)I"⟩ ∈ px_tb := px_in (px_t4 (List.mem_of_getElem? (i := 156) rfl)) rfl
theorem w_949 : Cond.instanceMethod ⟨"TubeChain", "taken", "(II)I"⟩ ∈ px_tb := px_in (px_t4 (List.mem_of_getElem? (i := 157) rfl)) rfl
theorem w_950 : Cond.selects "TubeChain" ⟨"TubeChain", "taken", "(II)I"⟩ ⟨"TubeChain", "taken", "(II)I"⟩ ∈ px_tb := px_in (px_t4 (List.mem_of_getElem? (i := 158) rfl)) rfl
theorem w_952 : Cond.methodLink "TubeChainLaw" 148 ⟨"TubeChain", "count", "(I)I"⟩ ∈ px_tb := px_in (px_t4 (List.mem_of_getElem? (i := 160) rfl)) rfl
theorem w_953 : Cond.instanceMethod ⟨"TubeChain", "count", "(I)I"⟩ ∈ px_tb := px_in (px_t4 (List.mem_of_getElem? (i := 161) rfl)) rfl
theorem w_954 : Cond.selects "TubeChain" ⟨"TubeChain", "count", "(I)I"⟩ ⟨"TubeChain", "count", "(I)I"⟩ ∈ px_tb := px_in (px_t4 (List.mem_of_getElem? (i := 162) rfl)) rfl
theorem w_956 : Cond.methodLink "TubeChainLaw" 152 ⟨"TubeChain", "tape", "(III)I"⟩ ∈ px_tb := px_in (px_t4 (List.mem_of_getElem? (i := 164) rfl)) rfl
theorem w_957 : Cond.instanceMethod ⟨"TubeChain", "tape", "(III)I"⟩ ∈ px_tb := px_in (px_t4 (List.mem_of_getElem? (i := 165) rfl)) rfl
theorem w_958 : Cond.selects "TubeChain" ⟨"TubeChain", "tape", "(III)I"⟩ ⟨"TubeChain", "tape", "(III)I"⟩ ∈ px_tb := px_in (px_t4 (List.mem_of_getElem? (i := 166) rfl)) rfl
theorem w_960 : Cond.methodLink "TubeChain" 300 ⟨"TubeChain$Tape", "become", "(II)V"⟩ ∈ px_tb := px_in (px_t4 (List.mem_of_getElem? (i := 168) rfl)) rfl
theorem w_961 : Cond.instanceMethod ⟨"TubeChain$Tape", "become", "(II)V"⟩ ∈ px_tb := px_in (px_t4 (List.mem_of_getElem? (i := 169) rfl)) rfl
theorem w_962 : Cond.selects "TubeChain$Tape" ⟨"TubeChain$Tape", "become", "(II)V"⟩ ⟨"TubeChain$Tape", "become", "(II)V"⟩ ∈ px_tb := px_in (px_t4 (List.mem_of_getElem? (i := 170) rfl)) rfl
theorem w_964 : Cond.methodLink "TubeChain$Tape" 22 ⟨"java/util/Arrays", "fill", "([JJ)V"⟩ ∈ px_tb := px_in (px_t4 (List.mem_of_getElem? (i := 172) rfl)) rfl
theorem w_965 : Cond.static ⟨"java/util/Arrays", "fill", "([JJ)V"⟩ ∈ px_tb := px_in (px_t4 (List.mem_of_getElem? (i := 173) rfl)) rfl
theorem w_967 : Cond.methodLink "TubeChainLaw" 158 ⟨"TubeChain", "item", "(IIJ)I"⟩ ∈ px_tb := px_in (px_t4 (List.mem_of_getElem? (i := 175) rfl)) rfl
theorem w_968 : Cond.instanceMethod ⟨"TubeChain", "item", "(IIJ)I"⟩ ∈ px_tb := px_in (px_t4 (List.mem_of_getElem? (i := 176) rfl)) rfl
theorem w_969 : Cond.selects "TubeChain" ⟨"TubeChain", "item", "(IIJ)I"⟩ ⟨"TubeChain", "item", "(IIJ)I"⟩ ∈ px_tb := px_in (px_t4 (List.mem_of_getElem? (i := 177) rfl)) rfl
theorem w_971 : Cond.methodLink "TubeChain" 303 ⟨"TubeChain$Tape", "fit", "(J)J"⟩ ∈ px_tb := px_in (px_t4 (List.mem_of_getElem? (i := 179) rfl)) rfl
theorem w_972 : Cond.instanceMethod ⟨"TubeChain$Tape", "fit", "(J)J"⟩ ∈ px_tb := px_in (px_t4 (List.mem_of_getElem? (i := 180) rfl)) rfl
theorem w_973 : Cond.selects "TubeChain$Tape" ⟨"TubeChain$Tape", "fit", "(J)J"⟩ ⟨"TubeChain$Tape", "fit", "(J)J"⟩ ∈ px_tb := px_in (px_t4 (List.mem_of_getElem? (i := 181) rfl)) rfl
theorem w_975 : Cond.methodLink "TubeChainLaw" 163 ⟨"TubeChain", "read", "(II)J"⟩ ∈ px_tb := px_in (px_t4 (List.mem_of_getElem? (i := 183) rfl)) rfl
theorem w_976 : Cond.instanceMethod ⟨"TubeChain", "read", "(II)J"⟩ ∈ px_tb := px_in (px_t4 (List.mem_of_getElem? (i := 184) rfl)) rfl
theorem w_977 : Cond.selects "TubeChain" ⟨"TubeChain", "read", "(II)J"⟩ ⟨"TubeChain", "read", "(II)J"⟩ ∈ px_tb := px_in (px_t4 (List.mem_of_getElem? (i := 185) rfl)) rfl
theorem w_979 : Cond.methodLink "TubeChainLaw" 167 ⟨"TubeChain", "shift", "(IIIII)I"⟩ ∈ px_tb := px_in (px_t4 (List.mem_of_getElem? (i := 187) rfl)) rfl
theorem w_980 : Cond.instanceMethod ⟨"TubeChain", "shift", "(IIIII)I"⟩ ∈ px_tb := px_in (px_t4 (List.mem_of_getElem? (i := 188) rfl)) rfl
theorem w_981 : Cond.selects "TubeChain" ⟨"TubeChain", "shift", "(IIIII)I"⟩ ⟨"TubeChain", "shift", "(IIIII)I"⟩ ∈ px_tb := px_in (px_t4 (List.mem_of_getElem? (i := 189) rfl)) rfl
theorem w_983 : Cond.methodLink "TubeChain" 307 ⟨"TubeChain$Tape", "has", "(II)Z"⟩ ∈ px_tb := px_in (px_t4 (List.mem_of_getElem? (i := 191) rfl)) rfl
theorem w_984 : Cond.instanceMethod ⟨"TubeChain$Tape", "has", "(II)Z"⟩ ∈ px_tb := px_in (px_t4 (List.mem_of_getElem? (i := 192) rfl)) rfl
theorem w_985 : Cond.selects "TubeChain$Tape" ⟨"TubeChain$Tape", "has", "(II)Z"⟩ ⟨"TubeChain$Tape", "has", "(II)Z"⟩ ∈ px_tb := px_in (px_t4 (List.mem_of_getElem? (i := 193) rfl)) rfl
theorem w_987 : Cond.classLink "TubeChainLaw" 10 "TubeChainModel" ∈ px_tb := px_in (px_t4 (List.mem_of_getElem? (i := 195) rfl)) rfl
theorem w_988 : Cond.instantiable "TubeChainModel" 70 ∈ px_tb := px_in (px_t4 (List.mem_of_getElem? (i := 196) rfl)) rfl
theorem w_989 : Cond.methodLink "TubeChainLaw" 12 ⟨"TubeChainModel", "<init>", "()V"⟩ ∈ px_tb := px_in (px_t4 (List.mem_of_getElem? (i := 197) rfl)) rfl
theorem w_990 : Cond.instanceMethod ⟨"TubeChainModel", "<init>", "()V"⟩ ∈ px_tb := px_in (px_t4 (List.mem_of_getElem? (i := 198) rfl)) rfl
theorem w_992 : Cond.methodLink "TubeChainModel" 1 ⟨"java/lang/Object", "<init>", "()V"⟩ ∈ px_tb := px_in (px_t4 (List.mem_of_getElem? (i := 200) rfl)) rfl
theorem w_993 : Cond.fieldLink "TubeChainModel" 7 "TubeChainModel" "men" "I" ∈ px_tb := px_in (px_t4 (List.mem_of_getElem? (i := 201) rfl)) rfl
theorem w_994 : Cond.fieldLink "TubeChainModel" 13 "TubeChainModel" "chained" "I" ∈ px_tb := px_in (px_t4 (List.mem_of_getElem? (i := 202) rfl)) rfl
theorem w_995 : Cond.fieldLink "TubeChainModel" 16 "TubeChainModel" "tenths" "I" ∈ px_tb := px_in (px_t4 (List.mem_of_getElem? (i := 203) rfl)) rfl
theorem w_996 : Cond.fieldLink "TubeChainModel" 19 "TubeChainModel" "ups" "I" ∈ px_tb := px_in (px_t4 (List.mem_of_getElem? (i := 204) rfl)) rfl
theorem w_997 : Cond.fieldLink "TubeChainModel" 22 "TubeChainModel" "fallen" "I" ∈ px_tb := px_in (px_t4 (List.mem_of_getElem? (i := 205) rfl)) rfl
theorem w_998 : Cond.fieldLink "TubeChainModel" 25 "TubeChainModel" "kind" "[I" ∈ px_tb := px_in (px_t4 (List.mem_of_getElem? (i := 206) rfl)) rfl
theorem w_999 : Cond.fieldLink "TubeChainModel" 29 "TubeChainModel" "v" "[I" ∈ px_tb := px_in (px_t4 (List.mem_of_getElem? (i := 207) rfl)) rfl
theorem w_1000 : Cond.fieldLink "TubeChainModel" 32 "TubeChainModel" "times" "[I" ∈ px_tb := px_in (px_t4 (List.mem_of_getElem? (i := 208) rfl)) rfl
theorem w_1001 : Cond.fieldLink "TubeChainModel" 35 "TubeChainModel" "free" "[I" ∈ px_tb := px_in (px_t4 (List.mem_of_getElem? (i := 209) rfl)) rfl
theorem w_1002 : Cond.fieldLink "TubeChainModel" 38 "TubeChainModel" "rows" "[I" ∈ px_tb := px_in (px_t4 (List.mem_of_getElem? (i := 210) rfl)) rfl
theorem w_1003 : Cond.fieldLink "TubeChainModel" 41 "TubeChainModel" "chain" "[I" ∈ px_tb := px_in (px_t4 (List.mem_of_getElem? (i := 211) rfl)) rfl
theorem w_1004 : Cond.fieldLink "TubeChainModel" 44 "TubeChainModel" "scaffolds" "I" ∈ px_tb := px_in (px_t4 (List.mem_of_getElem? (i := 212) rfl)) rfl
theorem w_1005 : Cond.fieldLink "TubeChainModel" 47 "TubeChainModel" "the" "I" ∈ px_tb := px_in (px_t4 (List.mem_of_getElem? (i := 213) rfl)) rfl
theorem w_1006 : Cond.fieldLink "TubeChainModel" 50 "TubeChainModel" "fed" "I" ∈ px_tb := px_in (px_t4 (List.mem_of_getElem? (i := 214) rfl)) rfl
theorem w_1007 : Cond.fieldLink "TubeChainModel" 53 "TubeChainModel" "at" "I" ∈ px_tb := px_in (px_t4 (List.mem_of_getElem? (i := 215) rfl)) rfl
theorem w_1008 : Cond.fieldLink "TubeChainModel" 56 "TubeChainModel" "digits" "I" ∈ px_tb := px_in (px_t4 (List.mem_of_getElem? (i := 216) rfl)) rfl
theorem w_1009 : Cond.fieldLink "TubeChainModel" 59 "TubeChainModel" "text" "[I" ∈ px_tb := px_in (px_t4 (List.mem_of_getElem? (i := 217) rfl)) rfl
theorem w_1010 : Cond.fieldLink "TubeChainModel" 62 "TubeChainModel" "clauses" "[I" ∈ px_tb := px_in (px_t4 (List.mem_of_getElem? (i := 218) rfl)) rfl
theorem w_1011 : Cond.fieldLink "TubeChainModel" 65 "TubeChainModel" "word" "[I" ∈ px_tb := px_in (px_t4 (List.mem_of_getElem? (i := 219) rfl)) rfl
theorem w_1012 : Cond.fieldLink "TubeChainModel" 68 "TubeChainModel" "number" "[I" ∈ px_tb := px_in (px_t4 (List.mem_of_getElem? (i := 220) rfl)) rfl
theorem w_1013 : Cond.fieldLink "TubeChainModel" 71 "TubeChainModel" "from" "[I" ∈ px_tb := px_in (px_t4 (List.mem_of_getElem? (i := 221) rfl)) rfl
theorem w_1014 : Cond.fieldLink "TubeChainModel" 74 "TubeChainModel" "to" "[I" ∈ px_tb := px_in (px_t4 (List.mem_of_getElem? (i := 222) rfl)) rfl
theorem w_1015 : Cond.fieldLink "TubeChainModel" 77 "TubeChainModel" "sign" "[I" ∈ px_tb := px_in (px_t4 (List.mem_of_getElem? (i := 223) rfl)) rfl
theorem w_1016 : Cond.fieldLink "TubeChainModel" 80 "TubeChainModel" "waits" "[I" ∈ px_tb := px_in (px_t4 (List.mem_of_getElem? (i := 224) rfl)) rfl
theorem w_1017 : Cond.fieldLink "TubeChainModel" 83 "TubeChainModel" "signs" "I" ∈ px_tb := px_in (px_t4 (List.mem_of_getElem? (i := 225) rfl)) rfl
theorem w_1018 : Cond.fieldLink "TubeChainModel" 86 "TubeChainModel" "waiting" "I" ∈ px_tb := px_in (px_t4 (List.mem_of_getElem? (i := 226) rfl)) rfl
theorem w_1019 : Cond.fieldLink "TubeChainModel" 89 "TubeChainModel" "open" "I" ∈ px_tb := px_in (px_t4 (List.mem_of_getElem? (i := 227) rfl)) rfl
theorem w_1020 : Cond.fieldLink "TubeChainModel" 92 "TubeChainModel" "letters" "[I" ∈ px_tb := px_in (px_t4 (List.mem_of_getElem? (i := 228) rfl)) rfl
theorem w_1021 : Cond.fieldLink "TubeChainModel" 95 "TubeChainModel" "pile" "[Z" ∈ px_tb := px_in (px_t4 (List.mem_of_getElem? (i := 229) rfl)) rfl
theorem w_1022 : Cond.fieldLink "TubeChainModel" 99 "TubeChainModel" "placeSeen" "I" ∈ px_tb := px_in (px_t4 (List.mem_of_getElem? (i := 230) rfl)) rfl
theorem w_1023 : Cond.fieldLink "TubeChainModel" 102 "TubeChainModel" "faller" "I" ∈ px_tb := px_in (px_t4 (List.mem_of_getElem? (i := 231) rfl)) rfl
theorem w_1024 : Cond.fieldLink "TubeChainModel" 105 "TubeChainModel" "cameUp" "I" ∈ px_tb := px_in (px_t4 (List.mem_of_getElem? (i := 232) rfl)) rfl
theorem w_1025 : Cond.fieldLink "TubeChainModel" 108 "TubeChainModel" "mostTimes" "I" ∈ px_tb := px_in (px_t4 (List.mem_of_getElem? (i := 233) rfl)) rfl
theorem w_1026 : Cond.fieldLink "TubeChainModel" 111 "TubeChainModel" "keptTenths" "I" ∈ px_tb := px_in (px_t4 (List.mem_of_getElem? (i := 234) rfl)) rfl
theorem w_1027 : Cond.fieldLink "TubeChainModel" 114 "TubeChainModel" "keptTimes" "[I" ∈ px_tb := px_in (px_t4 (List.mem_of_getElem? (i := 235) rfl)) rfl
theorem w_1028 : Cond.fieldLink "TubeChainModel" 117 "TubeChainModel" "keptFree" "[I" ∈ px_tb := px_in (px_t4 (List.mem_of_getElem? (i := 236) rfl)) rfl
theorem w_1029 : Cond.fieldLink "TubeChainModel" 120 "TubeChainModel" "many" "I" ∈ px_tb := px_in (px_t4 (List.mem_of_getElem? (i := 237) rfl)) rfl
theorem w_1030 : Cond.fieldLink "TubeChainModel" 123 "TubeChainModel" "upSet" "I" ∈ px_tb := px_in (px_t4 (List.mem_of_getElem? (i := 238) rfl)) rfl
theorem w_1031 : Cond.fieldLink "TubeChainModel" 126 "TubeChainModel" "latest" "I" ∈ px_tb := px_in (px_t4 (List.mem_of_getElem? (i := 239) rfl)) rfl
theorem w_1032 : Cond.fieldLink "TubeChainModel" 129 "TubeChainModel" "drops" "[I" ∈ px_tb := px_in (px_t5 (List.mem_of_getElem? (i := 0) rfl)) rfl
theorem w_1033 : Cond.fieldLink "TubeChainModel" 132 "TubeChainModel" "keptChain" "[I" ∈ px_tb := px_in (px_t5 (List.mem_of_getElem? (i := 1) rfl)) rfl
theorem w_1034 : Cond.fieldLink "TubeChainModel" 135 "TubeChainModel" "bestChain" "[I" ∈ px_tb := px_in (px_t5 (List.mem_of_getElem? (i := 2) rfl)) rfl
theorem w_1035 : Cond.fieldLink "TubeChainModel" 138 "TubeChainModel" "seen" "I" ∈ px_tb := px_in (px_t5 (List.mem_of_getElem? (i := 3) rfl)) rfl
theorem w_1036 : Cond.fieldLink "TubeChainModel" 141 "TubeChainModel" "seenTube" "[I" ∈ px_tb := px_in (px_t5 (List.mem_of_getElem? (i := 4) rfl)) rfl
theorem w_1037 : Cond.fieldLink "TubeChainModel" 144 "TubeChainModel" "books" "I" ∈ px_tb := px_in (px_t5 (List.mem_of_getElem? (i := 5) rfl)) rfl
theorem w_1038 : Cond.fieldLink "TubeChainModel" 147 "TubeChainModel" "bookTube" "[I" ∈ px_tb := px_in (px_t5 (List.mem_of_getElem? (i := 6) rfl)) rfl
theorem w_1039 : Cond.fieldLink "TubeChainModel" 150 "TubeChainModel" "bookUp" "[Z" ∈ px_tb := px_in (px_t5 (List.mem_of_getElem? (i := 7) rfl)) rfl
theorem w_1040 : Cond.fieldLink "TubeChainModel" 153 "TubeChainModel" "hasImage" "Z" ∈ px_tb := px_in (px_t5 (List.mem_of_getElem? (i := 8) rfl)) rfl
theorem w_1041 : Cond.fieldLink "TubeChainModel" 157 "TubeChainModel" "imageThe" "I" ∈ px_tb := px_in (px_t5 (List.mem_of_getElem? (i := 9) rfl)) rfl
theorem w_1042 : Cond.fieldLink "TubeChainModel" 160 "TubeChainModel" "imageMen" "I" ∈ px_tb := px_in (px_t5 (List.mem_of_getElem? (i := 10) rfl)) rfl
theorem w_1043 : Cond.fieldLink "TubeChainModel" 163 "TubeChainModel" "imageTenths" "I" ∈ px_tb := px_in (px_t5 (List.mem_of_getElem? (i := 11) rfl)) rfl
theorem w_1044 : Cond.fieldLink "TubeChainModel" 166 "TubeChainModel" "imageUps" "I" ∈ px_tb := px_in (px_t5 (List.mem_of_getElem? (i := 12) rfl)) rfl
theorem w_1045 : Cond.fieldLink "TubeChainModel" 169 "TubeChainModel" "imageFallen" "I" ∈ px_tb := px_in (px_t5 (List.mem_of_getElem? (i := 13) rfl)) rfl
theorem w_1046 : Cond.fieldLink "TubeChainModel" 172 "TubeChainModel" "imageSeen" "I" ∈ px_tb := px_in (px_t5 (List.mem_of_getElem? (i := 14) rfl)) rfl
theorem w_1047 : Cond.fieldLink "TubeChainModel" 175 "TubeChainModel" "imageBooks" "I" ∈ px_tb := px_in (px_t5 (List.mem_of_getElem? (i := 15) rfl)) rfl
theorem w_1048 : Cond.fieldLink "TubeChainModel" 178 "TubeChainModel" "imageKind" "[I" ∈ px_tb := px_in (px_t5 (List.mem_of_getElem? (i := 16) rfl)) rfl
theorem w_1049 : Cond.fieldLink "TubeChainModel" 181 "TubeChainModel" "imageV" "[I" ∈ px_tb := px_in (px_t5 (List.mem_of_getElem? (i := 17) rfl)) rfl
theorem w_1050 : Cond.fieldLink "TubeChainModel" 184 "TubeChainModel" "imageTimes" "[I" ∈ px_tb := px_in (px_t5 (List.mem_of_getElem? (i := 18) rfl)) rfl
theorem w_1051 : Cond.fieldLink "TubeChainModel" 187 "TubeChainModel" "imageFree" "[I" ∈ px_tb := px_in (px_t5 (List.mem_of_getElem? (i := 19) rfl)) rfl
theorem w_1052 : Cond.fieldLink "TubeChainModel" 190 "TubeChainModel" "imageChain" "[I" ∈ px_tb := px_in (px_t5 (List.mem_of_getElem? (i := 20) rfl)) rfl
theorem w_1053 : Cond.fieldLink "TubeChainModel" 193 "TubeChainModel" "imageRows" "[I" ∈ px_tb := px_in (px_t5 (List.mem_of_getElem? (i := 21) rfl)) rfl
theorem w_1054 : Cond.fieldLink "TubeChainModel" 196 "TubeChainModel" "imageTube" "[I" ∈ px_tb := px_in (px_t5 (List.mem_of_getElem? (i := 22) rfl)) rfl
theorem w_1055 : Cond.fieldLink "TubeChainModel" 199 "TubeChainModel" "imageBook" "[I" ∈ px_tb := px_in (px_t5 (List.mem_of_getElem? (i := 23) rfl)) rfl
theorem w_1056 : Cond.fieldLink "TubeChainModel" 202 "TubeChainModel" "imageUp" "[Z" ∈ px_tb := px_in (px_t5 (List.mem_of_getElem? (i := 24) rfl)) rfl
theorem w_1057 : Cond.fieldLink "TubeChainModel" 205 "TubeChainModel" "ran" "I" ∈ px_tb := px_in (px_t5 (List.mem_of_getElem? (i := 25) rfl)) rfl
theorem w_1058 : Cond.fieldLink "TubeChainModel" 208 "TubeChainModel" "bodies" "[I" ∈ px_tb := px_in (px_t5 (List.mem_of_getElem? (i := 26) rfl)) rfl
theorem w_1059 : Cond.fieldLink "TubeChainModel" 211 "TubeChainModel" "sort" "[I" ∈ px_tb := px_in (px_t5 (List.mem_of_getElem? (i := 27) rfl)) rfl
theorem w_1060 : Cond.fieldLink "TubeChainModel" 214 "TubeChainModel" "length" "[I" ∈ px_tb := px_in (px_t5 (List.mem_of_getElem? (i := 28) rfl)) rfl
theorem w_1061 : Cond.fieldLink "TubeChainModel" 217 "TubeChainModel" "item" "[J" ∈ px_tb := px_in (px_t5 (List.mem_of_getElem? (i := 29) rfl)) rfl
theorem w_1062 : Cond.fieldLink "TubeChainModel" 221 "TubeChainModel" "aside" "[J" ∈ px_tb := px_in (px_t5 (List.mem_of_getElem? (i := 30) rfl)) rfl
theorem w_1203 : Cond.superclass "TubeChainModel" "java/lang/Object" ∈ px_tb := px_in (px_t5 (List.mem_of_getElem? (i := 171) rfl)) rfl
theorem w_1204 : Cond.arrayClass .boolean ∈ px_tb := px_in (px_t5 (List.mem_of_getElem? (i := 172) rfl)) rfl
theorem w_1205 : Cond.methodLink "TubeChainLaw" 17 ⟨"TubeChainModel", "man", "(II)I"⟩ ∈ px_tb := px_in (px_t5 (List.mem_of_getElem? (i := 173) rfl)) rfl
theorem w_1206 : Cond.instanceMethod ⟨"TubeChainModel", "man", "(II)I"⟩ ∈ px_tb := px_in (px_t5 (List.mem_of_getElem? (i := 174) rfl)) rfl
theorem w_1207 : Cond.selects "TubeChainModel" ⟨"TubeChainModel", "man", "(II)I"⟩ ⟨"TubeChainModel", "man", "(II)I"⟩ ∈ px_tb := px_in (px_t5 (List.mem_of_getElem? (i := 175) rfl)) rfl
theorem w_1209 : Cond.methodLink "TubeChainModel" 224 ⟨"TubeChainModel", "in", "(III)Z"⟩ ∈ px_tb := px_in (px_t5 (List.mem_of_getElem? (i := 177) rfl)) rfl
theorem w_1211 : Cond.instanceMethod ⟨"TubeChainModel", "in", "(III)Z"⟩ ∈ px_tb := px_in (px_t5 (List.mem_of_getElem? (i := 179) rfl)) rfl
theorem w_1213 : Cond.methodLink "TubeChainLaw" 25 ⟨"TubeChainModel", "held", "(II)I"⟩ ∈ px_tb := px_in (px_t5 (List.mem_of_getElem? (i := 181) rfl)) rfl
theorem w_1214 : Cond.instanceMethod ⟨"TubeChainModel", "held", "(II)I"⟩ ∈ px_tb := px_in (px_t5 (List.mem_of_getElem? (i := 182) rfl)) rfl
theorem w_1215 : Cond.selects "TubeChainModel" ⟨"TubeChainModel", "held", "(II)I"⟩ ⟨"TubeChainModel", "held", "(II)I"⟩ ∈ px_tb := px_in (px_t5 (List.mem_of_getElem? (i := 183) rfl)) rfl
theorem w_1217 : Cond.methodLink "TubeChainModel" 228 ⟨"TubeChainModel", "isMan", "(I)Z"⟩ ∈ px_tb := px_in (px_t5 (List.mem_of_getElem? (i := 185) rfl)) rfl
theorem w_1219 : Cond.instanceMethod ⟨"TubeChainModel", "isMan", "(I)Z"⟩ ∈ px_tb := px_in (px_t5 (List.mem_of_getElem? (i := 187) rfl)) rfl
theorem w_1221 : Cond.methodLink "TubeChainLaw" 30 ⟨"TubeChainModel", "row", "(III)I"⟩ ∈ px_tb := px_in (px_t5 (List.mem_of_getElem? (i := 189) rfl)) rfl
theorem w_1222 : Cond.instanceMethod ⟨"TubeChainModel", "row", "(III)I"⟩ ∈ px_tb := px_in (px_t5 (List.mem_of_getElem? (i := 190) rfl)) rfl
theorem w_1223 : Cond.selects "TubeChainModel" ⟨"TubeChainModel", "row", "(III)I"⟩ ⟨"TubeChainModel", "row", "(III)I"⟩ ∈ px_tb := px_in (px_t5 (List.mem_of_getElem? (i := 191) rfl)) rfl
theorem w_1225 : Cond.methodLink "TubeChainLaw" 34 ⟨"TubeChainModel", "place", "(II)I"⟩ ∈ px_tb := px_in (px_t5 (List.mem_of_getElem? (i := 193) rfl)) rfl
theorem w_1226 : Cond.instanceMethod ⟨"TubeChainModel", "place", "(II)I"⟩ ∈ px_tb := px_in (px_t5 (List.mem_of_getElem? (i := 194) rfl)) rfl
theorem w_1227 : Cond.selects "TubeChainModel" ⟨"TubeChainModel", "place", "(II)I"⟩ ⟨"TubeChainModel", "place", "(II)I"⟩ ∈ px_tb := px_in (px_t5 (List.mem_of_getElem? (i := 195) rfl)) rfl
theorem w_1229 : Cond.methodLink "TubeChainModel" 232 ⟨"TubeChainModel", "placeOf", "(I)I"⟩ ∈ px_tb := px_in (px_t5 (List.mem_of_getElem? (i := 197) rfl)) rfl
theorem w_1231 : Cond.instanceMethod ⟨"TubeChainModel", "placeOf", "(I)I"⟩ ∈ px_tb := px_in (px_t5 (List.mem_of_getElem? (i := 199) rfl)) rfl
theorem w_1233 : Cond.methodLink "TubeChainLaw" 39 ⟨"TubeChainModel", "feed", "(I)I"⟩ ∈ px_tb := px_in (px_t5 (List.mem_of_getElem? (i := 201) rfl)) rfl
theorem w_1234 : Cond.instanceMethod ⟨"TubeChainModel", "feed", "(I)I"⟩ ∈ px_tb := px_in (px_t5 (List.mem_of_getElem? (i := 202) rfl)) rfl
theorem w_1235 : Cond.selects "TubeChainModel" ⟨"TubeChainModel", "feed", "(I)I"⟩ ⟨"TubeChainModel", "feed", "(I)I"⟩ ∈ px_tb := px_in (px_t5 (List.mem_of_getElem? (i := 203) rfl)) rfl
theorem w_1237 : Cond.methodLink "TubeChainLaw" 44 ⟨"TubeChainModel", "scaffold", "()I"⟩ ∈ px_tb := px_in (px_t5 (List.mem_of_getElem? (i := 205) rfl)) rfl
theorem w_1238 : Cond.instanceMethod ⟨"TubeChainModel", "scaffold", "()I"⟩ ∈ px_tb := px_in (px_t5 (List.mem_of_getElem? (i := 206) rfl)) rfl
theorem w_1239 : Cond.selects "TubeChainModel" ⟨"TubeChainModel", "scaffold", "()I"⟩ ⟨"TubeChainModel", "scaffold", "()I"⟩ ∈ px_tb := px_in (px_t5 (List.mem_of_getElem? (i := 207) rfl)) rfl
theorem w_1241 : Cond.methodLink "TubeChainModel" 282 ⟨"TubeChainModel", "goesText", "(I)Z"⟩ ∈ px_tb := px_in (px_t5 (List.mem_of_getElem? (i := 209) rfl)) rfl
theorem w_1243 : Cond.instanceMethod ⟨"TubeChainModel", "goesText", "(I)Z"⟩ ∈ px_tb := px_in (px_t5 (List.mem_of_getElem? (i := 211) rfl)) rfl
theorem w_1245 : Cond.methodLink "TubeChainModel" 279 ⟨"TubeChainModel", "takesClause", "(I)Z"⟩ ∈ px_tb := px_in (px_t5 (List.mem_of_getElem? (i := 213) rfl)) rfl
theorem w_1247 : Cond.instanceMethod ⟨"TubeChainModel", "takesClause", "(I)Z"⟩ ∈ px_tb := px_in (px_t5 (List.mem_of_getElem? (i := 215) rfl)) rfl
theorem w_1249 : Cond.methodLink "TubeChainModel" 273 ⟨"TubeChainModel", "takesHead", "(I)Z"⟩ ∈ px_tb := px_in (px_t5 (List.mem_of_getElem? (i := 217) rfl)) rfl
theorem w_1251 : Cond.instanceMethod ⟨"TubeChainModel", "takesHead", "(I)Z"⟩ ∈ px_tb := px_in (px_t5 (List.mem_of_getElem? (i := 219) rfl)) rfl
theorem w_1253 : Cond.methodLink "TubeChainModel" 236 ⟨"TubeChainModel", "next", "()I"⟩ ∈ px_tb := px_in (px_t5 (List.mem_of_getElem? (i := 221) rfl)) rfl
theorem w_1255 : Cond.instanceMethod ⟨"TubeChainModel", "next", "()I"⟩ ∈ px_tb := px_in (px_t5 (List.mem_of_getElem? (i := 223) rfl)) rfl
theorem w_1257 : Cond.methodLink "TubeChainModel" 266 ⟨"TubeChainModel", "takesWord", "(II)Z"⟩ ∈ px_tb := px_in (px_t5 (List.mem_of_getElem? (i := 225) rfl)) rfl
theorem w_1259 : Cond.instanceMethod ⟨"TubeChainModel", "takesWord", "(II)Z"⟩ ∈ px_tb := px_in (px_t5 (List.mem_of_getElem? (i := 227) rfl)) rfl
theorem w_1261 : Cond.methodLink "TubeChainModel" 240 ⟨"TubeChainModel", "takes", "(I)Z"⟩ ∈ px_tb := px_in (px_t5 (List.mem_of_getElem? (i := 229) rfl)) rfl
theorem w_1263 : Cond.instanceMethod ⟨"TubeChainModel", "takes", "(I)Z"⟩ ∈ px_tb := px_in (px_t5 (List.mem_of_getElem? (i := 231) rfl)) rfl
theorem w_1265 : Cond.methodLink "TubeChainModel" 270 ⟨"TubeChainModel", "second", "()I"⟩ ∈ px_tb := px_in (px_t5 (List.mem_of_getElem? (i := 233) rfl)) rfl
theorem w_1267 : Cond.instanceMethod ⟨"TubeChainModel", "second", "()I"⟩ ∈ px_tb := px_in (px_t5 (List.mem_of_getElem? (i := 235) rfl)) rfl
theorem w_1269 : Cond.methodLink "TubeChainModel" 254 ⟨"TubeChainModel", "takesNumber", "()Z"⟩ ∈ px_tb := px_in (px_t5 (List.mem_of_getElem? (i := 237) rfl)) rfl
theorem w_1271 : Cond.instanceMethod ⟨"TubeChainModel", "takesNumber", "()Z"⟩ ∈ px_tb := px_in (px_t5 (List.mem_of_getElem? (i := 239) rfl)) rfl
theorem w_1273 : Cond.methodLink "TubeChainModel" 243 ⟨"TubeChainModel", "isDigit", "()Z"⟩ ∈ px_tb := px_in (px_t6 (List.mem_of_getElem? (i := 1) rfl)) rfl
theorem w_1275 : Cond.instanceMethod ⟨"TubeChainModel", "isDigit", "()Z"⟩ ∈ px_tb := px_in (px_t6 (List.mem_of_getElem? (i := 3) rfl)) rfl
theorem w_1277 : Cond.methodLink "TubeChainModel" 276 ⟨"TubeChainModel", "takesE", "(I)Z"⟩ ∈ px_tb := px_in (px_t6 (List.mem_of_getElem? (i := 5) rfl)) rfl
theorem w_1279 : Cond.instanceMethod ⟨"TubeChainModel", "takesE", "(I)Z"⟩ ∈ px_tb := px_in (px_t6 (List.mem_of_getElem? (i := 7) rfl)) rfl
theorem w_1281 : Cond.methodLink "TubeChainModel" 260 ⟨"TubeChainModel", "takesTest", "()Z"⟩ ∈ px_tb := px_in (px_t6 (List.mem_of_getElem? (i := 9) rfl)) rfl
theorem w_1283 : Cond.instanceMethod ⟨"TubeChainModel", "takesTest", "()Z"⟩ ∈ px_tb := px_in (px_t6 (List.mem_of_getElem? (i := 11) rfl)) rfl
theorem w_1285 : Cond.methodLink "TubeChainModel" 251 ⟨"TubeChainModel", "letterAt", "(I)I"⟩ ∈ px_tb := px_in (px_t6 (List.mem_of_getElem? (i := 13) rfl)) rfl
theorem w_1287 : Cond.instanceMethod ⟨"TubeChainModel", "letterAt", "(I)I"⟩ ∈ px_tb := px_in (px_t6 (List.mem_of_getElem? (i := 15) rfl)) rfl
theorem w_1289 : Cond.methodLink "TubeChainModel" 247 ⟨"TubeChainModel", "emits", "(I)V"⟩ ∈ px_tb := px_in (px_t6 (List.mem_of_getElem? (i := 17) rfl)) rfl
theorem w_1291 : Cond.instanceMethod ⟨"TubeChainModel", "emits", "(I)V"⟩ ∈ px_tb := px_in (px_t6 (List.mem_of_getElem? (i := 19) rfl)) rfl
theorem w_1293 : Cond.methodLink "TubeChainModel" 257 ⟨"TubeChainModel", "whole", "()V"⟩ ∈ px_tb := px_in (px_t6 (List.mem_of_getElem? (i := 21) rfl)) rfl
theorem w_1295 : Cond.instanceMethod ⟨"TubeChainModel", "whole", "()V"⟩ ∈ px_tb := px_in (px_t6 (List.mem_of_getElem? (i := 23) rfl)) rfl
theorem w_1297 : Cond.methodLink "TubeChainModel" 263 ⟨"TubeChainModel", "settle", "(I)V"⟩ ∈ px_tb := px_in (px_t6 (List.mem_of_getElem? (i := 25) rfl)) rfl
theorem w_1299 : Cond.instanceMethod ⟨"TubeChainModel", "settle", "(I)V"⟩ ∈ px_tb := px_in (px_t6 (List.mem_of_getElem? (i := 27) rfl)) rfl
theorem w_1301 : Cond.methodLink "TubeChainLaw" 21 ⟨"TubeChainModel", "of", "(II)I"⟩ ∈ px_tb := px_in (px_t6 (List.mem_of_getElem? (i := 29) rfl)) rfl
theorem w_1302 : Cond.instanceMethod ⟨"TubeChainModel", "of", "(II)I"⟩ ∈ px_tb := px_in (px_t6 (List.mem_of_getElem? (i := 30) rfl)) rfl
theorem w_1303 : Cond.selects "TubeChainModel" ⟨"TubeChainModel", "of", "(II)I"⟩ ⟨"TubeChainModel", "of", "(II)I"⟩ ∈ px_tb := px_in (px_t6 (List.mem_of_getElem? (i := 31) rfl)) rfl
theorem w_1305 : Cond.methodLink "TubeChainModel" 304 ⟨"TubeChainModel", "pace", "(I)I"⟩ ∈ px_tb := px_in (px_t6 (List.mem_of_getElem? (i := 33) rfl)) rfl
theorem w_1307 : Cond.instanceMethod ⟨"TubeChainModel", "pace", "(I)I"⟩ ∈ px_tb := px_in (px_t6 (List.mem_of_getElem? (i := 35) rfl)) rfl
theorem w_1309 : Cond.methodLink "TubeChainModel" 285 ⟨"TubeChainModel", "begin", "()I"⟩ ∈ px_tb := px_in (px_t6 (List.mem_of_getElem? (i := 37) rfl)) rfl
theorem w_1311 : Cond.instanceMethod ⟨"TubeChainModel", "begin", "()I"⟩ ∈ px_tb := px_in (px_t6 (List.mem_of_getElem? (i := 39) rfl)) rfl
theorem w_1313 : Cond.methodLink "TubeChainModel" 288 ⟨"TubeChainModel", "behind", "()I"⟩ ∈ px_tb := px_in (px_t6 (List.mem_of_getElem? (i := 41) rfl)) rfl
theorem w_1315 : Cond.instanceMethod ⟨"TubeChainModel", "behind", "()I"⟩ ∈ px_tb := px_in (px_t6 (List.mem_of_getElem? (i := 43) rfl)) rfl
theorem w_1317 : Cond.methodLink "TubeChainModel" 301 ⟨"TubeChainModel", "holdsTest", "(II)Z"⟩ ∈ px_tb := px_in (px_t6 (List.mem_of_getElem? (i := 45) rfl)) rfl
theorem w_1319 : Cond.instanceMethod ⟨"TubeChainModel", "holdsTest", "(II)Z"⟩ ∈ px_tb := px_in (px_t6 (List.mem_of_getElem? (i := 47) rfl)) rfl
theorem w_1321 : Cond.methodLink "TubeChainModel" 298 ⟨"TubeChainModel", "factOf", "(II)I"⟩ ∈ px_tb := px_in (px_t6 (List.mem_of_getElem? (i := 49) rfl)) rfl
theorem w_1323 : Cond.instanceMethod ⟨"TubeChainModel", "factOf", "(II)I"⟩ ∈ px_tb := px_in (px_t6 (List.mem_of_getElem? (i := 51) rfl)) rfl
theorem w_1325 : Cond.methodLink "TubeChainModel" 295 ⟨"TubeChainModel", "atLeastOne", "(I)I"⟩ ∈ px_tb := px_in (px_t6 (List.mem_of_getElem? (i := 53) rfl)) rfl
theorem w_1327 : Cond.instanceMethod ⟨"TubeChainModel", "atLeastOne", "(I)I"⟩ ∈ px_tb := px_in (px_t6 (List.mem_of_getElem? (i := 55) rfl)) rfl
theorem w_1329 : Cond.methodLink "TubeChainModel" 310 ⟨"TubeChainModel", "holdsFor", "(I)I"⟩ ∈ px_tb := px_in (px_t6 (List.mem_of_getElem? (i := 57) rfl)) rfl
theorem w_1331 : Cond.instanceMethod ⟨"TubeChainModel", "holdsFor", "(I)I"⟩ ∈ px_tb := px_in (px_t6 (List.mem_of_getElem? (i := 59) rfl)) rfl
theorem w_1333 : Cond.methodLink "TubeChainModel" 307 ⟨"TubeChainModel", "strongly", "(II)I"⟩ ∈ px_tb := px_in (px_t6 (List.mem_of_getElem? (i := 61) rfl)) rfl
theorem w_1335 : Cond.instanceMethod ⟨"TubeChainModel", "strongly", "(II)I"⟩ ∈ px_tb := px_in (px_t6 (List.mem_of_getElem? (i := 63) rfl)) rfl
theorem w_1337 : Cond.methodLink "TubeChainLaw" 48 ⟨"TubeChainModel", "told", "(I)I"⟩ ∈ px_tb := px_in (px_t6 (List.mem_of_getElem? (i := 65) rfl)) rfl
theorem w_1338 : Cond.instanceMethod ⟨"TubeChainModel", "told", "(I)I"⟩ ∈ px_tb := px_in (px_t6 (List.mem_of_getElem? (i := 66) rfl)) rfl
theorem w_1339 : Cond.selects "TubeChainModel" ⟨"TubeChainModel", "told", "(I)I"⟩ ⟨"TubeChainModel", "told", "(I)I"⟩ ∈ px_tb := px_in (px_t6 (List.mem_of_getElem? (i := 67) rfl)) rfl
theorem w_1341 : Cond.methodLink "TubeChainModel" 313 ⟨"TubeChainModel", "rise", "()I"⟩ ∈ px_tb := px_in (px_t6 (List.mem_of_getElem? (i := 69) rfl)) rfl
theorem w_1343 : Cond.instanceMethod ⟨"TubeChainModel", "rise", "()I"⟩ ∈ px_tb := px_in (px_t6 (List.mem_of_getElem? (i := 71) rfl)) rfl
theorem w_1345 : Cond.methodLink "TubeChainModel" 291 ⟨"TubeChainModel", "lastOf", "(II)I"⟩ ∈ px_tb := px_in (px_t6 (List.mem_of_getElem? (i := 73) rfl)) rfl
theorem w_1347 : Cond.instanceMethod ⟨"TubeChainModel", "lastOf", "(II)I"⟩ ∈ px_tb := px_in (px_t6 (List.mem_of_getElem? (i := 75) rfl)) rfl
theorem w_1349 : Cond.methodLink "TubeChainModel" 316 ⟨"TubeChainModel", "rest", "()I"⟩ ∈ px_tb := px_in (px_t6 (List.mem_of_getElem? (i := 77) rfl)) rfl
theorem w_1351 : Cond.instanceMethod ⟨"TubeChainModel", "rest", "()I"⟩ ∈ px_tb := px_in (px_t6 (List.mem_of_getElem? (i := 79) rfl)) rfl
theorem w_1353 : Cond.methodLink "TubeChainModel" 319 ⟨"TubeChainModel", "pull", "()I"⟩ ∈ px_tb := px_in (px_t6 (List.mem_of_getElem? (i := 81) rfl)) rfl
theorem w_1355 : Cond.instanceMethod ⟨"TubeChainModel", "pull", "()I"⟩ ∈ px_tb := px_in (px_t6 (List.mem_of_getElem? (i := 83) rfl)) rfl
theorem w_1357 : Cond.methodLink "TubeChainLaw" 52 ⟨"TubeChainModel", "up", "(I)I"⟩ ∈ px_tb := px_in (px_t6 (List.mem_of_getElem? (i := 85) rfl)) rfl
theorem w_1358 : Cond.instanceMethod ⟨"TubeChainModel", "up", "(I)I"⟩ ∈ px_tb := px_in (px_t6 (List.mem_of_getElem? (i := 86) rfl)) rfl
theorem w_1359 : Cond.selects "TubeChainModel" ⟨"TubeChainModel", "up", "(I)I"⟩ ⟨"TubeChainModel", "up", "(I)I"⟩ ∈ px_tb := px_in (px_t6 (List.mem_of_getElem? (i := 87) rfl)) rfl
theorem w_1361 : Cond.methodLink "TubeChainModel" 325 ⟨"TubeChainModel", "isBeat", "(I)Z"⟩ ∈ px_tb := px_in (px_t6 (List.mem_of_getElem? (i := 89) rfl)) rfl
theorem w_1363 : Cond.instanceMethod ⟨"TubeChainModel", "isBeat", "(I)Z"⟩ ∈ px_tb := px_in (px_t6 (List.mem_of_getElem? (i := 91) rfl)) rfl
theorem w_1365 : Cond.constant "TubeChainModel" 328 999999 ∈ px_tb := px_in (px_t6 (List.mem_of_getElem? (i := 93) rfl)) rfl
theorem w_1366 : Cond.methodLink "TubeChainModel" 329 ⟨"TubeChainModel", "goTube", "()Z"⟩ ∈ px_tb := px_in (px_t6 (List.mem_of_getElem? (i := 94) rfl)) rfl
theorem w_1368 : Cond.instanceMethod ⟨"TubeChainModel", "goTube", "()Z"⟩ ∈ px_tb := px_in (px_t6 (List.mem_of_getElem? (i := 96) rfl)) rfl
theorem w_1370 : Cond.methodLink "TubeChainModel" 322 ⟨"TubeChainModel", "holdsOnce", "(I)V"⟩ ∈ px_tb := px_in (px_t6 (List.mem_of_getElem? (i := 98) rfl)) rfl
theorem w_1372 : Cond.instanceMethod ⟨"TubeChainModel", "holdsOnce", "(I)V"⟩ ∈ px_tb := px_in (px_t6 (List.mem_of_getElem? (i := 100) rfl)) rfl
theorem w_1374 : Cond.methodLink "TubeChainLaw" 56 ⟨"TubeChainModel", "pause", "(I)I"⟩ ∈ px_tb := px_in (px_t6 (List.mem_of_getElem? (i := 102) rfl)) rfl
theorem w_1375 : Cond.instanceMethod ⟨"TubeChainModel", "pause", "(I)I"⟩ ∈ px_tb := px_in (px_t6 (List.mem_of_getElem? (i := 103) rfl)) rfl
theorem w_1376 : Cond.selects "TubeChainModel" ⟨"TubeChainModel", "pause", "(I)I"⟩ ⟨"TubeChainModel", "pause", "(I)I"⟩ ∈ px_tb := px_in (px_t6 (List.mem_of_getElem? (i := 104) rfl)) rfl
theorem w_1378 : Cond.methodLink "TubeChainLaw" 60 ⟨"TubeChainModel", "on", "(III)I"⟩ ∈ px_tb := px_in (px_t6 (List.mem_of_getElem? (i := 106) rfl)) rfl
theorem w_1379 : Cond.instanceMethod ⟨"TubeChainModel", "on", "(III)I"⟩ ∈ px_tb := px_in (px_t6 (List.mem_of_getElem? (i := 107) rfl)) rfl
theorem w_1380 : Cond.selects "TubeChainModel" ⟨"TubeChainModel", "on", "(III)I"⟩ ⟨"TubeChainModel", "on", "(III)I"⟩ ∈ px_tb := px_in (px_t6 (List.mem_of_getElem? (i := 108) rfl)) rfl
theorem w_1382 : Cond.methodLink "TubeChainModel" 339 ⟨"TubeChainModel", "layTubes", "(IIII)V"⟩ ∈ px_tb := px_in (px_t6 (List.mem_of_getElem? (i := 110) rfl)) rfl
theorem w_1384 : Cond.instanceMethod ⟨"TubeChainModel", "layTubes", "(IIII)V"⟩ ∈ px_tb := px_in (px_t6 (List.mem_of_getElem? (i := 112) rfl)) rfl
theorem w_1386 : Cond.methodLink "TubeChainModel" 333 ⟨"TubeChainModel", "save", "()V"⟩ ∈ px_tb := px_in (px_t6 (List.mem_of_getElem? (i := 114) rfl)) rfl
theorem w_1388 : Cond.instanceMethod ⟨"TubeChainModel", "save", "()V"⟩ ∈ px_tb := px_in (px_t6 (List.mem_of_getElem? (i := 116) rfl)) rfl
theorem w_1390 : Cond.constant "TubeChainModel" 332 2000000000 ∈ px_tb := px_in (px_t6 (List.mem_of_getElem? (i := 118) rfl)) rfl
theorem w_1391 : Cond.methodLink "TubeChainModel" 336 ⟨"TubeChainModel", "putBack", "()V"⟩ ∈ px_tb := px_in (px_t6 (List.mem_of_getElem? (i := 119) rfl)) rfl
theorem w_1393 : Cond.instanceMethod ⟨"TubeChainModel", "putBack", "()V"⟩ ∈ px_tb := px_in (px_t6 (List.mem_of_getElem? (i := 121) rfl)) rfl
theorem w_1395 : Cond.methodLink "TubeChainModel" 343 ⟨"TubeChainModel", "mostDrops", "()I"⟩ ∈ px_tb := px_in (px_t6 (List.mem_of_getElem? (i := 123) rfl)) rfl
theorem w_1397 : Cond.instanceMethod ⟨"TubeChainModel", "mostDrops", "()I"⟩ ∈ px_tb := px_in (px_t6 (List.mem_of_getElem? (i := 125) rfl)) rfl
theorem w_1399 : Cond.methodLink "TubeChainLaw" 64 ⟨"TubeChainModel", "safe", "(I)I"⟩ ∈ px_tb := px_in (px_t6 (List.mem_of_getElem? (i := 127) rfl)) rfl
theorem w_1400 : Cond.instanceMethod ⟨"TubeChainModel", "safe", "(I)I"⟩ ∈ px_tb := px_in (px_t6 (List.mem_of_getElem? (i := 128) rfl)) rfl
theorem w_1401 : Cond.selects "TubeChainModel" ⟨"TubeChainModel", "safe", "(I)I"⟩ ⟨"TubeChainModel", "safe", "(I)I"⟩ ∈ px_tb := px_in (px_t6 (List.mem_of_getElem? (i := 129) rfl)) rfl
theorem w_1403 : Cond.methodLink "TubeChainModel" 349 ⟨"TubeChainModel", "safeNow", "(I)I"⟩ ∈ px_tb := px_in (px_t6 (List.mem_of_getElem? (i := 131) rfl)) rfl
theorem w_1405 : Cond.instanceMethod ⟨"TubeChainModel", "safeNow", "(I)I"⟩ ∈ px_tb := px_in (px_t6 (List.mem_of_getElem? (i := 133) rfl)) rfl
theorem w_1407 : Cond.methodLink "TubeChainModel" 346 ⟨"TubeChainModel", "upBy", "(II)I"⟩ ∈ px_tb := px_in (px_t6 (List.mem_of_getElem? (i := 135) rfl)) rfl
theorem w_1409 : Cond.instanceMethod ⟨"TubeChainModel", "upBy", "(II)I"⟩ ∈ px_tb := px_in (px_t6 (List.mem_of_getElem? (i := 137) rfl)) rfl
theorem w_1411 : Cond.methodLink "TubeChainLaw" 68 ⟨"TubeChainModel", "best", "(II)I"⟩ ∈ px_tb := px_in (px_t6 (List.mem_of_getElem? (i := 139) rfl)) rfl
theorem w_1412 : Cond.instanceMethod ⟨"TubeChainModel", "best", "(II)I"⟩ ∈ px_tb := px_in (px_t6 (List.mem_of_getElem? (i := 140) rfl)) rfl
theorem w_1413 : Cond.selects "TubeChainModel" ⟨"TubeChainModel", "best", "(II)I"⟩ ⟨"TubeChainModel", "best", "(II)I"⟩ ∈ px_tb := px_in (px_t6 (List.mem_of_getElem? (i := 141) rfl)) rfl
theorem w_1415 : Cond.methodLink "TubeChainLaw" 72 ⟨"TubeChainModel", "slowest", "()I"⟩ ∈ px_tb := px_in (px_t6 (List.mem_of_getElem? (i := 143) rfl)) rfl
theorem w_1416 : Cond.instanceMethod ⟨"TubeChainModel", "slowest", "()I"⟩ ∈ px_tb := px_in (px_t6 (List.mem_of_getElem? (i := 144) rfl)) rfl
theorem w_1417 : Cond.selects "TubeChainModel" ⟨"TubeChainModel", "slowest", "()I"⟩ ⟨"TubeChainModel", "slowest", "()I"⟩ ∈ px_tb := px_in (px_t6 (List.mem_of_getElem? (i := 145) rfl)) rfl
theorem w_1419 : Cond.methodLink "TubeChainLaw" 76 ⟨"TubeChainModel", "order", "(II)I"⟩ ∈ px_tb := px_in (px_t6 (List.mem_of_getElem? (i := 147) rfl)) rfl
theorem w_1420 : Cond.instanceMethod ⟨"TubeChainModel", "order", "(II)I"⟩ ∈ px_tb := px_in (px_t6 (List.mem_of_getElem? (i := 148) rfl)) rfl
theorem w_1421 : Cond.selects "TubeChainModel" ⟨"TubeChainModel", "order", "(II)I"⟩ ⟨"TubeChainModel", "order", "(II)I"⟩ ∈ px_tb := px_in (px_t6 (List.mem_of_getElem? (i := 149) rfl)) rfl
theorem w_1423 : Cond.methodLink "TubeChainModel" 355 ⟨"TubeChainModel", "keepChain", "()V"⟩ ∈ px_tb := px_in (px_t6 (List.mem_of_getElem? (i := 151) rfl)) rfl
theorem w_1425 : Cond.instanceMethod ⟨"TubeChainModel", "keepChain", "()V"⟩ ∈ px_tb := px_in (px_t6 (List.mem_of_getElem? (i := 153) rfl)) rfl
theorem w_1427 : Cond.methodLink "TubeChainModel" 358 ⟨"TubeChainModel", "layOrder", "(I)Z"⟩ ∈ px_tb := px_in (px_t6 (List.mem_of_getElem? (i := 155) rfl)) rfl
theorem w_1429 : Cond.instanceMethod ⟨"TubeChainModel", "layOrder", "(I)Z"⟩ ∈ px_tb := px_in (px_t6 (List.mem_of_getElem? (i := 157) rfl)) rfl
theorem w_1431 : Cond.methodLink "TubeChainModel" 352 ⟨"TubeChainModel", "has", "(II)Z"⟩ ∈ px_tb := px_in (px_t6 (List.mem_of_getElem? (i := 159) rfl)) rfl
theorem w_1433 : Cond.instanceMethod ⟨"TubeChainModel", "has", "(II)Z"⟩ ∈ px_tb := px_in (px_t6 (List.mem_of_getElem? (i := 161) rfl)) rfl
theorem w_1435 : Cond.methodLink "TubeChainModel" 361 ⟨"TubeChainModel", "putChain", "()V"⟩ ∈ px_tb := px_in (px_t6 (List.mem_of_getElem? (i := 163) rfl)) rfl
theorem w_1437 : Cond.instanceMethod ⟨"TubeChainModel", "putChain", "()V"⟩ ∈ px_tb := px_in (px_t6 (List.mem_of_getElem? (i := 165) rfl)) rfl
theorem w_1439 : Cond.methodLink "TubeChainLaw" 80 ⟨"TubeChainModel", "without", "(III)I"⟩ ∈ px_tb := px_in (px_t6 (List.mem_of_getElem? (i := 167) rfl)) rfl
theorem w_1440 : Cond.instanceMethod ⟨"TubeChainModel", "without", "(III)I"⟩ ∈ px_tb := px_in (px_t6 (List.mem_of_getElem? (i := 168) rfl)) rfl
theorem w_1441 : Cond.selects "TubeChainModel" ⟨"TubeChainModel", "without", "(III)I"⟩ ⟨"TubeChainModel", "without", "(III)I"⟩ ∈ px_tb := px_in (px_t6 (List.mem_of_getElem? (i := 169) rfl)) rfl
theorem w_1443 : Cond.methodLink "TubeChainLaw" 84 ⟨"TubeChainModel", "pulley", "(II)I"⟩ ∈ px_tb := px_in (px_t6 (List.mem_of_getElem? (i := 171) rfl)) rfl
theorem w_1444 : Cond.instanceMethod ⟨"TubeChainModel", "pulley", "(II)I"⟩ ∈ px_tb := px_in (px_t6 (List.mem_of_getElem? (i := 172) rfl)) rfl
theorem w_1445 : Cond.selects "TubeChainModel" ⟨"TubeChainModel", "pulley", "(II)I"⟩ ⟨"TubeChainModel", "pulley", "(II)I"⟩ ∈ px_tb := px_in (px_t6 (List.mem_of_getElem? (i := 173) rfl)) rfl
theorem w_1447 : Cond.methodLink "TubeChainModel" 365 ⟨"TubeChainModel", "pulleyOf", "(II)I"⟩ ∈ px_tb := px_in (px_t6 (List.mem_of_getElem? (i := 175) rfl)) rfl
theorem w_1449 : Cond.instanceMethod ⟨"TubeChainModel", "pulleyOf", "(II)I"⟩ ∈ px_tb := px_in (px_t6 (List.mem_of_getElem? (i := 177) rfl)) rfl
theorem w_1451 : Cond.constant "TubeChainModel" 364 (-100001) ∈ px_tb := px_in (px_t6 (List.mem_of_getElem? (i := 179) rfl)) rfl
theorem w_1452 : Cond.constant "TubeChainModel" 368 (-100002) ∈ px_tb := px_in (px_t6 (List.mem_of_getElem? (i := 180) rfl)) rfl
theorem w_1453 : Cond.methodLink "TubeChainLaw" 88 ⟨"TubeChainModel", "from", "(I)I"⟩ ∈ px_tb := px_in (px_t6 (List.mem_of_getElem? (i := 181) rfl)) rfl
theorem w_1454 : Cond.instanceMethod ⟨"TubeChainModel", "from", "(I)I"⟩ ∈ px_tb := px_in (px_t6 (List.mem_of_getElem? (i := 182) rfl)) rfl
theorem w_1455 : Cond.selects "TubeChainModel" ⟨"TubeChainModel", "from", "(I)I"⟩ ⟨"TubeChainModel", "from", "(I)I"⟩ ∈ px_tb := px_in (px_t6 (List.mem_of_getElem? (i := 183) rfl)) rfl
theorem w_1457 : Cond.methodLink "TubeChainLaw" 92 ⟨"TubeChainModel", "rested", "(III)I"⟩ ∈ px_tb := px_in (px_t6 (List.mem_of_getElem? (i := 185) rfl)) rfl
theorem w_1458 : Cond.instanceMethod ⟨"TubeChainModel", "rested", "(III)I"⟩ ∈ px_tb := px_in (px_t6 (List.mem_of_getElem? (i := 186) rfl)) rfl
theorem w_1459 : Cond.selects "TubeChainModel" ⟨"TubeChainModel", "rested", "(III)I"⟩ ⟨"TubeChainModel", "rested", "(III)I"⟩ ∈ px_tb := px_in (px_t6 (List.mem_of_getElem? (i := 187) rfl)) rfl
theorem w_1461 : Cond.methodLink "TubeChainLaw" 96 ⟨"TubeChainModel", "change", "(II)I"⟩ ∈ px_tb := px_in (px_t6 (List.mem_of_getElem? (i := 189) rfl)) rfl
theorem w_1462 : Cond.instanceMethod ⟨"TubeChainModel", "change", "(II)I"⟩ ∈ px_tb := px_in (px_t6 (List.mem_of_getElem? (i := 190) rfl)) rfl
theorem w_1463 : Cond.selects "TubeChainModel" ⟨"TubeChainModel", "change", "(II)I"⟩ ⟨"TubeChainModel", "change", "(II)I"⟩ ∈ px_tb := px_in (px_t6 (List.mem_of_getElem? (i := 191) rfl)) rfl
theorem w_1465 : Cond.methodLink "TubeChainModel" 369 ⟨"TubeChainModel", "swaps", "(II)V"⟩ ∈ px_tb := px_in (px_t6 (List.mem_of_getElem? (i := 193) rfl)) rfl
theorem w_1467 : Cond.instanceMethod ⟨"TubeChainModel", "swaps", "(II)V"⟩ ∈ px_tb := px_in (px_t6 (List.mem_of_getElem? (i := 195) rfl)) rfl
theorem w_1469 : Cond.methodLink "TubeChainLaw" 100 ⟨"TubeChainModel", "see", "(I)I"⟩ ∈ px_tb := px_in (px_t6 (List.mem_of_getElem? (i := 197) rfl)) rfl
theorem w_1470 : Cond.instanceMethod ⟨"TubeChainModel", "see", "(I)I"⟩ ∈ px_tb := px_in (px_t6 (List.mem_of_getElem? (i := 198) rfl)) rfl
theorem w_1471 : Cond.selects "TubeChainModel" ⟨"TubeChainModel", "see", "(I)I"⟩ ⟨"TubeChainModel", "see", "(I)I"⟩ ∈ px_tb := px_in (px_t6 (List.mem_of_getElem? (i := 199) rfl)) rfl
theorem w_1473 : Cond.methodLink "TubeChainLaw" 104 ⟨"TubeChainModel", "who", "(I)I"⟩ ∈ px_tb := px_in (px_t6 (List.mem_of_getElem? (i := 201) rfl)) rfl
theorem w_1474 : Cond.instanceMethod ⟨"TubeChainModel", "who", "(I)I"⟩ ∈ px_tb := px_in (px_t6 (List.mem_of_getElem? (i := 202) rfl)) rfl
theorem w_1475 : Cond.selects "TubeChainModel" ⟨"TubeChainModel", "who", "(I)I"⟩ ⟨"TubeChainModel", "who", "(I)I"⟩ ∈ px_tb := px_in (px_t6 (List.mem_of_getElem? (i := 203) rfl)) rfl
theorem w_1477 : Cond.constant "TubeChainModel" 373 1048575 ∈ px_tb := px_in (px_t6 (List.mem_of_getElem? (i := 205) rfl)) rfl
theorem w_1478 : Cond.methodLink "TubeChainLaw" 109 ⟨"TubeChainModel", "odds", "(III)J"⟩ ∈ px_tb := px_in (px_t6 (List.mem_of_getElem? (i := 206) rfl)) rfl
theorem w_1479 : Cond.instanceMethod ⟨"TubeChainModel", "odds", "(III)J"⟩ ∈ px_tb := px_in (px_t6 (List.mem_of_getElem? (i := 207) rfl)) rfl
theorem w_1480 : Cond.selects "TubeChainModel" ⟨"TubeChainModel", "odds", "(III)J"⟩ ⟨"TubeChainModel", "odds", "(III)J"⟩ ∈ px_tb := px_in (px_t6 (List.mem_of_getElem? (i := 208) rfl)) rfl
theorem w_1482 : Cond.constantLong "TubeChainModel" 377 (-9223372036854775808) ∈ px_tb := px_in (px_t6 (List.mem_of_getElem? (i := 210) rfl)) rfl
theorem w_1483 : Cond.methodLink "TubeChainModel" 379 ⟨"TubeChainModel", "lowest", "(III)J"⟩ ∈ px_tb := px_in (px_t6 (List.mem_of_getElem? (i := 211) rfl)) rfl
theorem w_1485 : Cond.instanceMethod ⟨"TubeChainModel", "lowest", "(III)J"⟩ ∈ px_tb := px_in (px_t6 (List.mem_of_getElem? (i := 213) rfl)) rfl
theorem w_1487 : Cond.methodLink "TubeChainModel" 374 ⟨"TubeChainModel", "divisor", "(II)I"⟩ ∈ px_tb := px_in (px_t6 (List.mem_of_getElem? (i := 215) rfl)) rfl
theorem w_1489 : Cond.instanceMethod ⟨"TubeChainModel", "divisor", "(II)I"⟩ ∈ px_tb := px_in (px_t6 (List.mem_of_getElem? (i := 217) rfl)) rfl
theorem w_1491 : Cond.methodLink "TubeChainLaw" 114 ⟨"TubeChainModel", "mean", "(II)J"⟩ ∈ px_tb := px_in (px_t6 (List.mem_of_getElem? (i := 219) rfl)) rfl
theorem w_1492 : Cond.instanceMethod ⟨"TubeChainModel", "mean", "(II)J"⟩ ∈ px_tb := px_in (px_t6 (List.mem_of_getElem? (i := 220) rfl)) rfl
theorem w_1493 : Cond.selects "TubeChainModel" ⟨"TubeChainModel", "mean", "(II)J"⟩ ⟨"TubeChainModel", "mean", "(II)J"⟩ ∈ px_tb := px_in (px_t6 (List.mem_of_getElem? (i := 221) rfl)) rfl
theorem w_1495 : Cond.methodLink "TubeChainLaw" 119 ⟨"TubeChainModel", "book", "(IZ)I"⟩ ∈ px_tb := px_in (px_t6 (List.mem_of_getElem? (i := 223) rfl)) rfl
theorem w_1496 : Cond.instanceMethod ⟨"TubeChainModel", "book", "(IZ)I"⟩ ∈ px_tb := px_in (px_t6 (List.mem_of_getElem? (i := 224) rfl)) rfl
theorem w_1497 : Cond.selects "TubeChainModel" ⟨"TubeChainModel", "book", "(IZ)I"⟩ ⟨"TubeChainModel", "book", "(IZ)I"⟩ ∈ px_tb := px_in (px_t6 (List.mem_of_getElem? (i := 225) rfl)) rfl
theorem w_1499 : Cond.methodLink "TubeChainLaw" 123 ⟨"TubeChainModel", "looked", "(I)I"⟩ ∈ px_tb := px_in (px_t6 (List.mem_of_getElem? (i := 227) rfl)) rfl
theorem w_1500 : Cond.instanceMethod ⟨"TubeChainModel", "looked", "(I)I"⟩ ∈ px_tb := px_in (px_t6 (List.mem_of_getElem? (i := 228) rfl)) rfl
theorem w_1501 : Cond.selects "TubeChainModel" ⟨"TubeChainModel", "looked", "(I)I"⟩ ⟨"TubeChainModel", "looked", "(I)I"⟩ ∈ px_tb := px_in (px_t6 (List.mem_of_getElem? (i := 229) rfl)) rfl
theorem w_1503 : Cond.methodLink "TubeChainLaw" 127 ⟨"TubeChainModel", "judge", "(II)I"⟩ ∈ px_tb := px_in (px_t6 (List.mem_of_getElem? (i := 231) rfl)) rfl
theorem w_1504 : Cond.instanceMethod ⟨"TubeChainModel", "judge", "(II)I"⟩ ∈ px_tb := px_in (px_t6 (List.mem_of_getElem? (i := 232) rfl)) rfl
theorem w_1505 : Cond.selects "TubeChainModel" ⟨"TubeChainModel", "judge", "(II)I"⟩ ⟨"TubeChainModel", "judge", "(II)I"⟩ ∈ px_tb := px_in (px_t6 (List.mem_of_getElem? (i := 233) rfl)) rfl
theorem w_1507 : Cond.methodLink "TubeChainModel" 383 ⟨"TubeChainModel", "isTape", "(I)Z"⟩ ∈ px_tb := px_in (px_t6 (List.mem_of_getElem? (i := 235) rfl)) rfl
theorem w_1509 : Cond.instanceMethod ⟨"TubeChainModel", "isTape", "(I)Z"⟩ ∈ px_tb := px_in (px_t6 (List.mem_of_getElem? (i := 237) rfl)) rfl
theorem w_1511 : Cond.methodLink "TubeChainLaw" 131 ⟨"TubeChainModel", "image", "()I"⟩ ∈ px_tb := px_in (px_t6 (List.mem_of_getElem? (i := 239) rfl)) rfl
theorem w_1512 : Cond.instanceMethod ⟨"TubeChainModel", "image", "()I"⟩ ∈ px_tb := px_in (px_t7 (List.mem_of_getElem? (i := 0) rfl)) rfl
theorem w_1513 : Cond.selects "TubeChainModel" ⟨"TubeChainModel", "image", "()I"⟩ ⟨"TubeChainModel", "image", "()I"⟩ ∈ px_tb := px_in (px_t7 (List.mem_of_getElem? (i := 1) rfl)) rfl
theorem w_1515 : Cond.methodLink "TubeChainLaw" 135 ⟨"TubeChainModel", "undo", "()I"⟩ ∈ px_tb := px_in (px_t7 (List.mem_of_getElem? (i := 3) rfl)) rfl
theorem w_1516 : Cond.instanceMethod ⟨"TubeChainModel", "undo", "()I"⟩ ∈ px_tb := px_in (px_t7 (List.mem_of_getElem? (i := 4) rfl)) rfl
theorem w_1517 : Cond.selects "TubeChainModel" ⟨"TubeChainModel", "undo", "()I"⟩ ⟨"TubeChainModel", "undo", "()I"⟩ ∈ px_tb := px_in (px_t7 (List.mem_of_getElem? (i := 5) rfl)) rfl
theorem w_1519 : Cond.methodLink "TubeChainLaw" 139 ⟨"TubeChainModel", "act", "(III)I"⟩ ∈ px_tb := px_in (px_t7 (List.mem_of_getElem? (i := 7) rfl)) rfl
theorem w_1520 : Cond.instanceMethod ⟨"TubeChainModel", "act", "(III)I"⟩ ∈ px_tb := px_in (px_t7 (List.mem_of_getElem? (i := 8) rfl)) rfl
theorem w_1521 : Cond.selects "TubeChainModel" ⟨"TubeChainModel", "act", "(III)I"⟩ ⟨"TubeChainModel", "act", "(III)I"⟩ ∈ px_tb := px_in (px_t7 (List.mem_of_getElem? (i := 9) rfl)) rfl
theorem w_1523 : Cond.methodLink "TubeChainModel" 392 ⟨"TubeChainModel", "throwsAct", "(II)I"⟩ ∈ px_tb := px_in (px_t7 (List.mem_of_getElem? (i := 11) rfl)) rfl
theorem w_1525 : Cond.instanceMethod ⟨"TubeChainModel", "throwsAct", "(II)I"⟩ ∈ px_tb := px_in (px_t7 (List.mem_of_getElem? (i := 13) rfl)) rfl
theorem w_1527 : Cond.methodLink "TubeChainModel" 386 ⟨"TubeChainModel", "body", "(I)V"⟩ ∈ px_tb := px_in (px_t7 (List.mem_of_getElem? (i := 15) rfl)) rfl
theorem w_1529 : Cond.instanceMethod ⟨"TubeChainModel", "body", "(I)V"⟩ ∈ px_tb := px_in (px_t7 (List.mem_of_getElem? (i := 17) rfl)) rfl
theorem w_1531 : Cond.methodLink "TubeChainModel" 389 ⟨"TubeChainModel", "manThrows", "(II)I"⟩ ∈ px_tb := px_in (px_t7 (List.mem_of_getElem? (i := 19) rfl)) rfl
theorem w_1533 : Cond.instanceMethod ⟨"TubeChainModel", "manThrows", "(II)I"⟩ ∈ px_tb := px_in (px_t7 (List.mem_of_getElem? (i := 21) rfl)) rfl
theorem w_1535 : Cond.methodLink "TubeChainModel" 401 ⟨"TubeChainModel", "takesAct", "(II)I"⟩ ∈ px_tb := px_in (px_t7 (List.mem_of_getElem? (i := 23) rfl)) rfl
theorem w_1537 : Cond.instanceMethod ⟨"TubeChainModel", "takesAct", "(II)I"⟩ ∈ px_tb := px_in (px_t7 (List.mem_of_getElem? (i := 25) rfl)) rfl
theorem w_1539 : Cond.methodLink "TubeChainModel" 398 ⟨"TubeChainModel", "strongTakes", "(II)I"⟩ ∈ px_tb := px_in (px_t7 (List.mem_of_getElem? (i := 27) rfl)) rfl
theorem w_1541 : Cond.instanceMethod ⟨"TubeChainModel", "strongTakes", "(II)I"⟩ ∈ px_tb := px_in (px_t7 (List.mem_of_getElem? (i := 29) rfl)) rfl
theorem w_1543 : Cond.methodLink "TubeChainModel" 395 ⟨"TubeChainModel", "manTakes", "(II)I"⟩ ∈ px_tb := px_in (px_t7 (List.mem_of_getElem? (i := 31) rfl)) rfl
theorem w_1545 : Cond.instanceMethod ⟨"TubeChainModel", "manTakes", "(II)I"⟩ ∈ px_tb := px_in (px_t7 (List.mem_of_getElem? (i := 33) rfl)) rfl
theorem w_1547 : Cond.methodLink "TubeChainModel" 407 ⟨"TubeChainModel", "tellsAct", "(II)I"⟩ ∈ px_tb := px_in (px_t7 (List.mem_of_getElem? (i := 35) rfl)) rfl
theorem w_1549 : Cond.instanceMethod ⟨"TubeChainModel", "tellsAct", "(II)I"⟩ ∈ px_tb := px_in (px_t7 (List.mem_of_getElem? (i := 37) rfl)) rfl
theorem w_1551 : Cond.methodLink "TubeChainModel" 404 ⟨"TubeChainModel", "manTells", "(II)I"⟩ ∈ px_tb := px_in (px_t7 (List.mem_of_getElem? (i := 39) rfl)) rfl
theorem w_1553 : Cond.instanceMethod ⟨"TubeChainModel", "manTells", "(II)I"⟩ ∈ px_tb := px_in (px_t7 (List.mem_of_getElem? (i := 41) rfl)) rfl
theorem w_1555 : Cond.methodLink "TubeChainLaw" 143 ⟨"TubeChainModel", "trace", "(I)I"⟩ ∈ px_tb := px_in (px_t7 (List.mem_of_getElem? (i := 43) rfl)) rfl
theorem w_1556 : Cond.instanceMethod ⟨"TubeChainModel", "trace", "(I)I"⟩ ∈ px_tb := px_in (px_t7 (List.mem_of_getElem? (i := 44) rfl)) rfl
theorem w_1557 : Cond.selects "TubeChainModel" ⟨"TubeChainModel", "trace", "(I)I"⟩ ⟨"TubeChainModel", "trace", "(I)I"⟩ ∈ px_tb := px_in (px_t7 (List.mem_of_getElem? (i := 45) rfl)) rfl
theorem w_1559 : Cond.methodLink "TubeChainLaw" 147 ⟨"TubeChainModel", "taken", "(II)I"⟩ ∈ px_tb := px_in (px_t7 (List.mem_of_getElem? (i := 47) rfl)) rfl
theorem w_1560 : Cond.instanceMethod ⟨"TubeChainModel", "taken", "(II)I"⟩ ∈ px_tb := px_in (px_t7 (List.mem_of_getElem? (i := 48) rfl)) rfl
theorem w_1561 : Cond.selects "TubeChainModel" ⟨"TubeChainModel", "taken", "(II)I"⟩ ⟨"TubeChainModel", "taken", "(II)I"⟩ ∈ px_tb := px_in (px_t7 (List.mem_of_getElem? (i := 49) rfl)) rfl
theorem w_1563 : Cond.methodLink "TubeChainLaw" 151 ⟨"TubeChainModel", "count", "(I)I"⟩ ∈ px_tb := px_in (px_t7 (List.mem_of_getElem? (i := 51) rfl)) rfl
theorem w_1564 : Cond.instanceMethod ⟨"TubeChainModel", "count", "(I)I"⟩ ∈ px_tb := px_in (px_t7 (List.mem_of_getElem? (i := 52) rfl)) rfl
theorem w_1565 : Cond.selects "TubeChainModel" ⟨"TubeChainModel", "count", "(I)I"⟩ ⟨"TubeChainModel", "count", "(I)I"⟩ ∈ px_tb := px_in (px_t7 (List.mem_of_getElem? (i := 53) rfl)) rfl
theorem w_1567 : Cond.methodLink "TubeChainLaw" 155 ⟨"TubeChainModel", "tape", "(III)I"⟩ ∈ px_tb := px_in (px_t7 (List.mem_of_getElem? (i := 55) rfl)) rfl
theorem w_1568 : Cond.instanceMethod ⟨"TubeChainModel", "tape", "(III)I"⟩ ∈ px_tb := px_in (px_t7 (List.mem_of_getElem? (i := 56) rfl)) rfl
theorem w_1569 : Cond.selects "TubeChainModel" ⟨"TubeChainModel", "tape", "(III)I"⟩ ⟨"TubeChainModel", "tape", "(III)I"⟩ ∈ px_tb := px_in (px_t7 (List.mem_of_getElem? (i := 57) rfl)) rfl
theorem w_1571 : Cond.methodLink "TubeChainLaw" 162 ⟨"TubeChainModel", "item", "(IIJ)I"⟩ ∈ px_tb := px_in (px_t7 (List.mem_of_getElem? (i := 59) rfl)) rfl
theorem w_1572 : Cond.instanceMethod ⟨"TubeChainModel", "item", "(IIJ)I"⟩ ∈ px_tb := px_in (px_t7 (List.mem_of_getElem? (i := 60) rfl)) rfl
theorem w_1573 : Cond.selects "TubeChainModel" ⟨"TubeChainModel", "item", "(IIJ)I"⟩ ⟨"TubeChainModel", "item", "(IIJ)I"⟩ ∈ px_tb := px_in (px_t7 (List.mem_of_getElem? (i := 61) rfl)) rfl
theorem w_1575 : Cond.methodLink "TubeChainModel" 410 ⟨"TubeChainModel", "narrow", "(IJ)J"⟩ ∈ px_tb := px_in (px_t7 (List.mem_of_getElem? (i := 63) rfl)) rfl
theorem w_1577 : Cond.instanceMethod ⟨"TubeChainModel", "narrow", "(IJ)J"⟩ ∈ px_tb := px_in (px_t7 (List.mem_of_getElem? (i := 65) rfl)) rfl
theorem w_1579 : Cond.methodLink "TubeChainLaw" 166 ⟨"TubeChainModel", "read", "(II)J"⟩ ∈ px_tb := px_in (px_t7 (List.mem_of_getElem? (i := 67) rfl)) rfl
theorem w_1580 : Cond.instanceMethod ⟨"TubeChainModel", "read", "(II)J"⟩ ∈ px_tb := px_in (px_t7 (List.mem_of_getElem? (i := 68) rfl)) rfl
theorem w_1581 : Cond.selects "TubeChainModel" ⟨"TubeChainModel", "read", "(II)J"⟩ ⟨"TubeChainModel", "read", "(II)J"⟩ ∈ px_tb := px_in (px_t7 (List.mem_of_getElem? (i := 69) rfl)) rfl
theorem w_1583 : Cond.methodLink "TubeChainLaw" 171 ⟨"TubeChainModel", "shift", "(IIIII)I"⟩ ∈ px_tb := px_in (px_t7 (List.mem_of_getElem? (i := 71) rfl)) rfl
theorem w_1584 : Cond.instanceMethod ⟨"TubeChainModel", "shift", "(IIIII)I"⟩ ∈ px_tb := px_in (px_t7 (List.mem_of_getElem? (i := 72) rfl)) rfl
theorem w_1585 : Cond.selects "TubeChainModel" ⟨"TubeChainModel", "shift", "(IIIII)I"⟩ ⟨"TubeChainModel", "shift", "(IIIII)I"⟩ ∈ px_tb := px_in (px_t7 (List.mem_of_getElem? (i := 73) rfl)) rfl
theorem w_1587 : Cond.constantLong "TubeChainLaw" 156 4294967295 ∈ px_tb := px_in (px_t7 (List.mem_of_getElem? (i := 75) rfl)) rfl
theorem w_1588 : Cond.sameMethod "TubeChain$Strong" "TubeChain$Strong" "holds" "(III)I" ∈ px_tb := px_in (px_t7 (List.mem_of_getElem? (i := 76) rfl)) rfl
theorem w_1589 : Cond.sameMethod "TubeChain$Tiring" "TubeChain$Tiring" "holds" "(III)I" ∈ px_tb := px_in (px_t7 (List.mem_of_getElem? (i := 77) rfl)) rfl
theorem w_1590 : Cond.sameMethod "TubeChain$Strong" "TubeChain$Strong" "takes" "(I[I)I" ∈ px_tb := px_in (px_t7 (List.mem_of_getElem? (i := 78) rfl)) rfl
theorem w_1591 : Cond.castable "TubeChain$Strong" "TubeChain$Man" ∈ px_tb := px_in (px_t7 (List.mem_of_getElem? (i := 79) rfl)) rfl
theorem w_1592 : Cond.castable "TubeChain$Gloved" "TubeChain$Man" ∈ px_tb := px_in (px_t7 (List.mem_of_getElem? (i := 80) rfl)) rfl
theorem w_1593 : Cond.castable "TubeChain$Tiring" "TubeChain$Man" ∈ px_tb := px_in (px_t7 (List.mem_of_getElem? (i := 81) rfl)) rfl
theorem w_1594 : Cond.castable "TubeChain$Calling" "TubeChain$Man" ∈ px_tb := px_in (px_t7 (List.mem_of_getElem? (i := 82) rfl)) rfl
theorem w_1595 : Cond.castable "TubeChain$Slipping" "TubeChain$Man" ∈ px_tb := px_in (px_t7 (List.mem_of_getElem? (i := 83) rfl)) rfl
theorem w_1596 : Cond.castable "TubeChain$Told" "TubeChain$Man" ∈ px_tb := px_in (px_t7 (List.mem_of_getElem? (i := 84) rfl)) rfl
theorem w_1597 : Cond.fieldLink "java/lang/String" 9 "java/lang/String" "value" "[B" ∈ px_tb := px_in (px_t7 (List.mem_of_getElem? (i := 85) rfl)) rfl
theorem w_1598 : Cond.fieldLink "java/lang/String" 15 "java/lang/String" "coder" "B" ∈ px_tb := px_in (px_t7 (List.mem_of_getElem? (i := 86) rfl)) rfl
theorem gf_TC_24_0 : px_GR "TubeChain" 24 0 0 := ⟨_, _, rfl, by decide, w_295, Or.inl rfl⟩
theorem pgf_TC_24_0 : px_GF "TubeChain" 24 0 0 (.object "TubeChain$Site") true := ⟨_, _, rfl, by decide, w_295, Or.inl rfl, by decide +kernel, rfl, fun _ => rfl⟩
theorem gf_TC_30_0 : px_GR "TubeChain" 30 0 1 := ⟨_, _, rfl, by decide, w_296, Or.inl rfl⟩
theorem pgf_TC_30_0 : px_GF "TubeChain" 30 0 1 (.object "TubeChain$Site") true := ⟨_, _, rfl, by decide, w_296, Or.inl rfl, by decide +kernel, rfl, fun _ => rfl⟩
theorem gf_TC_38_0 : px_GR "TubeChain" 38 0 2 := ⟨_, _, rfl, by decide, w_297, Or.inl rfl⟩
theorem pgf_TC_38_0 : px_GF "TubeChain" 38 0 2 (.object "TubeChain$Trial") true := ⟨_, _, rfl, by decide, w_297, Or.inl rfl, by decide +kernel, rfl, fun _ => rfl⟩
theorem gf_TC_42_0 : px_GR "TubeChain" 42 0 3 := ⟨_, _, rfl, by decide, w_298, Or.inl rfl⟩
theorem pgf_TC_42_0 : px_GF "TubeChain" 42 0 3 (.array (.object "TubeChain$Scaffold")) true := ⟨_, _, rfl, by decide, w_298, Or.inl rfl, by decide +kernel, rfl, fun _ => rfl⟩
theorem gf_TC_46_0 : px_GR "TubeChain" 46 0 4 := ⟨_, _, rfl, by decide, w_299, Or.inl rfl⟩
theorem pgf_TC_46_0 : px_GF "TubeChain" 46 0 4 (.array .char) true := ⟨_, _, rfl, by decide, w_299, Or.inl rfl, by decide +kernel, rfl, fun _ => rfl⟩
theorem gf_TC_52_0 : px_GR "TubeChain" 52 0 5 := ⟨_, _, rfl, by decide, w_300, Or.inl rfl⟩
theorem pgf_TC_52_0 : px_GF "TubeChain" 52 0 5 (.array (.object "TubeChain$Tape")) true := ⟨_, _, rfl, by decide, w_300, Or.inl rfl, by decide +kernel, rfl, fun _ => rfl⟩
theorem gf_TC_57_0 : px_GR "TubeChain" 57 0 6 := ⟨_, _, rfl, by decide, w_301, Or.inl rfl⟩
theorem pgf_TC_57_0 : px_GF "TubeChain" 57 0 6 (.array .int) true := ⟨_, _, rfl, by decide, w_301, Or.inl rfl, by decide +kernel, rfl, fun _ => rfl⟩
theorem gf_TC_61_0 : px_GR "TubeChain" 61 0 7 := ⟨_, _, rfl, by decide, w_302, Or.inl rfl⟩
theorem pgf_TC_61_0 : px_GF "TubeChain" 61 0 7 (.array .int) true := ⟨_, _, rfl, by decide, w_302, Or.inl rfl, by decide +kernel, rfl, fun _ => rfl⟩
theorem gf_TC_67_1 : px_GR "TubeChain" 67 1 7 := ⟨_, _, rfl, by decide, w_196, Or.inl rfl⟩
theorem pgf_TC_67_1 : px_GF "TubeChain" 67 1 7 .int false := ⟨_, _, rfl, by decide, w_196, Or.inl rfl, by decide +kernel, rfl, fun h => by cases h⟩
theorem gf_TC_101_1 : px_GR "TubeChain" 101 1 0 := ⟨_, _, rfl, by decide, w_183, Or.inl rfl⟩
theorem gf_TC_109_5 : px_GR "TubeChain" 109 5 1 := ⟨_, _, rfl, by decide, w_165, Or.inl rfl⟩
theorem gf_TC_109_6 : px_GR "TubeChain" 109 6 1 := ⟨_, _, rfl, by decide, w_165, Or.inl rfl⟩
theorem gf_TC_109_7 : px_GR "TubeChain" 109 7 1 := ⟨_, _, rfl, by decide, w_165, Or.inl rfl⟩
theorem gf_TC_109_8 : px_GR "TubeChain" 109 8 1 := ⟨_, _, rfl, by decide, w_165, Or.inl rfl⟩
theorem gf_TC_109_9 : px_GR "TubeChain" 109 9 1 := ⟨_, _, rfl, by decide, w_165, Or.inl rfl⟩
theorem gf_TC_109_10 : px_GR "TubeChain" 109 10 1 := ⟨_, _, rfl, by decide, w_165, Or.inl rfl⟩
theorem gf_TC_109_11 : px_GR "TubeChain" 109 11 1 := ⟨_, _, rfl, by decide, w_165, Or.inl rfl⟩
theorem gf_TC_112_1 : px_GR "TubeChain" 112 1 1 := ⟨_, _, rfl, by decide, w_185, Or.inl rfl⟩
theorem gf_TC_115_1 : px_GR "TubeChain" 115 1 2 := ⟨_, _, rfl, by decide, w_187, Or.inl rfl⟩
theorem gf_TC_128_1 : px_GR "TubeChain" 128 1 3 := ⟨_, _, rfl, by decide, w_189, Or.inl rfl⟩
theorem gf_TC_131_1 : px_GR "TubeChain" 131 1 8 := ⟨_, _, rfl, by decide, w_199, Or.inl rfl⟩
theorem pgf_TC_131_1 : px_GF "TubeChain" 131 1 8 .int false := ⟨_, _, rfl, by decide, w_199, Or.inl rfl, by decide +kernel, rfl, fun h => by cases h⟩
theorem gf_TC_140_0 : px_GR "TubeChain" 140 0 9 := ⟨_, _, rfl, by decide, w_304, Or.inl rfl⟩
theorem pgf_TC_140_0 : px_GF "TubeChain" 140 0 9 .int false := ⟨_, _, rfl, by decide, w_304, Or.inl rfl, by decide +kernel, rfl, fun h => by cases h⟩
theorem gf_TC_143_0 : px_GR "TubeChain" 143 0 8 := ⟨_, _, rfl, by decide, w_303, Or.inl rfl⟩
theorem pgf_TC_143_0 : px_GF "TubeChain" 143 0 8 .int false := ⟨_, _, rfl, by decide, w_303, Or.inl rfl, by decide +kernel, rfl, fun h => by cases h⟩
theorem gf_TC_150_1 : px_GR "TubeChain" 150 1 14 := ⟨_, _, rfl, by decide, w_212, Or.inl rfl⟩
theorem pgf_TC_150_1 : px_GF "TubeChain" 150 1 14 (.object "TubeChain$Scaffold") false := ⟨_, _, rfl, by decide, w_212, Or.inl rfl, by decide +kernel, rfl, fun h => by cases h⟩
theorem gf_TC_154_1 : px_GR "TubeChain" 154 1 9 := ⟨_, _, rfl, by decide, w_202, Or.inl rfl⟩
theorem pgf_TC_154_1 : px_GF "TubeChain" 154 1 9 .int false := ⟨_, _, rfl, by decide, w_202, Or.inl rfl, by decide +kernel, rfl, fun h => by cases h⟩
theorem gf_TC_157_1 : px_GR "TubeChain" 157 1 10 := ⟨_, _, rfl, by decide, w_204, Or.inl rfl⟩
theorem pgf_TC_157_1 : px_GF "TubeChain" 157 1 10 .int false := ⟨_, _, rfl, by decide, w_204, Or.inl rfl, by decide +kernel, rfl, fun h => by cases h⟩
theorem gf_TC_160_1 : px_GR "TubeChain" 160 1 11 := ⟨_, _, rfl, by decide, w_206, Or.inl rfl⟩
theorem pgf_TC_160_1 : px_GF "TubeChain" 160 1 11 .int false := ⟨_, _, rfl, by decide, w_206, Or.inl rfl, by decide +kernel, rfl, fun h => by cases h⟩
theorem gf_TC_163_3 : px_GR "TubeChain" 163 3 7 := ⟨_, _, rfl, by decide, w_119, Or.inl rfl⟩
theorem pgf_TC_163_3 : px_GF "TubeChain" 163 3 7 .int false := ⟨_, _, rfl, by decide, w_119, Or.inl rfl, by decide +kernel, rfl, fun h => by cases h⟩
theorem gf_TC_166_3 : px_GR "TubeChain" 166 3 8 := ⟨_, _, rfl, by decide, w_122, Or.inl rfl⟩
theorem pgf_TC_166_3 : px_GF "TubeChain" 166 3 8 .int false := ⟨_, _, rfl, by decide, w_122, Or.inl rfl, by decide +kernel, rfl, fun h => by cases h⟩
theorem gf_TC_169_3 : px_GR "TubeChain" 169 3 9 := ⟨_, _, rfl, by decide, w_125, Or.inl rfl⟩
theorem pgf_TC_169_3 : px_GF "TubeChain" 169 3 9 .int false := ⟨_, _, rfl, by decide, w_125, Or.inl rfl, by decide +kernel, rfl, fun h => by cases h⟩
theorem gf_TC_172_1 : px_GR "TubeChain" 172 1 4 := ⟨_, _, rfl, by decide, w_191, Or.inl rfl⟩
theorem gf_TC_192_2 : px_GR "TubeChain" 192 2 3 := ⟨_, _, rfl, by decide, w_256, Or.inl rfl⟩
theorem pgf_TC_192_2 : px_GF "TubeChain" 192 2 3 .int false := ⟨_, _, rfl, by decide, w_256, Or.inl rfl, by decide +kernel, rfl, fun h => by cases h⟩
theorem gf_TC_193_2 : px_GR "TubeChain" 193 2 4 := ⟨_, _, rfl, by decide, w_258, Or.inl rfl⟩
theorem pgf_TC_193_2 : px_GF "TubeChain" 193 2 4 .int false := ⟨_, _, rfl, by decide, w_258, Or.inl rfl, by decide +kernel, rfl, fun h => by cases h⟩
theorem gf_TC_199_2 : px_GR "TubeChain" 199 2 2 := ⟨_, _, rfl, by decide, w_254, Or.inl rfl⟩
theorem gf_TC_206_2 : px_GR "TubeChain" 206 2 0 := ⟨_, _, rfl, by decide, w_251, Or.inl rfl⟩
theorem gf_TC_229_2 : px_GR "TubeChain" 229 2 5 := ⟨_, _, rfl, by decide, w_260, Or.inl rfl⟩
theorem pgf_TC_229_2 : px_GF "TubeChain" 229 2 5 .int false := ⟨_, _, rfl, by decide, w_260, Or.inl rfl, by decide +kernel, rfl, fun h => by cases h⟩
theorem gf_TC_240_1 : px_GR "TubeChain" 240 1 12 := ⟨_, _, rfl, by decide, w_208, Or.inl rfl⟩
theorem pgf_TC_240_1 : px_GF "TubeChain" 240 1 12 .int false := ⟨_, _, rfl, by decide, w_208, Or.inl rfl, by decide +kernel, rfl, fun h => by cases h⟩
theorem gf_TC_243_1 : px_GR "TubeChain" 243 1 5 := ⟨_, _, rfl, by decide, w_193, Or.inl rfl⟩
theorem gf_TC_261_1 : px_GR "TubeChain" 261 1 13 := ⟨_, _, rfl, by decide, w_210, Or.inl rfl⟩
theorem pgf_TC_261_1 : px_GF "TubeChain" 261 1 13 .int false := ⟨_, _, rfl, by decide, w_210, Or.inl rfl, by decide +kernel, rfl, fun h => by cases h⟩
theorem gf_TC_264_1 : px_GR "TubeChain" 264 1 6 := ⟨_, _, rfl, by decide, w_195, Or.inl rfl⟩
theorem gf_TC_270_4 : px_GR "TubeChain" 270 4 1 := ⟨_, _, rfl, by decide, w_285, Or.inl rfl⟩
theorem pgf_TC_270_4 : px_GF "TubeChain" 270 4 1 .int false := ⟨_, _, rfl, by decide, w_285, Or.inl rfl, by decide +kernel, rfl, fun h => by cases h⟩
theorem gf_TC_273_4 : px_GR "TubeChain" 273 4 2 := ⟨_, _, rfl, by decide, w_287, Or.inl rfl⟩
theorem pgf_TC_273_4 : px_GF "TubeChain" 273 4 2 .int false := ⟨_, _, rfl, by decide, w_287, Or.inl rfl, by decide +kernel, rfl, fun h => by cases h⟩
theorem gf_TC_276_4 : px_GR "TubeChain" 276 4 0 := ⟨_, _, rfl, by decide, w_283, Or.inl rfl⟩
theorem gf_TC_286_0 : px_GR "TubeChain" 286 0 10 := ⟨_, _, rfl, by decide, w_305, Or.inl rfl⟩
theorem pgf_TC_286_0 : px_GF "TubeChain" 286 0 10 .boolean false := ⟨_, _, rfl, by decide, w_305, Or.inl rfl, by decide +kernel, rfl, fun h => by cases h⟩
theorem gf_Ma_7_5 : px_GR "TubeChain$Man" 7 5 0 := ⟨_, _, rfl, by decide, w_156, Or.inl rfl⟩
theorem pgf_Ma_7_5 : px_GF "TubeChain$Man" 7 5 0 .int true := ⟨_, _, rfl, by decide, w_156, Or.inl rfl, by decide +kernel, rfl, fun _ => rfl⟩
theorem gf_Ma_7_6 : px_GR "TubeChain$Man" 7 6 0 := ⟨_, _, rfl, by decide, w_156, Or.inl rfl⟩
theorem pgf_Ma_7_6 : px_GF "TubeChain$Man" 7 6 0 .int true := ⟨_, _, rfl, by decide, w_156, Or.inl rfl, by decide +kernel, rfl, fun _ => rfl⟩
theorem gf_Ma_7_7 : px_GR "TubeChain$Man" 7 7 0 := ⟨_, _, rfl, by decide, w_156, Or.inl rfl⟩
theorem pgf_Ma_7_7 : px_GF "TubeChain$Man" 7 7 0 .int true := ⟨_, _, rfl, by decide, w_156, Or.inl rfl, by decide +kernel, rfl, fun _ => rfl⟩
theorem gf_Ma_7_8 : px_GR "TubeChain$Man" 7 8 0 := ⟨_, _, rfl, by decide, w_156, Or.inl rfl⟩
theorem pgf_Ma_7_8 : px_GF "TubeChain$Man" 7 8 0 .int true := ⟨_, _, rfl, by decide, w_156, Or.inl rfl, by decide +kernel, rfl, fun _ => rfl⟩
theorem gf_Ma_7_9 : px_GR "TubeChain$Man" 7 9 0 := ⟨_, _, rfl, by decide, w_156, Or.inl rfl⟩
theorem pgf_Ma_7_9 : px_GF "TubeChain$Man" 7 9 0 .int true := ⟨_, _, rfl, by decide, w_156, Or.inl rfl, by decide +kernel, rfl, fun _ => rfl⟩
theorem gf_Ma_7_10 : px_GR "TubeChain$Man" 7 10 0 := ⟨_, _, rfl, by decide, w_156, Or.inl rfl⟩
theorem pgf_Ma_7_10 : px_GF "TubeChain$Man" 7 10 0 .int true := ⟨_, _, rfl, by decide, w_156, Or.inl rfl, by decide +kernel, rfl, fun _ => rfl⟩
theorem gf_Ma_7_11 : px_GR "TubeChain$Man" 7 11 0 := ⟨_, _, rfl, by decide, w_156, Or.inl rfl⟩
theorem pgf_Ma_7_11 : px_GF "TubeChain$Man" 7 11 0 .int true := ⟨_, _, rfl, by decide, w_156, Or.inl rfl, by decide +kernel, rfl, fun _ => rfl⟩
theorem gf_Ma_13_5 : px_GR "TubeChain$Man" 13 5 1 := ⟨_, _, rfl, by decide, w_160, Or.inl rfl⟩
theorem pgf_Ma_13_5 : px_GF "TubeChain$Man" 13 5 1 .int true := ⟨_, _, rfl, by decide, w_160, Or.inl rfl, by decide +kernel, rfl, fun _ => rfl⟩
theorem gf_Ma_13_6 : px_GR "TubeChain$Man" 13 6 1 := ⟨_, _, rfl, by decide, w_160, Or.inl rfl⟩
theorem pgf_Ma_13_6 : px_GF "TubeChain$Man" 13 6 1 .int true := ⟨_, _, rfl, by decide, w_160, Or.inl rfl, by decide +kernel, rfl, fun _ => rfl⟩
theorem gf_Ma_13_7 : px_GR "TubeChain$Man" 13 7 1 := ⟨_, _, rfl, by decide, w_160, Or.inl rfl⟩
theorem pgf_Ma_13_7 : px_GF "TubeChain$Man" 13 7 1 .int true := ⟨_, _, rfl, by decide, w_160, Or.inl rfl, by decide +kernel, rfl, fun _ => rfl⟩
theorem gf_Ma_13_8 : px_GR "TubeChain$Man" 13 8 1 := ⟨_, _, rfl, by decide, w_160, Or.inl rfl⟩
theorem pgf_Ma_13_8 : px_GF "TubeChain$Man" 13 8 1 .int true := ⟨_, _, rfl, by decide, w_160, Or.inl rfl, by decide +kernel, rfl, fun _ => rfl⟩
theorem gf_Ma_13_9 : px_GR "TubeChain$Man" 13 9 1 := ⟨_, _, rfl, by decide, w_160, Or.inl rfl⟩
theorem pgf_Ma_13_9 : px_GF "TubeChain$Man" 13 9 1 .int true := ⟨_, _, rfl, by decide, w_160, Or.inl rfl, by decide +kernel, rfl, fun _ => rfl⟩
theorem gf_Ma_13_10 : px_GR "TubeChain$Man" 13 10 1 := ⟨_, _, rfl, by decide, w_160, Or.inl rfl⟩
theorem pgf_Ma_13_10 : px_GF "TubeChain$Man" 13 10 1 .int true := ⟨_, _, rfl, by decide, w_160, Or.inl rfl, by decide +kernel, rfl, fun _ => rfl⟩
theorem gf_Ma_13_11 : px_GR "TubeChain$Man" 13 11 1 := ⟨_, _, rfl, by decide, w_160, Or.inl rfl⟩
theorem pgf_Ma_13_11 : px_GF "TubeChain$Man" 13 11 1 .int true := ⟨_, _, rfl, by decide, w_160, Or.inl rfl, by decide +kernel, rfl, fun _ => rfl⟩
theorem gf_Sc_9_3 : px_GR "TubeChain$Scaffold" 9 3 0 := ⟨_, _, rfl, by decide, w_111, Or.inl rfl⟩
theorem pgf_Sc_9_3 : px_GF "TubeChain$Scaffold" 9 3 0 (.array .int) true := ⟨_, _, rfl, by decide, w_111, Or.inl rfl, by decide +kernel, rfl, fun _ => rfl⟩
theorem gf_Sc_15_3 : px_GR "TubeChain$Scaffold" 15 3 1 := ⟨_, _, rfl, by decide, w_112, Or.inl rfl⟩
theorem pgf_Sc_15_3 : px_GF "TubeChain$Scaffold" 15 3 1 (.array .int) true := ⟨_, _, rfl, by decide, w_112, Or.inl rfl, by decide +kernel, rfl, fun _ => rfl⟩
theorem gf_Sc_18_3 : px_GR "TubeChain$Scaffold" 18 3 7 := ⟨_, _, rfl, by decide, w_118, Or.inl rfl⟩
theorem pgf_Sc_18_3 : px_GF "TubeChain$Scaffold" 18 3 7 .int false := ⟨_, _, rfl, by decide, w_118, Or.inl rfl, by decide +kernel, rfl, fun h => by cases h⟩
theorem gf_Sc_22_3 : px_GR "TubeChain$Scaffold" 22 3 8 := ⟨_, _, rfl, by decide, w_121, Or.inl rfl⟩
theorem pgf_Sc_22_3 : px_GF "TubeChain$Scaffold" 22 3 8 .int false := ⟨_, _, rfl, by decide, w_121, Or.inl rfl, by decide +kernel, rfl, fun h => by cases h⟩
theorem gf_Sc_25_3 : px_GR "TubeChain$Scaffold" 25 3 9 := ⟨_, _, rfl, by decide, w_124, Or.inl rfl⟩
theorem pgf_Sc_25_3 : px_GF "TubeChain$Scaffold" 25 3 9 .int false := ⟨_, _, rfl, by decide, w_124, Or.inl rfl, by decide +kernel, rfl, fun h => by cases h⟩
theorem gf_Sc_34_3 : px_GR "TubeChain$Scaffold" 34 3 2 := ⟨_, _, rfl, by decide, w_113, Or.inl rfl⟩
theorem pgf_Sc_34_3 : px_GF "TubeChain$Scaffold" 34 3 2 (.array .long) true := ⟨_, _, rfl, by decide, w_113, Or.inl rfl, by decide +kernel, rfl, fun _ => rfl⟩
theorem gf_Sc_38_3 : px_GR "TubeChain$Scaffold" 38 3 3 := ⟨_, _, rfl, by decide, w_114, Or.inl rfl⟩
theorem pgf_Sc_38_3 : px_GF "TubeChain$Scaffold" 38 3 3 (.array .char) false := ⟨_, _, rfl, by decide, w_114, Or.inl rfl, by decide +kernel, rfl, fun h => by cases h⟩
theorem gf_Sc_45_3 : px_GR "TubeChain$Scaffold" 45 3 5 := ⟨_, _, rfl, by decide, w_116, Or.inl rfl⟩
theorem pgf_Sc_45_3 : px_GF "TubeChain$Scaffold" 45 3 5 .int false := ⟨_, _, rfl, by decide, w_116, Or.inl rfl, by decide +kernel, rfl, fun h => by cases h⟩
theorem gf_Sc_48_3 : px_GR "TubeChain$Scaffold" 48 3 6 := ⟨_, _, rfl, by decide, w_117, Or.inl rfl⟩
theorem pgf_Sc_48_3 : px_GF "TubeChain$Scaffold" 48 3 6 .int false := ⟨_, _, rfl, by decide, w_117, Or.inl rfl, by decide +kernel, rfl, fun h => by cases h⟩
theorem gf_Sc_51_3 : px_GR "TubeChain$Scaffold" 51 3 4 := ⟨_, _, rfl, by decide, w_115, Or.inl rfl⟩
theorem pgf_Sc_51_3 : px_GF "TubeChain$Scaffold" 51 3 4 .int false := ⟨_, _, rfl, by decide, w_115, Or.inl rfl, by decide +kernel, rfl, fun h => by cases h⟩
theorem gf_Sc_103_5 : px_GR "TubeChain$Scaffold" 103 5 0 := ⟨_, _, rfl, by decide, w_159, Or.inl rfl⟩
theorem gf_Sc_103_6 : px_GR "TubeChain$Scaffold" 103 6 0 := ⟨_, _, rfl, by decide, w_159, Or.inl rfl⟩
theorem gf_Sc_103_7 : px_GR "TubeChain$Scaffold" 103 7 0 := ⟨_, _, rfl, by decide, w_159, Or.inl rfl⟩
theorem gf_Sc_103_8 : px_GR "TubeChain$Scaffold" 103 8 0 := ⟨_, _, rfl, by decide, w_159, Or.inl rfl⟩
theorem gf_Sc_103_9 : px_GR "TubeChain$Scaffold" 103 9 0 := ⟨_, _, rfl, by decide, w_159, Or.inl rfl⟩
theorem gf_Sc_103_10 : px_GR "TubeChain$Scaffold" 103 10 0 := ⟨_, _, rfl, by decide, w_159, Or.inl rfl⟩
theorem gf_Sc_103_11 : px_GR "TubeChain$Scaffold" 103 11 0 := ⟨_, _, rfl, by decide, w_159, Or.inl rfl⟩
theorem gf_Sc_115_5 : px_GR "TubeChain$Scaffold" 115 5 1 := ⟨_, _, rfl, by decide, w_168, Or.inl rfl⟩
theorem gf_Sc_115_6 : px_GR "TubeChain$Scaffold" 115 6 1 := ⟨_, _, rfl, by decide, w_168, Or.inl rfl⟩
theorem gf_Sc_115_7 : px_GR "TubeChain$Scaffold" 115 7 1 := ⟨_, _, rfl, by decide, w_168, Or.inl rfl⟩
theorem gf_Sc_115_8 : px_GR "TubeChain$Scaffold" 115 8 1 := ⟨_, _, rfl, by decide, w_168, Or.inl rfl⟩
theorem gf_Sc_115_9 : px_GR "TubeChain$Scaffold" 115 9 1 := ⟨_, _, rfl, by decide, w_168, Or.inl rfl⟩
theorem gf_Sc_115_10 : px_GR "TubeChain$Scaffold" 115 10 1 := ⟨_, _, rfl, by decide, w_168, Or.inl rfl⟩
theorem gf_Sc_115_11 : px_GR "TubeChain$Scaffold" 115 11 1 := ⟨_, _, rfl, by decide, w_168, Or.inl rfl⟩
theorem gf_Si_11_1 : px_GR "TubeChain$Site" 11 1 0 := ⟨_, _, rfl, by decide, w_182, Or.inl rfl⟩
theorem pgf_Si_11_1 : px_GF "TubeChain$Site" 11 1 0 (.array (.object "TubeChain$Man")) true := ⟨_, _, rfl, by decide, w_182, Or.inl rfl, by decide +kernel, rfl, fun _ => rfl⟩
theorem gf_Si_17_1 : px_GR "TubeChain$Site" 17 1 1 := ⟨_, _, rfl, by decide, w_184, Or.inl rfl⟩
theorem pgf_Si_17_1 : px_GF "TubeChain$Site" 17 1 1 (.array .int) true := ⟨_, _, rfl, by decide, w_184, Or.inl rfl, by decide +kernel, rfl, fun _ => rfl⟩
theorem gf_Si_21_1 : px_GR "TubeChain$Site" 21 1 2 := ⟨_, _, rfl, by decide, w_186, Or.inl rfl⟩
theorem pgf_Si_21_1 : px_GF "TubeChain$Site" 21 1 2 (.array .int) true := ⟨_, _, rfl, by decide, w_186, Or.inl rfl, by decide +kernel, rfl, fun _ => rfl⟩
theorem gf_Si_24_1 : px_GR "TubeChain$Site" 24 1 3 := ⟨_, _, rfl, by decide, w_188, Or.inl rfl⟩
theorem pgf_Si_24_1 : px_GF "TubeChain$Site" 24 1 3 (.array .int) true := ⟨_, _, rfl, by decide, w_188, Or.inl rfl, by decide +kernel, rfl, fun _ => rfl⟩
theorem gf_Si_27_1 : px_GR "TubeChain$Site" 27 1 4 := ⟨_, _, rfl, by decide, w_190, Or.inl rfl⟩
theorem pgf_Si_27_1 : px_GF "TubeChain$Site" 27 1 4 (.array .int) true := ⟨_, _, rfl, by decide, w_190, Or.inl rfl, by decide +kernel, rfl, fun _ => rfl⟩
theorem gf_Si_30_1 : px_GR "TubeChain$Site" 30 1 5 := ⟨_, _, rfl, by decide, w_192, Or.inl rfl⟩
theorem pgf_Si_30_1 : px_GF "TubeChain$Site" 30 1 5 (.array .int) true := ⟨_, _, rfl, by decide, w_192, Or.inl rfl, by decide +kernel, rfl, fun _ => rfl⟩
theorem gf_Si_33_1 : px_GR "TubeChain$Site" 33 1 6 := ⟨_, _, rfl, by decide, w_194, Or.inl rfl⟩
theorem pgf_Si_33_1 : px_GF "TubeChain$Site" 33 1 6 (.array .int) true := ⟨_, _, rfl, by decide, w_194, Or.inl rfl, by decide +kernel, rfl, fun _ => rfl⟩
theorem gf_Si_36_1 : px_GR "TubeChain$Site" 36 1 14 := ⟨_, _, rfl, by decide, w_211, Or.inl rfl⟩
theorem pgf_Si_36_1 : px_GF "TubeChain$Site" 36 1 14 (.object "TubeChain$Scaffold") false := ⟨_, _, rfl, by decide, w_211, Or.inl rfl, by decide +kernel, rfl, fun h => by cases h⟩
theorem gf_Si_46_1 : px_GR "TubeChain$Site" 46 1 7 := ⟨_, _, rfl, by decide, w_197, Or.inl rfl⟩
theorem pgf_Si_46_1 : px_GF "TubeChain$Site" 46 1 7 .int false := ⟨_, _, rfl, by decide, w_197, Or.inl rfl, by decide +kernel, rfl, fun h => by cases h⟩
theorem gf_Si_50_1 : px_GR "TubeChain$Site" 50 1 8 := ⟨_, _, rfl, by decide, w_198, Or.inl rfl⟩
theorem pgf_Si_50_1 : px_GF "TubeChain$Site" 50 1 8 .int false := ⟨_, _, rfl, by decide, w_198, Or.inl rfl, by decide +kernel, rfl, fun h => by cases h⟩
theorem gf_Si_53_1 : px_GR "TubeChain$Site" 53 1 9 := ⟨_, _, rfl, by decide, w_200, Or.inl rfl⟩
theorem pgf_Si_53_1 : px_GF "TubeChain$Site" 53 1 9 .int false := ⟨_, _, rfl, by decide, w_200, Or.inl rfl, by decide +kernel, rfl, fun h => by cases h⟩
theorem gf_Si_56_1 : px_GR "TubeChain$Site" 56 1 10 := ⟨_, _, rfl, by decide, w_203, Or.inl rfl⟩
theorem pgf_Si_56_1 : px_GF "TubeChain$Site" 56 1 10 .int false := ⟨_, _, rfl, by decide, w_203, Or.inl rfl, by decide +kernel, rfl, fun h => by cases h⟩
theorem gf_Si_59_1 : px_GR "TubeChain$Site" 59 1 11 := ⟨_, _, rfl, by decide, w_205, Or.inl rfl⟩
theorem pgf_Si_59_1 : px_GF "TubeChain$Site" 59 1 11 .int false := ⟨_, _, rfl, by decide, w_205, Or.inl rfl, by decide +kernel, rfl, fun h => by cases h⟩
theorem gf_Si_62_1 : px_GR "TubeChain$Site" 62 1 12 := ⟨_, _, rfl, by decide, w_207, Or.inl rfl⟩
theorem pgf_Si_62_1 : px_GF "TubeChain$Site" 62 1 12 .int false := ⟨_, _, rfl, by decide, w_207, Or.inl rfl, by decide +kernel, rfl, fun h => by cases h⟩
theorem gf_Si_65_1 : px_GR "TubeChain$Site" 65 1 13 := ⟨_, _, rfl, by decide, w_209, Or.inl rfl⟩
theorem pgf_Si_65_1 : px_GF "TubeChain$Site" 65 1 13 .int false := ⟨_, _, rfl, by decide, w_209, Or.inl rfl, by decide +kernel, rfl, fun h => by cases h⟩
theorem gf_Si_85_3 : px_GR "TubeChain$Site" 85 3 7 := ⟨_, _, rfl, by decide, w_120, Or.inl rfl⟩
theorem pgf_Si_85_3 : px_GF "TubeChain$Site" 85 3 7 .int false := ⟨_, _, rfl, by decide, w_120, Or.inl rfl, by decide +kernel, rfl, fun h => by cases h⟩
theorem gf_Si_96_3 : px_GR "TubeChain$Site" 96 3 8 := ⟨_, _, rfl, by decide, w_123, Or.inl rfl⟩
theorem pgf_Si_96_3 : px_GF "TubeChain$Site" 96 3 8 .int false := ⟨_, _, rfl, by decide, w_123, Or.inl rfl, by decide +kernel, rfl, fun h => by cases h⟩
theorem gf_Sl_7_10 : px_GR "TubeChain$Slipping" 7 10 1 := ⟨_, _, rfl, by decide, w_163, Or.inr w_164⟩
theorem gf_Sl_17_10 : px_GR "TubeChain$Slipping" 17 10 0 := ⟨_, _, rfl, by decide, w_157, Or.inr w_158⟩
theorem gf_St_7_6 : px_GR "TubeChain$Strong" 7 6 1 := ⟨_, _, rfl, by decide, w_161, Or.inr w_162⟩
theorem gf_St_7_9 : px_GR "TubeChain$Strong" 7 9 1 := ⟨_, _, rfl, by decide, w_161, Or.inr w_162⟩
theorem gf_Ta_9_4 : px_GR "TubeChain$Tape" 9 4 0 := ⟨_, _, rfl, by decide, w_282, Or.inl rfl⟩
theorem pgf_Ta_9_4 : px_GF "TubeChain$Tape" 9 4 0 (.array .long) true := ⟨_, _, rfl, by decide, w_282, Or.inl rfl, by decide +kernel, rfl, fun _ => rfl⟩
theorem gf_Ta_15_4 : px_GR "TubeChain$Tape" 15 4 1 := ⟨_, _, rfl, by decide, w_284, Or.inl rfl⟩
theorem pgf_Ta_15_4 : px_GF "TubeChain$Tape" 15 4 1 .int false := ⟨_, _, rfl, by decide, w_284, Or.inl rfl, by decide +kernel, rfl, fun h => by cases h⟩
theorem gf_Ta_19_4 : px_GR "TubeChain$Tape" 19 4 2 := ⟨_, _, rfl, by decide, w_286, Or.inl rfl⟩
theorem pgf_Ta_19_4 : px_GF "TubeChain$Tape" 19 4 2 .int false := ⟨_, _, rfl, by decide, w_286, Or.inl rfl, by decide +kernel, rfl, fun h => by cases h⟩
theorem gf_To_24_11 : px_GR "TubeChain$Told" 24 11 1 := ⟨_, _, rfl, by decide, w_166, Or.inr w_167⟩
theorem gf_Tr_9_2 : px_GR "TubeChain$Trial" 9 2 2 := ⟨_, _, rfl, by decide, w_253, Or.inl rfl⟩
theorem pgf_Tr_9_2 : px_GF "TubeChain$Trial" 9 2 2 (.array .int) true := ⟨_, _, rfl, by decide, w_253, Or.inl rfl, by decide +kernel, rfl, fun _ => rfl⟩
theorem gf_Tr_15_2 : px_GR "TubeChain$Trial" 15 2 0 := ⟨_, _, rfl, by decide, w_250, Or.inl rfl⟩
theorem pgf_Tr_15_2 : px_GF "TubeChain$Trial" 15 2 0 (.object "TubeChain$Site") true := ⟨_, _, rfl, by decide, w_250, Or.inl rfl, by decide +kernel, rfl, fun _ => rfl⟩
theorem gf_Tr_19_2 : px_GR "TubeChain$Trial" 19 2 1 := ⟨_, _, rfl, by decide, w_252, Or.inl rfl⟩
theorem pgf_Tr_19_2 : px_GF "TubeChain$Trial" 19 2 1 (.object "TubeChain$Site") true := ⟨_, _, rfl, by decide, w_252, Or.inl rfl, by decide +kernel, rfl, fun _ => rfl⟩
theorem gf_Tr_34_2 : px_GR "TubeChain$Trial" 34 2 3 := ⟨_, _, rfl, by decide, w_255, Or.inl rfl⟩
theorem pgf_Tr_34_2 : px_GF "TubeChain$Trial" 34 2 3 .int false := ⟨_, _, rfl, by decide, w_255, Or.inl rfl, by decide +kernel, rfl, fun h => by cases h⟩
theorem gf_Tr_38_2 : px_GR "TubeChain$Trial" 38 2 4 := ⟨_, _, rfl, by decide, w_257, Or.inl rfl⟩
theorem pgf_Tr_38_2 : px_GF "TubeChain$Trial" 38 2 4 .int false := ⟨_, _, rfl, by decide, w_257, Or.inl rfl, by decide +kernel, rfl, fun h => by cases h⟩
theorem gf_Tr_41_2 : px_GR "TubeChain$Trial" 41 2 5 := ⟨_, _, rfl, by decide, w_259, Or.inl rfl⟩
theorem pgf_Tr_41_2 : px_GF "TubeChain$Trial" 41 2 5 .int false := ⟨_, _, rfl, by decide, w_259, Or.inl rfl, by decide +kernel, rfl, fun h => by cases h⟩
theorem gf_Tr_44_1 : px_GR "TubeChain$Trial" 44 1 9 := ⟨_, _, rfl, by decide, w_201, Or.inl rfl⟩
theorem pgf_Tr_44_1 : px_GF "TubeChain$Trial" 44 1 9 .int false := ⟨_, _, rfl, by decide, w_201, Or.inl rfl, by decide +kernel, rfl, fun h => by cases h⟩
theorem gf_Mo_7_12 : px_GR "TubeChainModel" 7 12 0 := ⟨_, _, rfl, by decide, w_993, Or.inl rfl⟩
theorem pgf_Mo_7_12 : px_GF "TubeChainModel" 7 12 0 .int false := ⟨_, _, rfl, by decide, w_993, Or.inl rfl, by decide +kernel, rfl, fun h => by cases h⟩
theorem gf_Mo_13_12 : px_GR "TubeChainModel" 13 12 1 := ⟨_, _, rfl, by decide, w_994, Or.inl rfl⟩
theorem pgf_Mo_13_12 : px_GF "TubeChainModel" 13 12 1 .int false := ⟨_, _, rfl, by decide, w_994, Or.inl rfl, by decide +kernel, rfl, fun h => by cases h⟩
theorem gf_Mo_16_12 : px_GR "TubeChainModel" 16 12 2 := ⟨_, _, rfl, by decide, w_995, Or.inl rfl⟩
theorem pgf_Mo_16_12 : px_GF "TubeChainModel" 16 12 2 .int false := ⟨_, _, rfl, by decide, w_995, Or.inl rfl, by decide +kernel, rfl, fun h => by cases h⟩
theorem gf_Mo_19_12 : px_GR "TubeChainModel" 19 12 3 := ⟨_, _, rfl, by decide, w_996, Or.inl rfl⟩
theorem pgf_Mo_19_12 : px_GF "TubeChainModel" 19 12 3 .int false := ⟨_, _, rfl, by decide, w_996, Or.inl rfl, by decide +kernel, rfl, fun h => by cases h⟩
theorem gf_Mo_22_12 : px_GR "TubeChainModel" 22 12 4 := ⟨_, _, rfl, by decide, w_997, Or.inl rfl⟩
theorem pgf_Mo_22_12 : px_GF "TubeChainModel" 22 12 4 .int false := ⟨_, _, rfl, by decide, w_997, Or.inl rfl, by decide +kernel, rfl, fun h => by cases h⟩
theorem gf_Mo_25_12 : px_GR "TubeChainModel" 25 12 5 := ⟨_, _, rfl, by decide, w_998, Or.inl rfl⟩
theorem pgf_Mo_25_12 : px_GF "TubeChainModel" 25 12 5 (.array .int) true := ⟨_, _, rfl, by decide, w_998, Or.inl rfl, by decide +kernel, rfl, fun _ => rfl⟩
theorem gf_Mo_29_12 : px_GR "TubeChainModel" 29 12 6 := ⟨_, _, rfl, by decide, w_999, Or.inl rfl⟩
theorem pgf_Mo_29_12 : px_GF "TubeChainModel" 29 12 6 (.array .int) true := ⟨_, _, rfl, by decide, w_999, Or.inl rfl, by decide +kernel, rfl, fun _ => rfl⟩
theorem gf_Mo_32_12 : px_GR "TubeChainModel" 32 12 7 := ⟨_, _, rfl, by decide, w_1000, Or.inl rfl⟩
theorem pgf_Mo_32_12 : px_GF "TubeChainModel" 32 12 7 (.array .int) true := ⟨_, _, rfl, by decide, w_1000, Or.inl rfl, by decide +kernel, rfl, fun _ => rfl⟩
theorem gf_Mo_35_12 : px_GR "TubeChainModel" 35 12 8 := ⟨_, _, rfl, by decide, w_1001, Or.inl rfl⟩
theorem pgf_Mo_35_12 : px_GF "TubeChainModel" 35 12 8 (.array .int) true := ⟨_, _, rfl, by decide, w_1001, Or.inl rfl, by decide +kernel, rfl, fun _ => rfl⟩
theorem gf_Mo_38_12 : px_GR "TubeChainModel" 38 12 9 := ⟨_, _, rfl, by decide, w_1002, Or.inl rfl⟩
theorem pgf_Mo_38_12 : px_GF "TubeChainModel" 38 12 9 (.array .int) true := ⟨_, _, rfl, by decide, w_1002, Or.inl rfl, by decide +kernel, rfl, fun _ => rfl⟩
theorem gf_Mo_41_12 : px_GR "TubeChainModel" 41 12 10 := ⟨_, _, rfl, by decide, w_1003, Or.inl rfl⟩
theorem pgf_Mo_41_12 : px_GF "TubeChainModel" 41 12 10 (.array .int) true := ⟨_, _, rfl, by decide, w_1003, Or.inl rfl, by decide +kernel, rfl, fun _ => rfl⟩
theorem gf_Mo_44_12 : px_GR "TubeChainModel" 44 12 11 := ⟨_, _, rfl, by decide, w_1004, Or.inl rfl⟩
theorem pgf_Mo_44_12 : px_GF "TubeChainModel" 44 12 11 .int false := ⟨_, _, rfl, by decide, w_1004, Or.inl rfl, by decide +kernel, rfl, fun h => by cases h⟩
theorem gf_Mo_47_12 : px_GR "TubeChainModel" 47 12 12 := ⟨_, _, rfl, by decide, w_1005, Or.inl rfl⟩
theorem pgf_Mo_47_12 : px_GF "TubeChainModel" 47 12 12 .int false := ⟨_, _, rfl, by decide, w_1005, Or.inl rfl, by decide +kernel, rfl, fun h => by cases h⟩
theorem gf_Mo_50_12 : px_GR "TubeChainModel" 50 12 13 := ⟨_, _, rfl, by decide, w_1006, Or.inl rfl⟩
theorem pgf_Mo_50_12 : px_GF "TubeChainModel" 50 12 13 .int false := ⟨_, _, rfl, by decide, w_1006, Or.inl rfl, by decide +kernel, rfl, fun h => by cases h⟩
theorem gf_Mo_53_12 : px_GR "TubeChainModel" 53 12 14 := ⟨_, _, rfl, by decide, w_1007, Or.inl rfl⟩
theorem pgf_Mo_53_12 : px_GF "TubeChainModel" 53 12 14 .int false := ⟨_, _, rfl, by decide, w_1007, Or.inl rfl, by decide +kernel, rfl, fun h => by cases h⟩
theorem gf_Mo_56_12 : px_GR "TubeChainModel" 56 12 15 := ⟨_, _, rfl, by decide, w_1008, Or.inl rfl⟩
theorem pgf_Mo_56_12 : px_GF "TubeChainModel" 56 12 15 .int false := ⟨_, _, rfl, by decide, w_1008, Or.inl rfl, by decide +kernel, rfl, fun h => by cases h⟩
theorem gf_Mo_59_12 : px_GR "TubeChainModel" 59 12 16 := ⟨_, _, rfl, by decide, w_1009, Or.inl rfl⟩
theorem pgf_Mo_59_12 : px_GF "TubeChainModel" 59 12 16 (.array .int) true := ⟨_, _, rfl, by decide, w_1009, Or.inl rfl, by decide +kernel, rfl, fun _ => rfl⟩
theorem gf_Mo_62_12 : px_GR "TubeChainModel" 62 12 17 := ⟨_, _, rfl, by decide, w_1010, Or.inl rfl⟩
theorem pgf_Mo_62_12 : px_GF "TubeChainModel" 62 12 17 (.array .int) true := ⟨_, _, rfl, by decide, w_1010, Or.inl rfl, by decide +kernel, rfl, fun _ => rfl⟩
theorem gf_Mo_65_12 : px_GR "TubeChainModel" 65 12 18 := ⟨_, _, rfl, by decide, w_1011, Or.inl rfl⟩
theorem pgf_Mo_65_12 : px_GF "TubeChainModel" 65 12 18 (.array .int) true := ⟨_, _, rfl, by decide, w_1011, Or.inl rfl, by decide +kernel, rfl, fun _ => rfl⟩
theorem gf_Mo_68_12 : px_GR "TubeChainModel" 68 12 19 := ⟨_, _, rfl, by decide, w_1012, Or.inl rfl⟩
theorem pgf_Mo_68_12 : px_GF "TubeChainModel" 68 12 19 (.array .int) true := ⟨_, _, rfl, by decide, w_1012, Or.inl rfl, by decide +kernel, rfl, fun _ => rfl⟩
theorem gf_Mo_71_12 : px_GR "TubeChainModel" 71 12 20 := ⟨_, _, rfl, by decide, w_1013, Or.inl rfl⟩
theorem pgf_Mo_71_12 : px_GF "TubeChainModel" 71 12 20 (.array .int) true := ⟨_, _, rfl, by decide, w_1013, Or.inl rfl, by decide +kernel, rfl, fun _ => rfl⟩
theorem gf_Mo_74_12 : px_GR "TubeChainModel" 74 12 21 := ⟨_, _, rfl, by decide, w_1014, Or.inl rfl⟩
theorem pgf_Mo_74_12 : px_GF "TubeChainModel" 74 12 21 (.array .int) true := ⟨_, _, rfl, by decide, w_1014, Or.inl rfl, by decide +kernel, rfl, fun _ => rfl⟩
theorem gf_Mo_77_12 : px_GR "TubeChainModel" 77 12 22 := ⟨_, _, rfl, by decide, w_1015, Or.inl rfl⟩
theorem pgf_Mo_77_12 : px_GF "TubeChainModel" 77 12 22 (.array .int) true := ⟨_, _, rfl, by decide, w_1015, Or.inl rfl, by decide +kernel, rfl, fun _ => rfl⟩
theorem gf_Mo_80_12 : px_GR "TubeChainModel" 80 12 23 := ⟨_, _, rfl, by decide, w_1016, Or.inl rfl⟩
theorem pgf_Mo_80_12 : px_GF "TubeChainModel" 80 12 23 (.array .int) true := ⟨_, _, rfl, by decide, w_1016, Or.inl rfl, by decide +kernel, rfl, fun _ => rfl⟩
theorem gf_Mo_83_12 : px_GR "TubeChainModel" 83 12 24 := ⟨_, _, rfl, by decide, w_1017, Or.inl rfl⟩
theorem pgf_Mo_83_12 : px_GF "TubeChainModel" 83 12 24 .int false := ⟨_, _, rfl, by decide, w_1017, Or.inl rfl, by decide +kernel, rfl, fun h => by cases h⟩
theorem gf_Mo_86_12 : px_GR "TubeChainModel" 86 12 25 := ⟨_, _, rfl, by decide, w_1018, Or.inl rfl⟩
theorem pgf_Mo_86_12 : px_GF "TubeChainModel" 86 12 25 .int false := ⟨_, _, rfl, by decide, w_1018, Or.inl rfl, by decide +kernel, rfl, fun h => by cases h⟩
theorem gf_Mo_89_12 : px_GR "TubeChainModel" 89 12 26 := ⟨_, _, rfl, by decide, w_1019, Or.inl rfl⟩
theorem pgf_Mo_89_12 : px_GF "TubeChainModel" 89 12 26 .int false := ⟨_, _, rfl, by decide, w_1019, Or.inl rfl, by decide +kernel, rfl, fun h => by cases h⟩
theorem gf_Mo_92_12 : px_GR "TubeChainModel" 92 12 27 := ⟨_, _, rfl, by decide, w_1020, Or.inl rfl⟩
theorem pgf_Mo_92_12 : px_GF "TubeChainModel" 92 12 27 (.array .int) true := ⟨_, _, rfl, by decide, w_1020, Or.inl rfl, by decide +kernel, rfl, fun _ => rfl⟩
theorem gf_Mo_95_12 : px_GR "TubeChainModel" 95 12 28 := ⟨_, _, rfl, by decide, w_1021, Or.inl rfl⟩
theorem pgf_Mo_95_12 : px_GF "TubeChainModel" 95 12 28 (.array .boolean) true := ⟨_, _, rfl, by decide, w_1021, Or.inl rfl, by decide +kernel, rfl, fun _ => rfl⟩
theorem gf_Mo_99_12 : px_GR "TubeChainModel" 99 12 29 := ⟨_, _, rfl, by decide, w_1022, Or.inl rfl⟩
theorem pgf_Mo_99_12 : px_GF "TubeChainModel" 99 12 29 .int false := ⟨_, _, rfl, by decide, w_1022, Or.inl rfl, by decide +kernel, rfl, fun h => by cases h⟩
theorem gf_Mo_102_12 : px_GR "TubeChainModel" 102 12 30 := ⟨_, _, rfl, by decide, w_1023, Or.inl rfl⟩
theorem pgf_Mo_102_12 : px_GF "TubeChainModel" 102 12 30 .int false := ⟨_, _, rfl, by decide, w_1023, Or.inl rfl, by decide +kernel, rfl, fun h => by cases h⟩
theorem gf_Mo_105_12 : px_GR "TubeChainModel" 105 12 31 := ⟨_, _, rfl, by decide, w_1024, Or.inl rfl⟩
theorem pgf_Mo_105_12 : px_GF "TubeChainModel" 105 12 31 .int false := ⟨_, _, rfl, by decide, w_1024, Or.inl rfl, by decide +kernel, rfl, fun h => by cases h⟩
theorem gf_Mo_108_12 : px_GR "TubeChainModel" 108 12 32 := ⟨_, _, rfl, by decide, w_1025, Or.inl rfl⟩
theorem pgf_Mo_108_12 : px_GF "TubeChainModel" 108 12 32 .int false := ⟨_, _, rfl, by decide, w_1025, Or.inl rfl, by decide +kernel, rfl, fun h => by cases h⟩
theorem gf_Mo_111_12 : px_GR "TubeChainModel" 111 12 33 := ⟨_, _, rfl, by decide, w_1026, Or.inl rfl⟩
theorem pgf_Mo_111_12 : px_GF "TubeChainModel" 111 12 33 .int false := ⟨_, _, rfl, by decide, w_1026, Or.inl rfl, by decide +kernel, rfl, fun h => by cases h⟩
theorem gf_Mo_114_12 : px_GR "TubeChainModel" 114 12 34 := ⟨_, _, rfl, by decide, w_1027, Or.inl rfl⟩
theorem pgf_Mo_114_12 : px_GF "TubeChainModel" 114 12 34 (.array .int) true := ⟨_, _, rfl, by decide, w_1027, Or.inl rfl, by decide +kernel, rfl, fun _ => rfl⟩
theorem gf_Mo_117_12 : px_GR "TubeChainModel" 117 12 35 := ⟨_, _, rfl, by decide, w_1028, Or.inl rfl⟩
theorem pgf_Mo_117_12 : px_GF "TubeChainModel" 117 12 35 (.array .int) true := ⟨_, _, rfl, by decide, w_1028, Or.inl rfl, by decide +kernel, rfl, fun _ => rfl⟩
theorem gf_Mo_120_12 : px_GR "TubeChainModel" 120 12 36 := ⟨_, _, rfl, by decide, w_1029, Or.inl rfl⟩
theorem pgf_Mo_120_12 : px_GF "TubeChainModel" 120 12 36 .int false := ⟨_, _, rfl, by decide, w_1029, Or.inl rfl, by decide +kernel, rfl, fun h => by cases h⟩
theorem gf_Mo_123_12 : px_GR "TubeChainModel" 123 12 37 := ⟨_, _, rfl, by decide, w_1030, Or.inl rfl⟩
theorem pgf_Mo_123_12 : px_GF "TubeChainModel" 123 12 37 .int false := ⟨_, _, rfl, by decide, w_1030, Or.inl rfl, by decide +kernel, rfl, fun h => by cases h⟩
theorem gf_Mo_126_12 : px_GR "TubeChainModel" 126 12 38 := ⟨_, _, rfl, by decide, w_1031, Or.inl rfl⟩
theorem pgf_Mo_126_12 : px_GF "TubeChainModel" 126 12 38 .int false := ⟨_, _, rfl, by decide, w_1031, Or.inl rfl, by decide +kernel, rfl, fun h => by cases h⟩
theorem gf_Mo_129_12 : px_GR "TubeChainModel" 129 12 39 := ⟨_, _, rfl, by decide, w_1032, Or.inl rfl⟩
theorem pgf_Mo_129_12 : px_GF "TubeChainModel" 129 12 39 (.array .int) true := ⟨_, _, rfl, by decide, w_1032, Or.inl rfl, by decide +kernel, rfl, fun _ => rfl⟩
theorem gf_Mo_132_12 : px_GR "TubeChainModel" 132 12 40 := ⟨_, _, rfl, by decide, w_1033, Or.inl rfl⟩
theorem pgf_Mo_132_12 : px_GF "TubeChainModel" 132 12 40 (.array .int) true := ⟨_, _, rfl, by decide, w_1033, Or.inl rfl, by decide +kernel, rfl, fun _ => rfl⟩
theorem gf_Mo_135_12 : px_GR "TubeChainModel" 135 12 41 := ⟨_, _, rfl, by decide, w_1034, Or.inl rfl⟩
theorem pgf_Mo_135_12 : px_GF "TubeChainModel" 135 12 41 (.array .int) true := ⟨_, _, rfl, by decide, w_1034, Or.inl rfl, by decide +kernel, rfl, fun _ => rfl⟩
theorem gf_Mo_138_12 : px_GR "TubeChainModel" 138 12 42 := ⟨_, _, rfl, by decide, w_1035, Or.inl rfl⟩
theorem pgf_Mo_138_12 : px_GF "TubeChainModel" 138 12 42 .int false := ⟨_, _, rfl, by decide, w_1035, Or.inl rfl, by decide +kernel, rfl, fun h => by cases h⟩
theorem gf_Mo_141_12 : px_GR "TubeChainModel" 141 12 43 := ⟨_, _, rfl, by decide, w_1036, Or.inl rfl⟩
theorem pgf_Mo_141_12 : px_GF "TubeChainModel" 141 12 43 (.array .int) true := ⟨_, _, rfl, by decide, w_1036, Or.inl rfl, by decide +kernel, rfl, fun _ => rfl⟩
theorem gf_Mo_144_12 : px_GR "TubeChainModel" 144 12 44 := ⟨_, _, rfl, by decide, w_1037, Or.inl rfl⟩
theorem pgf_Mo_144_12 : px_GF "TubeChainModel" 144 12 44 .int false := ⟨_, _, rfl, by decide, w_1037, Or.inl rfl, by decide +kernel, rfl, fun h => by cases h⟩
theorem gf_Mo_147_12 : px_GR "TubeChainModel" 147 12 45 := ⟨_, _, rfl, by decide, w_1038, Or.inl rfl⟩
theorem pgf_Mo_147_12 : px_GF "TubeChainModel" 147 12 45 (.array .int) true := ⟨_, _, rfl, by decide, w_1038, Or.inl rfl, by decide +kernel, rfl, fun _ => rfl⟩
theorem gf_Mo_150_12 : px_GR "TubeChainModel" 150 12 46 := ⟨_, _, rfl, by decide, w_1039, Or.inl rfl⟩
theorem pgf_Mo_150_12 : px_GF "TubeChainModel" 150 12 46 (.array .boolean) true := ⟨_, _, rfl, by decide, w_1039, Or.inl rfl, by decide +kernel, rfl, fun _ => rfl⟩
theorem gf_Mo_153_12 : px_GR "TubeChainModel" 153 12 47 := ⟨_, _, rfl, by decide, w_1040, Or.inl rfl⟩
theorem pgf_Mo_153_12 : px_GF "TubeChainModel" 153 12 47 .boolean false := ⟨_, _, rfl, by decide, w_1040, Or.inl rfl, by decide +kernel, rfl, fun h => by cases h⟩
theorem gf_Mo_157_12 : px_GR "TubeChainModel" 157 12 48 := ⟨_, _, rfl, by decide, w_1041, Or.inl rfl⟩
theorem pgf_Mo_157_12 : px_GF "TubeChainModel" 157 12 48 .int false := ⟨_, _, rfl, by decide, w_1041, Or.inl rfl, by decide +kernel, rfl, fun h => by cases h⟩
theorem gf_Mo_160_12 : px_GR "TubeChainModel" 160 12 49 := ⟨_, _, rfl, by decide, w_1042, Or.inl rfl⟩
theorem pgf_Mo_160_12 : px_GF "TubeChainModel" 160 12 49 .int false := ⟨_, _, rfl, by decide, w_1042, Or.inl rfl, by decide +kernel, rfl, fun h => by cases h⟩
theorem gf_Mo_163_12 : px_GR "TubeChainModel" 163 12 50 := ⟨_, _, rfl, by decide, w_1043, Or.inl rfl⟩
theorem pgf_Mo_163_12 : px_GF "TubeChainModel" 163 12 50 .int false := ⟨_, _, rfl, by decide, w_1043, Or.inl rfl, by decide +kernel, rfl, fun h => by cases h⟩
theorem gf_Mo_166_12 : px_GR "TubeChainModel" 166 12 51 := ⟨_, _, rfl, by decide, w_1044, Or.inl rfl⟩
theorem pgf_Mo_166_12 : px_GF "TubeChainModel" 166 12 51 .int false := ⟨_, _, rfl, by decide, w_1044, Or.inl rfl, by decide +kernel, rfl, fun h => by cases h⟩
theorem gf_Mo_169_12 : px_GR "TubeChainModel" 169 12 52 := ⟨_, _, rfl, by decide, w_1045, Or.inl rfl⟩
theorem pgf_Mo_169_12 : px_GF "TubeChainModel" 169 12 52 .int false := ⟨_, _, rfl, by decide, w_1045, Or.inl rfl, by decide +kernel, rfl, fun h => by cases h⟩
theorem gf_Mo_172_12 : px_GR "TubeChainModel" 172 12 53 := ⟨_, _, rfl, by decide, w_1046, Or.inl rfl⟩
theorem pgf_Mo_172_12 : px_GF "TubeChainModel" 172 12 53 .int false := ⟨_, _, rfl, by decide, w_1046, Or.inl rfl, by decide +kernel, rfl, fun h => by cases h⟩
theorem gf_Mo_175_12 : px_GR "TubeChainModel" 175 12 54 := ⟨_, _, rfl, by decide, w_1047, Or.inl rfl⟩
theorem pgf_Mo_175_12 : px_GF "TubeChainModel" 175 12 54 .int false := ⟨_, _, rfl, by decide, w_1047, Or.inl rfl, by decide +kernel, rfl, fun h => by cases h⟩
theorem gf_Mo_178_12 : px_GR "TubeChainModel" 178 12 55 := ⟨_, _, rfl, by decide, w_1048, Or.inl rfl⟩
theorem pgf_Mo_178_12 : px_GF "TubeChainModel" 178 12 55 (.array .int) true := ⟨_, _, rfl, by decide, w_1048, Or.inl rfl, by decide +kernel, rfl, fun _ => rfl⟩
theorem gf_Mo_181_12 : px_GR "TubeChainModel" 181 12 56 := ⟨_, _, rfl, by decide, w_1049, Or.inl rfl⟩
theorem pgf_Mo_181_12 : px_GF "TubeChainModel" 181 12 56 (.array .int) true := ⟨_, _, rfl, by decide, w_1049, Or.inl rfl, by decide +kernel, rfl, fun _ => rfl⟩
theorem gf_Mo_184_12 : px_GR "TubeChainModel" 184 12 57 := ⟨_, _, rfl, by decide, w_1050, Or.inl rfl⟩
theorem pgf_Mo_184_12 : px_GF "TubeChainModel" 184 12 57 (.array .int) true := ⟨_, _, rfl, by decide, w_1050, Or.inl rfl, by decide +kernel, rfl, fun _ => rfl⟩
theorem gf_Mo_187_12 : px_GR "TubeChainModel" 187 12 58 := ⟨_, _, rfl, by decide, w_1051, Or.inl rfl⟩
theorem pgf_Mo_187_12 : px_GF "TubeChainModel" 187 12 58 (.array .int) true := ⟨_, _, rfl, by decide, w_1051, Or.inl rfl, by decide +kernel, rfl, fun _ => rfl⟩
theorem gf_Mo_190_12 : px_GR "TubeChainModel" 190 12 59 := ⟨_, _, rfl, by decide, w_1052, Or.inl rfl⟩
theorem pgf_Mo_190_12 : px_GF "TubeChainModel" 190 12 59 (.array .int) true := ⟨_, _, rfl, by decide, w_1052, Or.inl rfl, by decide +kernel, rfl, fun _ => rfl⟩
theorem gf_Mo_193_12 : px_GR "TubeChainModel" 193 12 60 := ⟨_, _, rfl, by decide, w_1053, Or.inl rfl⟩
theorem pgf_Mo_193_12 : px_GF "TubeChainModel" 193 12 60 (.array .int) true := ⟨_, _, rfl, by decide, w_1053, Or.inl rfl, by decide +kernel, rfl, fun _ => rfl⟩
theorem gf_Mo_196_12 : px_GR "TubeChainModel" 196 12 61 := ⟨_, _, rfl, by decide, w_1054, Or.inl rfl⟩
theorem pgf_Mo_196_12 : px_GF "TubeChainModel" 196 12 61 (.array .int) true := ⟨_, _, rfl, by decide, w_1054, Or.inl rfl, by decide +kernel, rfl, fun _ => rfl⟩
theorem gf_Mo_199_12 : px_GR "TubeChainModel" 199 12 62 := ⟨_, _, rfl, by decide, w_1055, Or.inl rfl⟩
theorem pgf_Mo_199_12 : px_GF "TubeChainModel" 199 12 62 (.array .int) true := ⟨_, _, rfl, by decide, w_1055, Or.inl rfl, by decide +kernel, rfl, fun _ => rfl⟩
theorem gf_Mo_202_12 : px_GR "TubeChainModel" 202 12 63 := ⟨_, _, rfl, by decide, w_1056, Or.inl rfl⟩
theorem pgf_Mo_202_12 : px_GF "TubeChainModel" 202 12 63 (.array .boolean) true := ⟨_, _, rfl, by decide, w_1056, Or.inl rfl, by decide +kernel, rfl, fun _ => rfl⟩
theorem gf_Mo_205_12 : px_GR "TubeChainModel" 205 12 64 := ⟨_, _, rfl, by decide, w_1057, Or.inl rfl⟩
theorem pgf_Mo_205_12 : px_GF "TubeChainModel" 205 12 64 .int false := ⟨_, _, rfl, by decide, w_1057, Or.inl rfl, by decide +kernel, rfl, fun h => by cases h⟩
theorem gf_Mo_208_12 : px_GR "TubeChainModel" 208 12 65 := ⟨_, _, rfl, by decide, w_1058, Or.inl rfl⟩
theorem pgf_Mo_208_12 : px_GF "TubeChainModel" 208 12 65 (.array .int) true := ⟨_, _, rfl, by decide, w_1058, Or.inl rfl, by decide +kernel, rfl, fun _ => rfl⟩
theorem gf_Mo_211_12 : px_GR "TubeChainModel" 211 12 66 := ⟨_, _, rfl, by decide, w_1059, Or.inl rfl⟩
theorem pgf_Mo_211_12 : px_GF "TubeChainModel" 211 12 66 (.array .int) true := ⟨_, _, rfl, by decide, w_1059, Or.inl rfl, by decide +kernel, rfl, fun _ => rfl⟩
theorem gf_Mo_214_12 : px_GR "TubeChainModel" 214 12 67 := ⟨_, _, rfl, by decide, w_1060, Or.inl rfl⟩
theorem pgf_Mo_214_12 : px_GF "TubeChainModel" 214 12 67 (.array .int) true := ⟨_, _, rfl, by decide, w_1060, Or.inl rfl, by decide +kernel, rfl, fun _ => rfl⟩
theorem gf_Mo_217_12 : px_GR "TubeChainModel" 217 12 68 := ⟨_, _, rfl, by decide, w_1061, Or.inl rfl⟩
theorem pgf_Mo_217_12 : px_GF "TubeChainModel" 217 12 68 (.array .long) true := ⟨_, _, rfl, by decide, w_1061, Or.inl rfl, by decide +kernel, rfl, fun _ => rfl⟩
theorem gf_Mo_221_12 : px_GR "TubeChainModel" 221 12 69 := ⟨_, _, rfl, by decide, w_1062, Or.inl rfl⟩
theorem pgf_Mo_221_12 : px_GF "TubeChainModel" 221 12 69 (.array .long) true := ⟨_, _, rfl, by decide, w_1062, Or.inl rfl, by decide +kernel, rfl, fun _ => rfl⟩
abbrev m_TC_init : px_M := (⟨"TubeChain", "<init>", "()V"⟩, prog_1_method_1_code, 4, none)
theorem k_TC_init : px_ok m_TC_init 0 := ⟨by decide +kernel, px_in (px_t1 (List.mem_of_getElem? (i := 26) rfl)) rfl, w_73, ⟨by decide +kernel, by decide +kernel⟩, by decide +kernel, by decide⟩
abbrev m_Sc_init : px_M := (⟨"TubeChain$Scaffold", "<init>", "(I)V"⟩, prog_5_method_1_code, 2, none)
theorem k_Sc_init : px_ok m_Sc_init 1 := ⟨by decide +kernel, px_in (px_t1 (List.mem_of_getElem? (i := 34) rfl)) rfl, w_74, ⟨by decide +kernel, by decide +kernel⟩, by decide +kernel, by decide⟩
abbrev m_Ma_init : px_M := (⟨"TubeChain$Man", "<init>", "(II)V"⟩, prog_4_method_1_code, 3, none)
theorem k_Ma_init : px_ok m_Ma_init 2 := ⟨by decide +kernel, px_in (px_t1 (List.mem_of_getElem? (i := 82) rfl)) rfl, w_76, ⟨by decide +kernel, by decide +kernel⟩, by decide +kernel, by decide⟩
abbrev m_Si_init : px_M := (⟨"TubeChain$Site", "<init>", "(LTubeChain$Scaffold;LTubeChain$Man;)V"⟩, prog_6_method_1_code, 4, none)
theorem k_Si_init : px_ok m_Si_init 2 := ⟨by decide +kernel, px_in (px_t1 (List.mem_of_getElem? (i := 106) rfl)) rfl, w_77, ⟨by decide +kernel, by decide +kernel⟩, by decide +kernel, by decide⟩
abbrev m_Tr_init : px_M := (⟨"TubeChain$Trial", "<init>", "(LTubeChain$Site;LTubeChain$Site;)V"⟩, prog_12_method_1_code, 3, none)
theorem k_Tr_init : px_ok m_Tr_init 2 := ⟨by decide +kernel, px_in (px_t1 (List.mem_of_getElem? (i := 176) rfl)) rfl, w_78, ⟨by decide +kernel, by decide +kernel⟩, by decide +kernel, by decide⟩
abbrev m_Ta_init : px_M := (⟨"TubeChain$Tape", "<init>", "()V"⟩, prog_9_method_1_code, 1, none)
theorem k_Ta_init : px_ok m_Ta_init 0 := ⟨by decide +kernel, px_in (px_t1 (List.mem_of_getElem? (i := 208) rfl)) rfl, w_79, ⟨by decide +kernel, by decide +kernel⟩, by decide +kernel, by decide⟩
abbrev m_TC_man : px_M := (⟨"TubeChain", "man", "(II)I"⟩, prog_1_method_2_code, 3, some .int)
theorem k_TC_man : px_ok m_TC_man 2 := ⟨by decide +kernel, px_in (px_t2 (List.mem_of_getElem? (i := 20) rfl)) rfl, w_73, ⟨by decide +kernel, by decide +kernel⟩, by decide +kernel, by decide⟩
abbrev m_TC_newMan : px_M := (⟨"TubeChain", "newMan", "(III)LTubeChain$Man;"⟩, prog_1_method_3_code, 3, some (.object "TubeChain$Man"))
theorem k_TC_newMan : px_ok m_TC_newMan 3 := ⟨by decide +kernel, px_in (px_t2 (List.mem_of_getElem? (i := 25) rfl)) rfl, w_73, ⟨by decide +kernel, by decide +kernel⟩, by decide +kernel, by decide⟩
abbrev m_St_init : px_M := (⟨"TubeChain$Strong", "<init>", "(II)V"⟩, prog_8_method_1_code, 3, none)
theorem k_St_init : px_ok m_St_init 2 := ⟨by decide +kernel, px_in (px_t2 (List.mem_of_getElem? (i := 30) rfl)) rfl, w_81, ⟨by decide +kernel, by decide +kernel⟩, by decide +kernel, by decide⟩
abbrev m_Gl_init : px_M := (⟨"TubeChain$Gloved", "<init>", "(II)V"⟩, prog_3_method_1_code, 3, none)
theorem k_Gl_init : px_ok m_Gl_init 2 := ⟨by decide +kernel, px_in (px_t2 (List.mem_of_getElem? (i := 39) rfl)) rfl, w_82, ⟨by decide +kernel, by decide +kernel⟩, by decide +kernel, by decide⟩
abbrev m_Ti_init : px_M := (⟨"TubeChain$Tiring", "<init>", "(II)V"⟩, prog_10_method_1_code, 3, none)
theorem k_Ti_init : px_ok m_Ti_init 2 := ⟨by decide +kernel, px_in (px_t2 (List.mem_of_getElem? (i := 48) rfl)) rfl, w_83, ⟨by decide +kernel, by decide +kernel⟩, by decide +kernel, by decide⟩
abbrev m_Ca_init : px_M := (⟨"TubeChain$Calling", "<init>", "(II)V"⟩, prog_2_method_1_code, 3, none)
theorem k_Ca_init : px_ok m_Ca_init 2 := ⟨by decide +kernel, px_in (px_t2 (List.mem_of_getElem? (i := 57) rfl)) rfl, w_84, ⟨by decide +kernel, by decide +kernel⟩, by decide +kernel, by decide⟩
abbrev m_Sl_init : px_M := (⟨"TubeChain$Slipping", "<init>", "(II)V"⟩, prog_7_method_1_code, 3, none)
theorem k_Sl_init : px_ok m_Sl_init 2 := ⟨by decide +kernel, px_in (px_t2 (List.mem_of_getElem? (i := 66) rfl)) rfl, w_85, ⟨by decide +kernel, by decide +kernel⟩, by decide +kernel, by decide⟩
abbrev m_To_init : px_M := (⟨"TubeChain$Told", "<init>", "(II)V"⟩, prog_11_method_1_code, 3, none)
theorem k_To_init : px_ok m_To_init 2 := ⟨by decide +kernel, px_in (px_t2 (List.mem_of_getElem? (i := 75) rfl)) rfl, w_86, ⟨by decide +kernel, by decide +kernel⟩, by decide +kernel, by decide⟩
abbrev m_Si_join : px_M := (⟨"TubeChain$Site", "join", "(LTubeChain$Man;)I"⟩, prog_6_method_4_code, 4, some .int)
theorem k_Si_join : px_ok m_Si_join 1 := ⟨by decide +kernel, px_in (px_t2 (List.mem_of_getElem? (i := 83) rfl)) rfl, w_77, ⟨by decide +kernel, by decide +kernel⟩, by decide +kernel, by decide⟩
abbrev m_Si_insertAt : px_M := (⟨"TubeChain$Site", "insertAt", "(II)V"⟩, prog_6_method_7_code, 3, none)
theorem k_Si_insertAt : px_ok m_Si_insertAt 2 := ⟨by decide +kernel, px_in (px_t2 (List.mem_of_getElem? (i := 87) rfl)) rfl, w_77, ⟨by decide +kernel, by decide +kernel⟩, by decide +kernel, by decide⟩
abbrev m_TC_of : px_M := (⟨"TubeChain", "of", "(II)I"⟩, prog_1_method_4_code, 3, some .int)
theorem k_TC_of : px_ok m_TC_of 2 := ⟨by decide +kernel, px_in (px_t2 (List.mem_of_getElem? (i := 94) rfl)) rfl, w_73, ⟨by decide +kernel, by decide +kernel⟩, by decide +kernel, by decide⟩
abbrev m_TC_isNoMan : px_M := (⟨"TubeChain", "isNoMan", "(I)Z"⟩, prog_1_method_43_code, 2, some .boolean)
theorem k_TC_isNoMan : px_ok m_TC_isNoMan 1 := ⟨by decide +kernel, px_in (px_t2 (List.mem_of_getElem? (i := 98) rfl)) rfl, w_73, ⟨by decide +kernel, by decide +kernel⟩, by decide +kernel, by decide⟩
abbrev m_Ca_kind : px_M := (⟨"TubeChain$Calling", "kind", "()I"⟩, prog_2_method_2_code, 1, some .int)
theorem k_Ca_kind : px_ok m_Ca_kind 0 := ⟨by decide +kernel, px_in (px_t2 (List.mem_of_getElem? (i := 105) rfl)) rfl, w_84, ⟨by decide +kernel, by decide +kernel⟩, by decide +kernel, by decide⟩
abbrev m_Gl_kind : px_M := (⟨"TubeChain$Gloved", "kind", "()I"⟩, prog_3_method_2_code, 1, some .int)
theorem k_Gl_kind : px_ok m_Gl_kind 0 := ⟨by decide +kernel, px_in (px_t2 (List.mem_of_getElem? (i := 108) rfl)) rfl, w_82, ⟨by decide +kernel, by decide +kernel⟩, by decide +kernel, by decide⟩
abbrev m_Sl_kind : px_M := (⟨"TubeChain$Slipping", "kind", "()I"⟩, prog_7_method_2_code, 1, some .int)
theorem k_Sl_kind : px_ok m_Sl_kind 0 := ⟨by decide +kernel, px_in (px_t2 (List.mem_of_getElem? (i := 111) rfl)) rfl, w_85, ⟨by decide +kernel, by decide +kernel⟩, by decide +kernel, by decide⟩
abbrev m_St_kind : px_M := (⟨"TubeChain$Strong", "kind", "()I"⟩, prog_8_method_2_code, 1, some .int)
theorem k_St_kind : px_ok m_St_kind 0 := ⟨by decide +kernel, px_in (px_t2 (List.mem_of_getElem? (i := 114) rfl)) rfl, w_81, ⟨by decide +kernel, by decide +kernel⟩, by decide +kernel, by decide⟩
abbrev m_Ti_kind : px_M := (⟨"TubeChain$Tiring", "kind", "()I"⟩, prog_10_method_2_code, 1, some .int)
theorem k_Ti_kind : px_ok m_Ti_kind 0 := ⟨by decide +kernel, px_in (px_t2 (List.mem_of_getElem? (i := 117) rfl)) rfl, w_83, ⟨by decide +kernel, by decide +kernel⟩, by decide +kernel, by decide⟩
abbrev m_To_kind : px_M := (⟨"TubeChain$Told", "kind", "()I"⟩, prog_11_method_2_code, 1, some .int)
theorem k_To_kind : px_ok m_To_kind 0 := ⟨by decide +kernel, px_in (px_t2 (List.mem_of_getElem? (i := 120) rfl)) rfl, w_86, ⟨by decide +kernel, by decide +kernel⟩, by decide +kernel, by decide⟩
abbrev m_Ma_kind : px_M := (⟨"TubeChain$Man", "kind", "()I"⟩, prog_4_method_2_code, 1, some .int)
theorem k_Ma_kind : px_ok m_Ma_kind 0 := ⟨by decide +kernel, px_in (px_t2 (List.mem_of_getElem? (i := 121) rfl)) rfl, w_76, ⟨by decide +kernel, by decide +kernel⟩, by decide +kernel, by decide⟩
abbrev m_Si_placeOf : px_M := (⟨"TubeChain$Site", "placeOf", "(I)I"⟩, prog_6_method_5_code, 3, some .int)
theorem k_Si_placeOf : px_ok m_Si_placeOf 1 := ⟨by decide +kernel, px_in (px_t2 (List.mem_of_getElem? (i := 125) rfl)) rfl, w_77, ⟨by decide +kernel, by decide +kernel⟩, by decide +kernel, by decide⟩
abbrev m_Si_paceAt : px_M := (⟨"TubeChain$Site", "paceAt", "(I)I"⟩, prog_6_method_11_code, 3, some .int)
theorem k_Si_paceAt : px_ok m_Si_paceAt 1 := ⟨by decide +kernel, px_in (px_t2 (List.mem_of_getElem? (i := 129) rfl)) rfl, w_77, ⟨by decide +kernel, by decide +kernel⟩, by decide +kernel, by decide⟩
abbrev m_Sc_pace : px_M := (⟨"TubeChain$Scaffold", "pace", "(LTubeChain$Man;II)I"⟩, prog_5_method_12_code, 9, some .int)
theorem k_Sc_pace : px_ok m_Sc_pace 3 := ⟨by decide +kernel, px_in (px_t2 (List.mem_of_getElem? (i := 133) rfl)) rfl, w_74, ⟨by decide +kernel, by decide +kernel⟩, by decide +kernel, by decide⟩
abbrev m_Sc_reckonPace : px_M := (⟨"TubeChain$Scaffold", "reckonPace", "(LTubeChain$Man;II)I"⟩, prog_5_method_13_code, 9, some .int)
theorem k_Sc_reckonPace : px_ok m_Sc_reckonPace 3 := ⟨by decide +kernel, px_in (px_t2 (List.mem_of_getElem? (i := 137) rfl)) rfl, w_74, ⟨by decide +kernel, by decide +kernel⟩, by decide +kernel, by decide⟩
abbrev m_Sc_test : px_M := (⟨"TubeChain$Scaffold", "test", "(I)I"⟩, prog_5_method_14_code, 4, some .int)
theorem k_Sc_test : px_ok m_Sc_test 1 := ⟨by decide +kernel, px_in (px_t2 (List.mem_of_getElem? (i := 145) rfl)) rfl, w_74, ⟨by decide +kernel, by decide +kernel⟩, by decide +kernel, by decide⟩
abbrev m_Si_holdsAt : px_M := (⟨"TubeChain$Site", "holdsAt", "(I)I"⟩, prog_6_method_12_code, 4, some .int)
theorem k_Si_holdsAt : px_ok m_Si_holdsAt 1 := ⟨by decide +kernel, px_in (px_t2 (List.mem_of_getElem? (i := 151) rfl)) rfl, w_77, ⟨by decide +kernel, by decide +kernel⟩, by decide +kernel, by decide⟩
abbrev m_Ca_holds : px_M := (⟨"TubeChain$Calling", "holds", "(III)I"⟩, prog_2_method_3_code, 4, some .int)
theorem k_Ca_holds : px_ok m_Ca_holds 3 := ⟨by decide +kernel, px_in (px_t2 (List.mem_of_getElem? (i := 158) rfl)) rfl, w_84, ⟨by decide +kernel, by decide +kernel⟩, by decide +kernel, by decide⟩
abbrev m_St_holds : px_M := (⟨"TubeChain$Strong", "holds", "(III)I"⟩, prog_8_method_3_code, 4, some .int)
theorem k_St_holds : px_ok m_St_holds 3 := ⟨by decide +kernel, px_in (px_t2 (List.mem_of_getElem? (i := 161) rfl)) rfl, w_81, ⟨by decide +kernel, by decide +kernel⟩, by decide +kernel, by decide⟩
abbrev m_Gl_holds : px_M := (⟨"TubeChain$Gloved", "holds", "(III)I"⟩, prog_3_method_3_code, 4, some .int)
theorem k_Gl_holds : px_ok m_Gl_holds 3 := ⟨by decide +kernel, px_in (px_t2 (List.mem_of_getElem? (i := 166) rfl)) rfl, w_82, ⟨by decide +kernel, by decide +kernel⟩, by decide +kernel, by decide⟩
abbrev m_Ti_holds : px_M := (⟨"TubeChain$Tiring", "holds", "(III)I"⟩, prog_10_method_3_code, 4, some .int)
theorem k_Ti_holds : px_ok m_Ti_holds 3 := ⟨by decide +kernel, px_in (px_t2 (List.mem_of_getElem? (i := 171) rfl)) rfl, w_83, ⟨by decide +kernel, by decide +kernel⟩, by decide +kernel, by decide⟩
abbrev m_To_holds : px_M := (⟨"TubeChain$Told", "holds", "(III)I"⟩, prog_11_method_3_code, 4, some .int)
theorem k_To_holds : px_ok m_To_holds 3 := ⟨by decide +kernel, px_in (px_t2 (List.mem_of_getElem? (i := 174) rfl)) rfl, w_86, ⟨by decide +kernel, by decide +kernel⟩, by decide +kernel, by decide⟩
abbrev m_Ma_holds : px_M := (⟨"TubeChain$Man", "holds", "(III)I"⟩, prog_4_method_3_code, 4, some .int)
theorem k_Ma_holds : px_ok m_Ma_holds 3 := ⟨by decide +kernel, px_in (px_t2 (List.mem_of_getElem? (i := 176) rfl)) rfl, w_76, ⟨by decide +kernel, by decide +kernel⟩, by decide +kernel, by decide⟩
abbrev m_TC_held : px_M := (⟨"TubeChain", "held", "(II)I"⟩, prog_1_method_5_code, 4, some .int)
theorem k_TC_held : px_ok m_TC_held 2 := ⟨by decide +kernel, px_in (px_t2 (List.mem_of_getElem? (i := 180) rfl)) rfl, w_73, ⟨by decide +kernel, by decide +kernel⟩, by decide +kernel, by decide⟩
abbrev m_TC_row : px_M := (⟨"TubeChain", "row", "(III)I"⟩, prog_1_method_6_code, 5, some .int)
theorem k_TC_row : px_ok m_TC_row 3 := ⟨by decide +kernel, px_in (px_t2 (List.mem_of_getElem? (i := 184) rfl)) rfl, w_73, ⟨by decide +kernel, by decide +kernel⟩, by decide +kernel, by decide⟩
abbrev m_TC_place : px_M := (⟨"TubeChain", "place", "(II)I"⟩, prog_1_method_7_code, 4, some .int)
theorem k_TC_place : px_ok m_TC_place 2 := ⟨by decide +kernel, px_in (px_t2 (List.mem_of_getElem? (i := 188) rfl)) rfl, w_73, ⟨by decide +kernel, by decide +kernel⟩, by decide +kernel, by decide⟩
abbrev m_Si_removeAt : px_M := (⟨"TubeChain$Site", "removeAt", "(I)V"⟩, prog_6_method_6_code, 2, none)
theorem k_Si_removeAt : px_ok m_Si_removeAt 1 := ⟨by decide +kernel, px_in (px_t2 (List.mem_of_getElem? (i := 192) rfl)) rfl, w_77, ⟨by decide +kernel, by decide +kernel⟩, by decide +kernel, by decide⟩
abbrev m_TC_feed : px_M := (⟨"TubeChain", "feed", "(I)I"⟩, prog_1_method_8_code, 2, some .int)
theorem k_TC_feed : px_ok m_TC_feed 1 := ⟨by decide +kernel, px_in (px_t2 (List.mem_of_getElem? (i := 197) rfl)) rfl, w_73, ⟨by decide +kernel, by decide +kernel⟩, by decide +kernel, by decide⟩
abbrev m_TC_scaffold : px_M := (⟨"TubeChain", "scaffold", "()I"⟩, prog_1_method_9_code, 3, some .int)
theorem k_TC_scaffold : px_ok m_TC_scaffold 0 := ⟨by decide +kernel, px_in (px_t2 (List.mem_of_getElem? (i := 201) rfl)) rfl, w_73, ⟨by decide +kernel, by decide +kernel⟩, by decide +kernel, by decide⟩
abbrev m_Sc_compile : px_M := (⟨"TubeChain$Scaffold", "compile", "([CI)I"⟩, prog_5_method_2_code, 4, some .int)
theorem k_Sc_compile : px_ok m_Sc_compile 2 := ⟨by decide +kernel, px_in (px_t2 (List.mem_of_getElem? (i := 205) rfl)) rfl, w_74, ⟨by decide +kernel, by decide +kernel⟩, by decide +kernel, by decide⟩
abbrev m_Sc_readClause : px_M := (⟨"TubeChain$Scaffold", "readClause", "()Z"⟩, prog_5_method_3_code, 3, some .boolean)
theorem k_Sc_readClause : px_ok m_Sc_readClause 0 := ⟨by decide +kernel, px_in (px_t2 (List.mem_of_getElem? (i := 209) rfl)) rfl, w_74, ⟨by decide +kernel, by decide +kernel⟩, by decide +kernel, by decide⟩
abbrev m_Sc_readWord : px_M := (⟨"TubeChain$Scaffold", "readWord", "()I"⟩, prog_5_method_5_code, 4, some .int)
theorem k_Sc_readWord : px_ok m_Sc_readWord 0 := ⟨by decide +kernel, px_in (px_t2 (List.mem_of_getElem? (i := 213) rfl)) rfl, w_74, ⟨by decide +kernel, by decide +kernel⟩, by decide +kernel, by decide⟩
abbrev m_Sg_length : px_M := (⟨"java/lang/String", "length", "()I"⟩, prog_17_method_54_code, 1, some .int)
theorem k_Sg_length : px_ok m_Sg_length 0 := ⟨by decide +kernel, px_in (px_t2 (List.mem_of_getElem? (i := 218) rfl)) rfl, w_88, ⟨by decide +kernel, by decide +kernel⟩, by decide +kernel, by decide⟩
abbrev m_Sg_coder : px_M := (⟨"java/lang/String", "coder", "()B"⟩, prog_17_method_152_code, 1, some .byte)
theorem k_Sg_coder : px_ok m_Sg_coder 0 := ⟨by decide +kernel, px_in (px_t2 (List.mem_of_getElem? (i := 222) rfl)) rfl, w_88, ⟨by decide +kernel, by decide +kernel⟩, by decide +kernel, by decide⟩
abbrev m_Sg_charAt : px_M := (⟨"java/lang/String", "charAt", "(I)C"⟩, prog_17_method_56_code, 2, some .char)
theorem k_Sg_charAt : px_ok m_Sg_charAt 1 := ⟨by decide +kernel, px_in (px_t2 (List.mem_of_getElem? (i := 228) rfl)) rfl, w_88, ⟨by decide +kernel, by decide +kernel⟩, by decide +kernel, by decide⟩
abbrev m_Sg_isLatin1 : px_M := (⟨"java/lang/String", "isLatin1", "()Z"⟩, prog_17_method_154_code, 1, some .boolean)
theorem k_Sg_isLatin1 : px_ok m_Sg_isLatin1 0 := ⟨by decide +kernel, px_in (px_t2 (List.mem_of_getElem? (i := 232) rfl)) rfl, w_88, ⟨by decide +kernel, by decide +kernel⟩, by decide +kernel, by decide⟩
abbrev m_SL_charAt : px_M := (⟨"java/lang/StringLatin1", "charAt", "([BI)C"⟩, prog_18_method_2_code, 2, some .char)
theorem k_SL_charAt : px_ok m_SL_charAt 2 := ⟨by decide +kernel, px_in (px_t2 (List.mem_of_getElem? (i := 235) rfl)) rfl, w_89, ⟨by decide +kernel, by decide +kernel⟩, by decide +kernel, by decide⟩
abbrev m_Sg_checkIndex : px_M := (⟨"java/lang/String", "checkIndex", "(II)V"⟩, prog_17_method_155_code, 2, none)
theorem k_Sg_checkIndex : px_ok m_Sg_checkIndex 2 := ⟨by decide +kernel, px_in (px_t2 (List.mem_of_getElem? (i := 238) rfl)) rfl, w_88, ⟨by decide +kernel, by decide +kernel⟩, by decide +kernel, by decide⟩
abbrev m_Pr_checkIndex : px_M := (⟨"jdk/internal/util/Preconditions", "checkIndex", "(IILjava/util/function/BiFunction;)I"⟩, prog_22_method_11_code, 3, some .int)
theorem k_Pr_checkIndex : px_ok m_Pr_checkIndex 3 := ⟨by decide +kernel, px_in (px_t3 (List.mem_of_getElem? (i := 3) rfl)) rfl, w_90, ⟨by decide +kernel, by decide +kernel⟩, by decide +kernel, by decide⟩
abbrev m_Sc_passes : px_M := (⟨"TubeChain$Scaffold", "passes", "(C)Z"⟩, prog_5_method_4_code, 2, some .boolean)
theorem k_Sc_passes : px_ok m_Sc_passes 1 := ⟨by decide +kernel, px_in (px_t3 (List.mem_of_getElem? (i := 26) rfl)) rfl, w_74, ⟨by decide +kernel, by decide +kernel⟩, by decide +kernel, by decide⟩
abbrev m_Sc_readNumber : px_M := (⟨"TubeChain$Scaffold", "readNumber", "()I"⟩, prog_5_method_6_code, 3, some .int)
theorem k_Sc_readNumber : px_ok m_Sc_readNumber 0 := ⟨by decide +kernel, px_in (px_t3 (List.mem_of_getElem? (i := 30) rfl)) rfl, w_74, ⟨by decide +kernel, by decide +kernel⟩, by decide +kernel, by decide⟩
abbrev m_Sc_readEither : px_M := (⟨"TubeChain$Scaffold", "readEither", "(I)Z"⟩, prog_5_method_7_code, 3, some .boolean)
theorem k_Sc_readEither : px_ok m_Sc_readEither 1 := ⟨by decide +kernel, px_in (px_t3 (List.mem_of_getElem? (i := 34) rfl)) rfl, w_74, ⟨by decide +kernel, by decide +kernel⟩, by decide +kernel, by decide⟩
abbrev m_Sc_readBoth : px_M := (⟨"TubeChain$Scaffold", "readBoth", "(I)Z"⟩, prog_5_method_8_code, 3, some .boolean)
theorem k_Sc_readBoth : px_ok m_Sc_readBoth 1 := ⟨by decide +kernel, px_in (px_t3 (List.mem_of_getElem? (i := 38) rfl)) rfl, w_74, ⟨by decide +kernel, by decide +kernel⟩, by decide +kernel, by decide⟩
abbrev m_Sc_readOne : px_M := (⟨"TubeChain$Scaffold", "readOne", "(I)Z"⟩, prog_5_method_9_code, 3, some .boolean)
theorem k_Sc_readOne : px_ok m_Sc_readOne 1 := ⟨by decide +kernel, px_in (px_t3 (List.mem_of_getElem? (i := 42) rfl)) rfl, w_74, ⟨by decide +kernel, by decide +kernel⟩, by decide +kernel, by decide⟩
abbrev m_Sc_readTest : px_M := (⟨"TubeChain$Scaffold", "readTest", "()Z"⟩, prog_5_method_10_code, 4, some .boolean)
theorem k_Sc_readTest : px_ok m_Sc_readTest 0 := ⟨by decide +kernel, px_in (px_t3 (List.mem_of_getElem? (i := 46) rfl)) rfl, w_74, ⟨by decide +kernel, by decide +kernel⟩, by decide +kernel, by decide⟩
abbrev m_Sg_indexOf_I : px_M := (⟨"java/lang/String", "indexOf", "(I)I"⟩, prog_17_method_79_code, 2, some .int)
theorem k_Sg_indexOf_I : px_ok m_Sg_indexOf_I 1 := ⟨by decide +kernel, px_in (px_t3 (List.mem_of_getElem? (i := 51) rfl)) rfl, w_88, ⟨by decide +kernel, by decide +kernel⟩, by decide +kernel, by decide⟩
abbrev m_Sg_indexOf_II : px_M := (⟨"java/lang/String", "indexOf", "(II)I"⟩, prog_17_method_80_code, 3, some .int)
theorem k_Sg_indexOf_II : px_ok m_Sg_indexOf_II 2 := ⟨by decide +kernel, px_in (px_t3 (List.mem_of_getElem? (i := 55) rfl)) rfl, w_88, ⟨by decide +kernel, by decide +kernel⟩, by decide +kernel, by decide⟩
abbrev m_SL_indexOf : px_M := (⟨"java/lang/StringLatin1", "indexOf", "([BIII)I"⟩, prog_18_method_22_code, 4, some .int)
theorem k_SL_indexOf : px_ok m_SL_indexOf 4 := ⟨by decide +kernel, px_in (px_t3 (List.mem_of_getElem? (i := 59) rfl)) rfl, w_89, ⟨by decide +kernel, by decide +kernel⟩, by decide +kernel, by decide⟩
abbrev m_SL_canEncode : px_M := (⟨"java/lang/StringLatin1", "canEncode", "(I)Z"⟩, prog_18_method_4_code, 1, some .boolean)
theorem k_SL_canEncode : px_ok m_SL_canEncode 1 := ⟨by decide +kernel, px_in (px_t3 (List.mem_of_getElem? (i := 62) rfl)) rfl, w_89, ⟨by decide +kernel, by decide +kernel⟩, by decide +kernel, by decide⟩
abbrev m_SL_indexOfChar : px_M := (⟨"java/lang/StringLatin1", "indexOfChar", "([BIII)I"⟩, prog_18_method_23_code, 6, some .int)
theorem k_SL_indexOfChar : px_ok m_SL_indexOfChar 4 := ⟨by decide +kernel, px_in (px_t3 (List.mem_of_getElem? (i := 67) rfl)) rfl, w_89, ⟨by decide +kernel, by decide +kernel⟩, by decide +kernel, by decide⟩
abbrev m_Sc_emit : px_M := (⟨"TubeChain$Scaffold", "emit", "(I)Z"⟩, prog_5_method_11_code, 2, some .boolean)
theorem k_Sc_emit : px_ok m_Sc_emit 1 := ⟨by decide +kernel, px_in (px_t3 (List.mem_of_getElem? (i := 107) rfl)) rfl, w_74, ⟨by decide +kernel, by decide +kernel⟩, by decide +kernel, by decide⟩
abbrev m_TC_told : px_M := (⟨"TubeChain", "told", "(I)I"⟩, prog_1_method_10_code, 2, some .int)
theorem k_TC_told : px_ok m_TC_told 1 := ⟨by decide +kernel, px_in (px_t3 (List.mem_of_getElem? (i := 112) rfl)) rfl, w_73, ⟨by decide +kernel, by decide +kernel⟩, by decide +kernel, by decide⟩
abbrev m_TC_up : px_M := (⟨"TubeChain", "up", "(I)I"⟩, prog_1_method_11_code, 3, some .int)
theorem k_TC_up : px_ok m_TC_up 1 := ⟨by decide +kernel, px_in (px_t3 (List.mem_of_getElem? (i := 116) rfl)) rfl, w_73, ⟨by decide +kernel, by decide +kernel⟩, by decide +kernel, by decide⟩
abbrev m_TC_isNoBeat : px_M := (⟨"TubeChain", "isNoBeat", "(I)Z"⟩, prog_1_method_44_code, 1, some .boolean)
theorem k_TC_isNoBeat : px_ok m_TC_isNoBeat 1 := ⟨by decide +kernel, px_in (px_t3 (List.mem_of_getElem? (i := 119) rfl)) rfl, w_73, ⟨by decide +kernel, by decide +kernel⟩, by decide +kernel, by decide⟩
abbrev m_Si_throwTube : px_M := (⟨"TubeChain$Site", "throwTube", "(I)I"⟩, prog_6_method_13_code, 7, some .int)
theorem k_Si_throwTube : px_ok m_Si_throwTube 1 := ⟨by decide +kernel, px_in (px_t3 (List.mem_of_getElem? (i := 124) rfl)) rfl, w_77, ⟨by decide +kernel, by decide +kernel⟩, by decide +kernel, by decide⟩
abbrev m_Sl_slips : px_M := (⟨"TubeChain$Slipping", "slips", "(I)Z"⟩, prog_7_method_3_code, 2, some .boolean)
theorem k_Sl_slips : px_ok m_Sl_slips 1 := ⟨by decide +kernel, px_in (px_t3 (List.mem_of_getElem? (i := 133) rfl)) rfl, w_85, ⟨by decide +kernel, by decide +kernel⟩, by decide +kernel, by decide⟩
abbrev m_Ma_slips : px_M := (⟨"TubeChain$Man", "slips", "(I)Z"⟩, prog_4_method_4_code, 2, some .boolean)
theorem k_Ma_slips : px_ok m_Ma_slips 1 := ⟨by decide +kernel, px_in (px_t3 (List.mem_of_getElem? (i := 137) rfl)) rfl, w_76, ⟨by decide +kernel, by decide +kernel⟩, by decide +kernel, by decide⟩
abbrev m_Si_capHeld : px_M := (⟨"TubeChain$Site", "capHeld", "()V"⟩, prog_6_method_14_code, 2, none)
theorem k_Si_capHeld : px_ok m_Si_capHeld 0 := ⟨by decide +kernel, px_in (px_t3 (List.mem_of_getElem? (i := 142) rfl)) rfl, w_77, ⟨by decide +kernel, by decide +kernel⟩, by decide +kernel, by decide⟩
abbrev m_TC_pause : px_M := (⟨"TubeChain", "pause", "(I)I"⟩, prog_1_method_12_code, 2, some .int)
theorem k_TC_pause : px_ok m_TC_pause 1 := ⟨by decide +kernel, px_in (px_t3 (List.mem_of_getElem? (i := 147) rfl)) rfl, w_73, ⟨by decide +kernel, by decide +kernel⟩, by decide +kernel, by decide⟩
abbrev m_TC_on : px_M := (⟨"TubeChain", "on", "(III)I"⟩, prog_1_method_13_code, 5, some .int)
theorem k_TC_on : px_ok m_TC_on 3 := ⟨by decide +kernel, px_in (px_t3 (List.mem_of_getElem? (i := 151) rfl)) rfl, w_73, ⟨by decide +kernel, by decide +kernel⟩, by decide +kernel, by decide⟩
abbrev m_Tr_startFrom : px_M := (⟨"TubeChain$Trial", "startFrom", "(LTubeChain$Site;)V"⟩, prog_12_method_2_code, 2, none)
theorem k_Tr_startFrom : px_ok m_Tr_startFrom 1 := ⟨by decide +kernel, px_in (px_t3 (List.mem_of_getElem? (i := 155) rfl)) rfl, w_78, ⟨by decide +kernel, by decide +kernel⟩, by decide +kernel, by decide⟩
abbrev m_Si_copyChain : px_M := (⟨"TubeChain$Site", "copyChain", "(LTubeChain$Site;)V"⟩, prog_6_method_2_code, 2, none)
theorem k_Si_copyChain : px_ok m_Si_copyChain 1 := ⟨by decide +kernel, px_in (px_t3 (List.mem_of_getElem? (i := 159) rfl)) rfl, w_77, ⟨by decide +kernel, by decide +kernel⟩, by decide +kernel, by decide⟩
abbrev m_Tr_throwTubes : px_M := (⟨"TubeChain$Trial", "throwTubes", "(II)V"⟩, prog_12_method_3_code, 6, none)
theorem k_Tr_throwTubes : px_ok m_Tr_throwTubes 2 := ⟨by decide +kernel, px_in (px_t3 (List.mem_of_getElem? (i := 163) rfl)) rfl, w_78, ⟨by decide +kernel, by decide +kernel⟩, by decide +kernel, by decide⟩
abbrev m_Ar_fill_AII : px_M := (⟨"java/util/Arrays", "fill", "([II)V"⟩, prog_21_method_103_code, 4, none)
theorem k_Ar_fill_AII : px_ok m_Ar_fill_AII 2 := ⟨by decide +kernel, px_in (px_t3 (List.mem_of_getElem? (i := 166) rfl)) rfl, w_93, ⟨by decide +kernel, by decide +kernel⟩, by decide +kernel, by decide⟩
abbrev m_Tr_blame : px_M := (⟨"TubeChain$Trial", "blame", "(I)V"⟩, prog_12_method_4_code, 2, none)
theorem k_Tr_blame : px_ok m_Tr_blame 1 := ⟨by decide +kernel, px_in (px_t3 (List.mem_of_getElem? (i := 172) rfl)) rfl, w_78, ⟨by decide +kernel, by decide +kernel⟩, by decide +kernel, by decide⟩
abbrev m_Tr_clumsiest : px_M := (⟨"TubeChain$Trial", "clumsiest", "()I"⟩, prog_12_method_7_code, 4, some .int)
theorem k_Tr_clumsiest : px_ok m_Tr_clumsiest 0 := ⟨by decide +kernel, px_in (px_t3 (List.mem_of_getElem? (i := 176) rfl)) rfl, w_78, ⟨by decide +kernel, by decide +kernel⟩, by decide +kernel, by decide⟩
abbrev m_TC_safe : px_M := (⟨"TubeChain", "safe", "(I)I"⟩, prog_1_method_14_code, 3, some .int)
theorem k_TC_safe : px_ok m_TC_safe 1 := ⟨by decide +kernel, px_in (px_t3 (List.mem_of_getElem? (i := 180) rfl)) rfl, w_73, ⟨by decide +kernel, by decide +kernel⟩, by decide +kernel, by decide⟩
abbrev m_Tr_leastSafeBelow : px_M := (⟨"TubeChain$Trial", "leastSafeBelow", "(II)I"⟩, prog_12_method_6_code, 4, some .int)
theorem k_Tr_leastSafeBelow : px_ok m_Tr_leastSafeBelow 2 := ⟨by decide +kernel, px_in (px_t3 (List.mem_of_getElem? (i := 184) rfl)) rfl, w_78, ⟨by decide +kernel, by decide +kernel⟩, by decide +kernel, by decide⟩
abbrev m_Tr_noneFalls : px_M := (⟨"TubeChain$Trial", "noneFalls", "(IIII)Z"⟩, prog_12_method_5_code, 6, some .boolean)
theorem k_Tr_noneFalls : px_ok m_Tr_noneFalls 4 := ⟨by decide +kernel, px_in (px_t3 (List.mem_of_getElem? (i := 188) rfl)) rfl, w_78, ⟨by decide +kernel, by decide +kernel⟩, by decide +kernel, by decide⟩
abbrev m_TC_best : px_M := (⟨"TubeChain", "best", "(II)I"⟩, prog_1_method_15_code, 7, some .int)
theorem k_TC_best : px_ok m_TC_best 2 := ⟨by decide +kernel, px_in (px_t3 (List.mem_of_getElem? (i := 192) rfl)) rfl, w_73, ⟨by decide +kernel, by decide +kernel⟩, by decide +kernel, by decide⟩
abbrev m_TC_slowest : px_M := (⟨"TubeChain", "slowest", "()I"⟩, prog_1_method_16_code, 5, some .int)
theorem k_TC_slowest : px_ok m_TC_slowest 0 := ⟨by decide +kernel, px_in (px_t3 (List.mem_of_getElem? (i := 196) rfl)) rfl, w_73, ⟨by decide +kernel, by decide +kernel⟩, by decide +kernel, by decide⟩
abbrev m_TC_order : px_M := (⟨"TubeChain", "order", "(II)I"⟩, prog_1_method_17_code, 7, some .int)
theorem k_TC_order : px_ok m_TC_order 2 := ⟨by decide +kernel, px_in (px_t3 (List.mem_of_getElem? (i := 200) rfl)) rfl, w_73, ⟨by decide +kernel, by decide +kernel⟩, by decide +kernel, by decide⟩
abbrev m_Si_lineUpByNumber : px_M := (⟨"TubeChain$Site", "lineUpByNumber", "()V"⟩, prog_6_method_9_code, 2, none)
theorem k_Si_lineUpByNumber : px_ok m_Si_lineUpByNumber 0 := ⟨by decide +kernel, px_in (px_t3 (List.mem_of_getElem? (i := 204) rfl)) rfl, w_77, ⟨by decide +kernel, by decide +kernel⟩, by decide +kernel, by decide⟩
abbrev m_Si_lineUpNext : px_M := (⟨"TubeChain$Site", "lineUpNext", "()Z"⟩, prog_6_method_10_code, 5, some .boolean)
theorem k_Si_lineUpNext : px_ok m_Si_lineUpNext 0 := ⟨by decide +kernel, px_in (px_t3 (List.mem_of_getElem? (i := 209) rfl)) rfl, w_77, ⟨by decide +kernel, by decide +kernel⟩, by decide +kernel, by decide⟩
abbrev m_Si_exchange : px_M := (⟨"TubeChain$Site", "exchange", "(II)V"⟩, prog_6_method_8_code, 4, none)
theorem k_Si_exchange : px_ok m_Si_exchange 2 := ⟨by decide +kernel, px_in (px_t3 (List.mem_of_getElem? (i := 213) rfl)) rfl, w_77, ⟨by decide +kernel, by decide +kernel⟩, by decide +kernel, by decide⟩
abbrev m_TC_without : px_M := (⟨"TubeChain", "without", "(III)I"⟩, prog_1_method_18_code, 4, some .int)
theorem k_TC_without : px_ok m_TC_without 3 := ⟨by decide +kernel, px_in (px_t3 (List.mem_of_getElem? (i := 217) rfl)) rfl, w_73, ⟨by decide +kernel, by decide +kernel⟩, by decide +kernel, by decide⟩
abbrev m_TC_isNoCount : px_M := (⟨"TubeChain", "isNoCount", "(I)Z"⟩, prog_1_method_45_code, 1, some .boolean)
theorem k_TC_isNoCount : px_ok m_TC_isNoCount 1 := ⟨by decide +kernel, px_in (px_t3 (List.mem_of_getElem? (i := 220) rfl)) rfl, w_73, ⟨by decide +kernel, by decide +kernel⟩, by decide +kernel, by decide⟩
abbrev m_TC_pulley : px_M := (⟨"TubeChain", "pulley", "(II)I"⟩, prog_1_method_19_code, 3, some .int)
theorem k_TC_pulley : px_ok m_TC_pulley 2 := ⟨by decide +kernel, px_in (px_t3 (List.mem_of_getElem? (i := 224) rfl)) rfl, w_73, ⟨by decide +kernel, by decide +kernel⟩, by decide +kernel, by decide⟩
abbrev m_TC_pulleyLoses : px_M := (⟨"TubeChain", "pulleyLoses", "(II)I"⟩, prog_1_method_20_code, 3, some .int)
theorem k_TC_pulleyLoses : px_ok m_TC_pulleyLoses 2 := ⟨by decide +kernel, px_in (px_t3 (List.mem_of_getElem? (i := 229) rfl)) rfl, w_73, ⟨by decide +kernel, by decide +kernel⟩, by decide +kernel, by decide⟩
abbrev m_TC_from : px_M := (⟨"TubeChain", "from", "(I)I"⟩, prog_1_method_21_code, 3, some .int)
theorem k_TC_from : px_ok m_TC_from 1 := ⟨by decide +kernel, px_in (px_t3 (List.mem_of_getElem? (i := 234) rfl)) rfl, w_73, ⟨by decide +kernel, by decide +kernel⟩, by decide +kernel, by decide⟩
abbrev m_TC_rested : px_M := (⟨"TubeChain", "rested", "(III)I"⟩, prog_1_method_22_code, 5, some .int)
theorem k_TC_rested : px_ok m_TC_rested 3 := ⟨by decide +kernel, px_in (px_t3 (List.mem_of_getElem? (i := 238) rfl)) rfl, w_73, ⟨by decide +kernel, by decide +kernel⟩, by decide +kernel, by decide⟩
abbrev m_TC_change : px_M := (⟨"TubeChain", "change", "(II)I"⟩, prog_1_method_23_code, 7, some .int)
theorem k_TC_change : px_ok m_TC_change 2 := ⟨by decide +kernel, px_in (px_t4 (List.mem_of_getElem? (i := 3) rfl)) rfl, w_73, ⟨by decide +kernel, by decide +kernel⟩, by decide +kernel, by decide⟩
abbrev m_TC_see : px_M := (⟨"TubeChain", "see", "(I)I"⟩, prog_1_method_24_code, 2, some .int)
theorem k_TC_see : px_ok m_TC_see 1 := ⟨by decide +kernel, px_in (px_t4 (List.mem_of_getElem? (i := 8) rfl)) rfl, w_73, ⟨by decide +kernel, by decide +kernel⟩, by decide +kernel, by decide⟩
abbrev m_TC_who : px_M := (⟨"TubeChain", "who", "(I)I"⟩, prog_1_method_25_code, 5, some .int)
theorem k_TC_who : px_ok m_TC_who 1 := ⟨by decide +kernel, px_in (px_t4 (List.mem_of_getElem? (i := 12) rfl)) rfl, w_73, ⟨by decide +kernel, by decide +kernel⟩, by decide +kernel, by decide⟩
abbrev m_Si_seenAsBits : px_M := (⟨"TubeChain$Site", "seenAsBits", "()I"⟩, prog_6_method_15_code, 3, some .int)
theorem k_Si_seenAsBits : px_ok m_Si_seenAsBits 0 := ⟨by decide +kernel, px_in (px_t4 (List.mem_of_getElem? (i := 16) rfl)) rfl, w_77, ⟨by decide +kernel, by decide +kernel⟩, by decide +kernel, by decide⟩
abbrev m_TC_startWithTired : px_M := (⟨"TubeChain", "startWithTired", "(I)V"⟩, prog_1_method_26_code, 2, none)
theorem k_TC_startWithTired : px_ok m_TC_startWithTired 1 := ⟨by decide +kernel, px_in (px_t4 (List.mem_of_getElem? (i := 20) rfl)) rfl, w_73, ⟨by decide +kernel, by decide +kernel⟩, by decide +kernel, by decide⟩
abbrev m_TC_odds : px_M := (⟨"TubeChain", "odds", "(III)J"⟩, prog_1_method_27_code, 6, some .long)
theorem k_TC_odds : px_ok m_TC_odds 3 := ⟨by decide +kernel, px_in (px_t4 (List.mem_of_getElem? (i := 24) rfl)) rfl, w_73, ⟨by decide +kernel, by decide +kernel⟩, by decide +kernel, by decide⟩
abbrev m_TC_isNoPart : px_M := (⟨"TubeChain", "isNoPart", "(I)Z"⟩, prog_1_method_46_code, 1, some .boolean)
theorem k_TC_isNoPart : px_ok m_TC_isNoPart 1 := ⟨by decide +kernel, px_in (px_t4 (List.mem_of_getElem? (i := 27) rfl)) rfl, w_73, ⟨by decide +kernel, by decide +kernel⟩, by decide +kernel, by decide⟩
abbrev m_TC_partOfFraction : px_M := (⟨"TubeChain", "partOfFraction", "(III)J"⟩, prog_1_method_29_code, 5, some .long)
theorem k_TC_partOfFraction : px_ok m_TC_partOfFraction 3 := ⟨by decide +kernel, px_in (px_t4 (List.mem_of_getElem? (i := 31) rfl)) rfl, w_73, ⟨by decide +kernel, by decide +kernel⟩, by decide +kernel, by decide⟩
abbrev m_TC_mean : px_M := (⟨"TubeChain", "mean", "(II)J"⟩, prog_1_method_28_code, 5, some .long)
theorem k_TC_mean : px_ok m_TC_mean 2 := ⟨by decide +kernel, px_in (px_t4 (List.mem_of_getElem? (i := 35) rfl)) rfl, w_73, ⟨by decide +kernel, by decide +kernel⟩, by decide +kernel, by decide⟩
abbrev m_TC_book : px_M := (⟨"TubeChain", "book", "(IZ)I"⟩, prog_1_method_30_code, 3, some .int)
theorem k_TC_book : px_ok m_TC_book 2 := ⟨by decide +kernel, px_in (px_t4 (List.mem_of_getElem? (i := 39) rfl)) rfl, w_73, ⟨by decide +kernel, by decide +kernel⟩, by decide +kernel, by decide⟩
abbrev m_TC_looked : px_M := (⟨"TubeChain", "looked", "(I)I"⟩, prog_1_method_31_code, 6, some .int)
theorem k_TC_looked : px_ok m_TC_looked 1 := ⟨by decide +kernel, px_in (px_t4 (List.mem_of_getElem? (i := 43) rfl)) rfl, w_73, ⟨by decide +kernel, by decide +kernel⟩, by decide +kernel, by decide⟩
abbrev m_TC_judge : px_M := (⟨"TubeChain", "judge", "(II)I"⟩, prog_1_method_32_code, 5, some .int)
theorem k_TC_judge : px_ok m_TC_judge 2 := ⟨by decide +kernel, px_in (px_t4 (List.mem_of_getElem? (i := 47) rfl)) rfl, w_73, ⟨by decide +kernel, by decide +kernel⟩, by decide +kernel, by decide⟩
abbrev m_TC_isNoTape : px_M := (⟨"TubeChain", "isNoTape", "(I)Z"⟩, prog_1_method_47_code, 1, some .boolean)
theorem k_TC_isNoTape : px_ok m_TC_isNoTape 1 := ⟨by decide +kernel, px_in (px_t4 (List.mem_of_getElem? (i := 50) rfl)) rfl, w_73, ⟨by decide +kernel, by decide +kernel⟩, by decide +kernel, by decide⟩
abbrev m_TC_image : px_M := (⟨"TubeChain", "image", "()I"⟩, prog_1_method_33_code, 1, some .int)
theorem k_TC_image : px_ok m_TC_image 0 := ⟨by decide +kernel, px_in (px_t4 (List.mem_of_getElem? (i := 54) rfl)) rfl, w_73, ⟨by decide +kernel, by decide +kernel⟩, by decide +kernel, by decide⟩
abbrev m_Si_copyNotes : px_M := (⟨"TubeChain$Site", "copyNotes", "(LTubeChain$Site;)V"⟩, prog_6_method_3_code, 2, none)
theorem k_Si_copyNotes : px_ok m_Si_copyNotes 1 := ⟨by decide +kernel, px_in (px_t4 (List.mem_of_getElem? (i := 59) rfl)) rfl, w_77, ⟨by decide +kernel, by decide +kernel⟩, by decide +kernel, by decide⟩
abbrev m_TC_undo : px_M := (⟨"TubeChain", "undo", "()I"⟩, prog_1_method_34_code, 1, some .int)
theorem k_TC_undo : px_ok m_TC_undo 0 := ⟨by decide +kernel, px_in (px_t4 (List.mem_of_getElem? (i := 63) rfl)) rfl, w_73, ⟨by decide +kernel, by decide +kernel⟩, by decide +kernel, by decide⟩
abbrev m_TC_act : px_M := (⟨"TubeChain", "act", "(III)I"⟩, prog_1_method_35_code, 4, some .int)
theorem k_TC_act : px_ok m_TC_act 3 := ⟨by decide +kernel, px_in (px_t4 (List.mem_of_getElem? (i := 67) rfl)) rfl, w_73, ⟨by decide +kernel, by decide +kernel⟩, by decide +kernel, by decide⟩
abbrev m_Ca_tosses : px_M := (⟨"TubeChain$Calling", "tosses", "(I[I)I"⟩, prog_2_method_4_code, 3, some .int)
theorem k_Ca_tosses : px_ok m_Ca_tosses 2 := ⟨by decide +kernel, px_in (px_t4 (List.mem_of_getElem? (i := 74) rfl)) rfl, w_84, ⟨by decide +kernel, by decide +kernel⟩, by decide +kernel, by decide⟩
abbrev m_Ma_begin : px_M := (⟨"TubeChain$Man", "begin", "(I[I)V"⟩, prog_4_method_5_code, 2, none)
theorem k_Ma_begin : px_ok m_Ma_begin 2 := ⟨by decide +kernel, px_in (px_t4 (List.mem_of_getElem? (i := 78) rfl)) rfl, w_76, ⟨by decide +kernel, by decide +kernel⟩, by decide +kernel, by decide⟩
abbrev m_Gl_tosses : px_M := (⟨"TubeChain$Gloved", "tosses", "(I[I)I"⟩, prog_3_method_4_code, 3, some .int)
theorem k_Gl_tosses : px_ok m_Gl_tosses 2 := ⟨by decide +kernel, px_in (px_t4 (List.mem_of_getElem? (i := 84) rfl)) rfl, w_82, ⟨by decide +kernel, by decide +kernel⟩, by decide +kernel, by decide⟩
abbrev m_To_tosses : px_M := (⟨"TubeChain$Told", "tosses", "(I[I)I"⟩, prog_11_method_5_code, 3, some .int)
theorem k_To_tosses : px_ok m_To_tosses 2 := ⟨by decide +kernel, px_in (px_t4 (List.mem_of_getElem? (i := 93) rfl)) rfl, w_86, ⟨by decide +kernel, by decide +kernel⟩, by decide +kernel, by decide⟩
abbrev m_Ma_tosses : px_M := (⟨"TubeChain$Man", "tosses", "(I[I)I"⟩, prog_4_method_6_code, 3, some .int)
theorem k_Ma_tosses : px_ok m_Ma_tosses 2 := ⟨by decide +kernel, px_in (px_t4 (List.mem_of_getElem? (i := 98) rfl)) rfl, w_76, ⟨by decide +kernel, by decide +kernel⟩, by decide +kernel, by decide⟩
abbrev m_Ca_takes : px_M := (⟨"TubeChain$Calling", "takes", "(I[I)I"⟩, prog_2_method_5_code, 3, some .int)
theorem k_Ca_takes : px_ok m_Ca_takes 2 := ⟨by decide +kernel, px_in (px_t4 (List.mem_of_getElem? (i := 106) rfl)) rfl, w_84, ⟨by decide +kernel, by decide +kernel⟩, by decide +kernel, by decide⟩
abbrev m_St_takes : px_M := (⟨"TubeChain$Strong", "takes", "(I[I)I"⟩, prog_8_method_4_code, 3, some .int)
theorem k_St_takes : px_ok m_St_takes 2 := ⟨by decide +kernel, px_in (px_t4 (List.mem_of_getElem? (i := 109) rfl)) rfl, w_81, ⟨by decide +kernel, by decide +kernel⟩, by decide +kernel, by decide⟩
abbrev m_To_takes : px_M := (⟨"TubeChain$Told", "takes", "(I[I)I"⟩, prog_11_method_4_code, 3, some .int)
theorem k_To_takes : px_ok m_To_takes 2 := ⟨by decide +kernel, px_in (px_t4 (List.mem_of_getElem? (i := 119) rfl)) rfl, w_86, ⟨by decide +kernel, by decide +kernel⟩, by decide +kernel, by decide⟩
abbrev m_Ma_takes : px_M := (⟨"TubeChain$Man", "takes", "(I[I)I"⟩, prog_4_method_7_code, 3, some .int)
theorem k_Ma_takes : px_ok m_Ma_takes 2 := ⟨by decide +kernel, px_in (px_t4 (List.mem_of_getElem? (i := 123) rfl)) rfl, w_76, ⟨by decide +kernel, by decide +kernel⟩, by decide +kernel, by decide⟩
abbrev m_Sl_tells : px_M := (⟨"TubeChain$Slipping", "tells", "(I[I)I"⟩, prog_7_method_4_code, 3, some .int)
theorem k_Sl_tells : px_ok m_Sl_tells 2 := ⟨by decide +kernel, px_in (px_t4 (List.mem_of_getElem? (i := 133) rfl)) rfl, w_85, ⟨by decide +kernel, by decide +kernel⟩, by decide +kernel, by decide⟩
abbrev m_Ti_tells : px_M := (⟨"TubeChain$Tiring", "tells", "(I[I)I"⟩, prog_10_method_4_code, 3, some .int)
theorem k_Ti_tells : px_ok m_Ti_tells 2 := ⟨by decide +kernel, px_in (px_t4 (List.mem_of_getElem? (i := 142) rfl)) rfl, w_83, ⟨by decide +kernel, by decide +kernel⟩, by decide +kernel, by decide⟩
abbrev m_Ma_tells : px_M := (⟨"TubeChain$Man", "tells", "(I[I)I"⟩, prog_4_method_8_code, 3, some .int)
theorem k_Ma_tells : px_ok m_Ma_tells 2 := ⟨by decide +kernel, px_in (px_t4 (List.mem_of_getElem? (i := 150) rfl)) rfl, w_76, ⟨by decide +kernel, by decide +kernel⟩, by decide +kernel, by decide⟩
abbrev m_TC_trace : px_M := (⟨"TubeChain", "trace", "(I)I"⟩, prog_1_method_36_code, 2, some .int)
theorem k_TC_trace : px_ok m_TC_trace 1 := ⟨by decide +kernel, px_in (px_t4 (List.mem_of_getElem? (i := 155) rfl)) rfl, w_73, ⟨by decide +kernel, by decide +kernel⟩, by decide +kernel, by decide⟩
abbrev m_TC_taken : px_M := (⟨"TubeChain", "taken", "(II)I"⟩, prog_1_method_37_code, 6, some .int)
theorem k_TC_taken : px_ok m_TC_taken 2 := ⟨by decide +kernel, px_in (px_t4 (List.mem_of_getElem? (i := 159) rfl)) rfl, w_73, ⟨by decide +kernel, by decide +kernel⟩, by decide +kernel, by decide⟩
abbrev m_TC_count : px_M := (⟨"TubeChain", "count", "(I)I"⟩, prog_1_method_38_code, 2, some .int)
theorem k_TC_count : px_ok m_TC_count 1 := ⟨by decide +kernel, px_in (px_t4 (List.mem_of_getElem? (i := 163) rfl)) rfl, w_73, ⟨by decide +kernel, by decide +kernel⟩, by decide +kernel, by decide⟩
abbrev m_TC_tape : px_M := (⟨"TubeChain", "tape", "(III)I"⟩, prog_1_method_39_code, 4, some .int)
theorem k_TC_tape : px_ok m_TC_tape 3 := ⟨by decide +kernel, px_in (px_t4 (List.mem_of_getElem? (i := 167) rfl)) rfl, w_73, ⟨by decide +kernel, by decide +kernel⟩, by decide +kernel, by decide⟩
abbrev m_Ta_become : px_M := (⟨"TubeChain$Tape", "become", "(II)V"⟩, prog_9_method_2_code, 3, none)
theorem k_Ta_become : px_ok m_Ta_become 2 := ⟨by decide +kernel, px_in (px_t4 (List.mem_of_getElem? (i := 171) rfl)) rfl, w_79, ⟨by decide +kernel, by decide +kernel⟩, by decide +kernel, by decide⟩
abbrev m_Ar_fill_AJJ : px_M := (⟨"java/util/Arrays", "fill", "([JJ)V"⟩, prog_21_method_101_code, 5, none)
theorem k_Ar_fill_AJJ : px_ok m_Ar_fill_AJJ 2 := ⟨by decide +kernel, px_in (px_t4 (List.mem_of_getElem? (i := 174) rfl)) rfl, w_93, ⟨by decide +kernel, by decide +kernel⟩, by decide +kernel, by decide⟩
abbrev m_TC_item : px_M := (⟨"TubeChain", "item", "(IIJ)I"⟩, prog_1_method_40_code, 6, some .int)
theorem k_TC_item : px_ok m_TC_item 3 := ⟨by decide +kernel, px_in (px_t4 (List.mem_of_getElem? (i := 178) rfl)) rfl, w_73, ⟨by decide +kernel, by decide +kernel⟩, by decide +kernel, by decide⟩
abbrev m_Ta_fit : px_M := (⟨"TubeChain$Tape", "fit", "(J)J"⟩, prog_9_method_3_code, 3, some .long)
theorem k_Ta_fit : px_ok m_Ta_fit 1 := ⟨by decide +kernel, px_in (px_t4 (List.mem_of_getElem? (i := 182) rfl)) rfl, w_79, ⟨by decide +kernel, by decide +kernel⟩, by decide +kernel, by decide⟩
abbrev m_TC_read : px_M := (⟨"TubeChain", "read", "(II)J"⟩, prog_1_method_41_code, 4, some .long)
theorem k_TC_read : px_ok m_TC_read 2 := ⟨by decide +kernel, px_in (px_t4 (List.mem_of_getElem? (i := 186) rfl)) rfl, w_73, ⟨by decide +kernel, by decide +kernel⟩, by decide +kernel, by decide⟩
abbrev m_TC_shift : px_M := (⟨"TubeChain", "shift", "(IIIII)I"⟩, prog_1_method_42_code, 8, some .int)
theorem k_TC_shift : px_ok m_TC_shift 5 := ⟨by decide +kernel, px_in (px_t4 (List.mem_of_getElem? (i := 190) rfl)) rfl, w_73, ⟨by decide +kernel, by decide +kernel⟩, by decide +kernel, by decide⟩
abbrev m_Ta_has : px_M := (⟨"TubeChain$Tape", "has", "(II)Z"⟩, prog_9_method_4_code, 3, some .boolean)
theorem k_Ta_has : px_ok m_Ta_has 2 := ⟨by decide +kernel, px_in (px_t4 (List.mem_of_getElem? (i := 194) rfl)) rfl, w_79, ⟨by decide +kernel, by decide +kernel⟩, by decide +kernel, by decide⟩
abbrev m_Mo_init : px_M := (⟨"TubeChainModel", "<init>", "()V"⟩, prog_14_method_1_code, 1, none)
theorem k_Mo_init : px_ok m_Mo_init 0 := ⟨by decide +kernel, px_in (px_t4 (List.mem_of_getElem? (i := 199) rfl)) rfl, w_80, ⟨by decide +kernel, by decide +kernel⟩, by decide +kernel, by decide⟩
abbrev m_Mo_man : px_M := (⟨"TubeChainModel", "man", "(II)I"⟩, prog_14_method_7_code, 4, some .int)
theorem k_Mo_man : px_ok m_Mo_man 2 := ⟨by decide +kernel, px_in (px_t5 (List.mem_of_getElem? (i := 176) rfl)) rfl, w_80, ⟨by decide +kernel, by decide +kernel⟩, by decide +kernel, by decide⟩
abbrev m_Mo_in : px_M := (⟨"TubeChainModel", "in", "(III)Z"⟩, prog_14_method_2_code, 4, some .boolean)
theorem k_Mo_in : px_ok m_Mo_in 3 := ⟨by decide +kernel, px_in (px_t5 (List.mem_of_getElem? (i := 180) rfl)) rfl, w_80, ⟨by decide +kernel, by decide +kernel⟩, by decide +kernel, by decide⟩
abbrev m_Mo_held : px_M := (⟨"TubeChainModel", "held", "(II)I"⟩, prog_14_method_8_code, 4, some .int)
theorem k_Mo_held : px_ok m_Mo_held 2 := ⟨by decide +kernel, px_in (px_t5 (List.mem_of_getElem? (i := 184) rfl)) rfl, w_80, ⟨by decide +kernel, by decide +kernel⟩, by decide +kernel, by decide⟩
abbrev m_Mo_isMan : px_M := (⟨"TubeChainModel", "isMan", "(I)Z"⟩, prog_14_method_5_code, 2, some .boolean)
theorem k_Mo_isMan : px_ok m_Mo_isMan 1 := ⟨by decide +kernel, px_in (px_t5 (List.mem_of_getElem? (i := 188) rfl)) rfl, w_80, ⟨by decide +kernel, by decide +kernel⟩, by decide +kernel, by decide⟩
abbrev m_Mo_row : px_M := (⟨"TubeChainModel", "row", "(III)I"⟩, prog_14_method_9_code, 5, some .int)
theorem k_Mo_row : px_ok m_Mo_row 3 := ⟨by decide +kernel, px_in (px_t5 (List.mem_of_getElem? (i := 192) rfl)) rfl, w_80, ⟨by decide +kernel, by decide +kernel⟩, by decide +kernel, by decide⟩
abbrev m_Mo_place : px_M := (⟨"TubeChainModel", "place", "(II)I"⟩, prog_14_method_11_code, 5, some .int)
theorem k_Mo_place : px_ok m_Mo_place 2 := ⟨by decide +kernel, px_in (px_t5 (List.mem_of_getElem? (i := 196) rfl)) rfl, w_80, ⟨by decide +kernel, by decide +kernel⟩, by decide +kernel, by decide⟩
abbrev m_Mo_placeOf : px_M := (⟨"TubeChainModel", "placeOf", "(I)I"⟩, prog_14_method_10_code, 3, some .int)
theorem k_Mo_placeOf : px_ok m_Mo_placeOf 1 := ⟨by decide +kernel, px_in (px_t5 (List.mem_of_getElem? (i := 200) rfl)) rfl, w_80, ⟨by decide +kernel, by decide +kernel⟩, by decide +kernel, by decide⟩
abbrev m_Mo_feed : px_M := (⟨"TubeChainModel", "feed", "(I)I"⟩, prog_14_method_12_code, 2, some .int)
theorem k_Mo_feed : px_ok m_Mo_feed 1 := ⟨by decide +kernel, px_in (px_t5 (List.mem_of_getElem? (i := 204) rfl)) rfl, w_80, ⟨by decide +kernel, by decide +kernel⟩, by decide +kernel, by decide⟩
abbrev m_Mo_scaffold : px_M := (⟨"TubeChainModel", "scaffold", "()I"⟩, prog_14_method_28_code, 2, some .int)
theorem k_Mo_scaffold : px_ok m_Mo_scaffold 0 := ⟨by decide +kernel, px_in (px_t5 (List.mem_of_getElem? (i := 208) rfl)) rfl, w_80, ⟨by decide +kernel, by decide +kernel⟩, by decide +kernel, by decide⟩
abbrev m_Mo_goesText : px_M := (⟨"TubeChainModel", "goesText", "(I)Z"⟩, prog_14_method_27_code, 3, some .boolean)
theorem k_Mo_goesText : px_ok m_Mo_goesText 1 := ⟨by decide +kernel, px_in (px_t5 (List.mem_of_getElem? (i := 212) rfl)) rfl, w_80, ⟨by decide +kernel, by decide +kernel⟩, by decide +kernel, by decide⟩
abbrev m_Mo_takesClause : px_M := (⟨"TubeChainModel", "takesClause", "(I)Z"⟩, prog_14_method_26_code, 2, some .boolean)
theorem k_Mo_takesClause : px_ok m_Mo_takesClause 1 := ⟨by decide +kernel, px_in (px_t5 (List.mem_of_getElem? (i := 216) rfl)) rfl, w_80, ⟨by decide +kernel, by decide +kernel⟩, by decide +kernel, by decide⟩
abbrev m_Mo_takesHead : px_M := (⟨"TubeChainModel", "takesHead", "(I)Z"⟩, prog_14_method_25_code, 2, some .boolean)
theorem k_Mo_takesHead : px_ok m_Mo_takesHead 1 := ⟨by decide +kernel, px_in (px_t5 (List.mem_of_getElem? (i := 220) rfl)) rfl, w_80, ⟨by decide +kernel, by decide +kernel⟩, by decide +kernel, by decide⟩
abbrev m_Mo_next : px_M := (⟨"TubeChainModel", "next", "()I"⟩, prog_14_method_13_code, 1, some .int)
theorem k_Mo_next : px_ok m_Mo_next 0 := ⟨by decide +kernel, px_in (px_t5 (List.mem_of_getElem? (i := 224) rfl)) rfl, w_80, ⟨by decide +kernel, by decide +kernel⟩, by decide +kernel, by decide⟩
abbrev m_Mo_takesWord : px_M := (⟨"TubeChainModel", "takesWord", "(II)Z"⟩, prog_14_method_16_code, 4, some .boolean)
theorem k_Mo_takesWord : px_ok m_Mo_takesWord 2 := ⟨by decide +kernel, px_in (px_t5 (List.mem_of_getElem? (i := 228) rfl)) rfl, w_80, ⟨by decide +kernel, by decide +kernel⟩, by decide +kernel, by decide⟩
abbrev m_Mo_takes : px_M := (⟨"TubeChainModel", "takes", "(I)Z"⟩, prog_14_method_15_code, 2, some .boolean)
theorem k_Mo_takes : px_ok m_Mo_takes 1 := ⟨by decide +kernel, px_in (px_t5 (List.mem_of_getElem? (i := 232) rfl)) rfl, w_80, ⟨by decide +kernel, by decide +kernel⟩, by decide +kernel, by decide⟩
abbrev m_Mo_second : px_M := (⟨"TubeChainModel", "second", "()I"⟩, prog_14_method_14_code, 1, some .int)
theorem k_Mo_second : px_ok m_Mo_second 0 := ⟨by decide +kernel, px_in (px_t5 (List.mem_of_getElem? (i := 236) rfl)) rfl, w_80, ⟨by decide +kernel, by decide +kernel⟩, by decide +kernel, by decide⟩
abbrev m_Mo_takesNumber : px_M := (⟨"TubeChainModel", "takesNumber", "()Z"⟩, prog_14_method_18_code, 2, some .boolean)
theorem k_Mo_takesNumber : px_ok m_Mo_takesNumber 0 := ⟨by decide +kernel, px_in (px_t6 (List.mem_of_getElem? (i := 0) rfl)) rfl, w_80, ⟨by decide +kernel, by decide +kernel⟩, by decide +kernel, by decide⟩
abbrev m_Mo_isDigit : px_M := (⟨"TubeChainModel", "isDigit", "()Z"⟩, prog_14_method_17_code, 1, some .boolean)
theorem k_Mo_isDigit : px_ok m_Mo_isDigit 0 := ⟨by decide +kernel, px_in (px_t6 (List.mem_of_getElem? (i := 4) rfl)) rfl, w_80, ⟨by decide +kernel, by decide +kernel⟩, by decide +kernel, by decide⟩
abbrev m_Mo_takesE : px_M := (⟨"TubeChainModel", "takesE", "(I)Z"⟩, prog_14_method_24_code, 4, some .boolean)
theorem k_Mo_takesE : px_ok m_Mo_takesE 1 := ⟨by decide +kernel, px_in (px_t6 (List.mem_of_getElem? (i := 8) rfl)) rfl, w_80, ⟨by decide +kernel, by decide +kernel⟩, by decide +kernel, by decide⟩
abbrev m_Mo_takesTest : px_M := (⟨"TubeChainModel", "takesTest", "()Z"⟩, prog_14_method_23_code, 3, some .boolean)
theorem k_Mo_takesTest : px_ok m_Mo_takesTest 0 := ⟨by decide +kernel, px_in (px_t6 (List.mem_of_getElem? (i := 12) rfl)) rfl, w_80, ⟨by decide +kernel, by decide +kernel⟩, by decide +kernel, by decide⟩
abbrev m_Mo_letterAt : px_M := (⟨"TubeChainModel", "letterAt", "(I)I"⟩, prog_14_method_22_code, 2, some .int)
theorem k_Mo_letterAt : px_ok m_Mo_letterAt 1 := ⟨by decide +kernel, px_in (px_t6 (List.mem_of_getElem? (i := 16) rfl)) rfl, w_80, ⟨by decide +kernel, by decide +kernel⟩, by decide +kernel, by decide⟩
abbrev m_Mo_emits : px_M := (⟨"TubeChainModel", "emits", "(I)V"⟩, prog_14_method_19_code, 2, none)
theorem k_Mo_emits : px_ok m_Mo_emits 1 := ⟨by decide +kernel, px_in (px_t6 (List.mem_of_getElem? (i := 20) rfl)) rfl, w_80, ⟨by decide +kernel, by decide +kernel⟩, by decide +kernel, by decide⟩
abbrev m_Mo_whole : px_M := (⟨"TubeChainModel", "whole", "()V"⟩, prog_14_method_20_code, 1, none)
theorem k_Mo_whole : px_ok m_Mo_whole 0 := ⟨by decide +kernel, px_in (px_t6 (List.mem_of_getElem? (i := 24) rfl)) rfl, w_80, ⟨by decide +kernel, by decide +kernel⟩, by decide +kernel, by decide⟩
abbrev m_Mo_settle : px_M := (⟨"TubeChainModel", "settle", "(I)V"⟩, prog_14_method_21_code, 2, none)
theorem k_Mo_settle : px_ok m_Mo_settle 1 := ⟨by decide +kernel, px_in (px_t6 (List.mem_of_getElem? (i := 28) rfl)) rfl, w_80, ⟨by decide +kernel, by decide +kernel⟩, by decide +kernel, by decide⟩
abbrev m_Mo_of : px_M := (⟨"TubeChainModel", "of", "(II)I"⟩, prog_14_method_40_code, 3, some .int)
theorem k_Mo_of : px_ok m_Mo_of 2 := ⟨by decide +kernel, px_in (px_t6 (List.mem_of_getElem? (i := 32) rfl)) rfl, w_80, ⟨by decide +kernel, by decide +kernel⟩, by decide +kernel, by decide⟩
abbrev m_Mo_pace : px_M := (⟨"TubeChainModel", "pace", "(I)I"⟩, prog_14_method_37_code, 4, some .int)
theorem k_Mo_pace : px_ok m_Mo_pace 1 := ⟨by decide +kernel, px_in (px_t6 (List.mem_of_getElem? (i := 36) rfl)) rfl, w_80, ⟨by decide +kernel, by decide +kernel⟩, by decide +kernel, by decide⟩
abbrev m_Mo_begin : px_M := (⟨"TubeChainModel", "begin", "()I"⟩, prog_14_method_29_code, 1, some .int)
theorem k_Mo_begin : px_ok m_Mo_begin 0 := ⟨by decide +kernel, px_in (px_t6 (List.mem_of_getElem? (i := 40) rfl)) rfl, w_80, ⟨by decide +kernel, by decide +kernel⟩, by decide +kernel, by decide⟩
abbrev m_Mo_behind : px_M := (⟨"TubeChainModel", "behind", "()I"⟩, prog_14_method_30_code, 1, some .int)
theorem k_Mo_behind : px_ok m_Mo_behind 0 := ⟨by decide +kernel, px_in (px_t6 (List.mem_of_getElem? (i := 44) rfl)) rfl, w_80, ⟨by decide +kernel, by decide +kernel⟩, by decide +kernel, by decide⟩
abbrev m_Mo_holdsTest : px_M := (⟨"TubeChainModel", "holdsTest", "(II)Z"⟩, prog_14_method_36_code, 8, some .boolean)
theorem k_Mo_holdsTest : px_ok m_Mo_holdsTest 2 := ⟨by decide +kernel, px_in (px_t6 (List.mem_of_getElem? (i := 48) rfl)) rfl, w_80, ⟨by decide +kernel, by decide +kernel⟩, by decide +kernel, by decide⟩
abbrev m_Mo_factOf : px_M := (⟨"TubeChainModel", "factOf", "(II)I"⟩, prog_14_method_35_code, 3, some .int)
theorem k_Mo_factOf : px_ok m_Mo_factOf 2 := ⟨by decide +kernel, px_in (px_t6 (List.mem_of_getElem? (i := 52) rfl)) rfl, w_80, ⟨by decide +kernel, by decide +kernel⟩, by decide +kernel, by decide⟩
abbrev m_Mo_atLeastOne : px_M := (⟨"TubeChainModel", "atLeastOne", "(I)I"⟩, prog_14_method_4_code, 2, some .int)
theorem k_Mo_atLeastOne : px_ok m_Mo_atLeastOne 1 := ⟨by decide +kernel, px_in (px_t6 (List.mem_of_getElem? (i := 56) rfl)) rfl, w_80, ⟨by decide +kernel, by decide +kernel⟩, by decide +kernel, by decide⟩
abbrev m_Mo_holdsFor : px_M := (⟨"TubeChainModel", "holdsFor", "(I)I"⟩, prog_14_method_39_code, 4, some .int)
theorem k_Mo_holdsFor : px_ok m_Mo_holdsFor 1 := ⟨by decide +kernel, px_in (px_t6 (List.mem_of_getElem? (i := 60) rfl)) rfl, w_80, ⟨by decide +kernel, by decide +kernel⟩, by decide +kernel, by decide⟩
abbrev m_Mo_strongly : px_M := (⟨"TubeChainModel", "strongly", "(II)I"⟩, prog_14_method_38_code, 3, some .int)
theorem k_Mo_strongly : px_ok m_Mo_strongly 2 := ⟨by decide +kernel, px_in (px_t6 (List.mem_of_getElem? (i := 64) rfl)) rfl, w_80, ⟨by decide +kernel, by decide +kernel⟩, by decide +kernel, by decide⟩
abbrev m_Mo_told : px_M := (⟨"TubeChainModel", "told", "(I)I"⟩, prog_14_method_41_code, 2, some .int)
theorem k_Mo_told : px_ok m_Mo_told 1 := ⟨by decide +kernel, px_in (px_t6 (List.mem_of_getElem? (i := 68) rfl)) rfl, w_80, ⟨by decide +kernel, by decide +kernel⟩, by decide +kernel, by decide⟩
abbrev m_Mo_rise : px_M := (⟨"TubeChainModel", "rise", "()I"⟩, prog_14_method_32_code, 1, some .int)
theorem k_Mo_rise : px_ok m_Mo_rise 0 := ⟨by decide +kernel, px_in (px_t6 (List.mem_of_getElem? (i := 72) rfl)) rfl, w_80, ⟨by decide +kernel, by decide +kernel⟩, by decide +kernel, by decide⟩
abbrev m_Mo_lastOf : px_M := (⟨"TubeChainModel", "lastOf", "(II)I"⟩, prog_14_method_31_code, 5, some .int)
theorem k_Mo_lastOf : px_ok m_Mo_lastOf 2 := ⟨by decide +kernel, px_in (px_t6 (List.mem_of_getElem? (i := 76) rfl)) rfl, w_80, ⟨by decide +kernel, by decide +kernel⟩, by decide +kernel, by decide⟩
abbrev m_Mo_rest : px_M := (⟨"TubeChainModel", "rest", "()I"⟩, prog_14_method_33_code, 1, some .int)
theorem k_Mo_rest : px_ok m_Mo_rest 0 := ⟨by decide +kernel, px_in (px_t6 (List.mem_of_getElem? (i := 80) rfl)) rfl, w_80, ⟨by decide +kernel, by decide +kernel⟩, by decide +kernel, by decide⟩
abbrev m_Mo_pull : px_M := (⟨"TubeChainModel", "pull", "()I"⟩, prog_14_method_34_code, 1, some .int)
theorem k_Mo_pull : px_ok m_Mo_pull 0 := ⟨by decide +kernel, px_in (px_t6 (List.mem_of_getElem? (i := 84) rfl)) rfl, w_80, ⟨by decide +kernel, by decide +kernel⟩, by decide +kernel, by decide⟩
abbrev m_Mo_up : px_M := (⟨"TubeChainModel", "up", "(I)I"⟩, prog_14_method_44_code, 4, some .int)
theorem k_Mo_up : px_ok m_Mo_up 1 := ⟨by decide +kernel, px_in (px_t6 (List.mem_of_getElem? (i := 88) rfl)) rfl, w_80, ⟨by decide +kernel, by decide +kernel⟩, by decide +kernel, by decide⟩
abbrev m_Mo_isBeat : px_M := (⟨"TubeChainModel", "isBeat", "(I)Z"⟩, prog_14_method_6_code, 2, some .boolean)
theorem k_Mo_isBeat : px_ok m_Mo_isBeat 1 := ⟨by decide +kernel, px_in (px_t6 (List.mem_of_getElem? (i := 92) rfl)) rfl, w_80, ⟨by decide +kernel, by decide +kernel⟩, by decide +kernel, by decide⟩
abbrev m_Mo_goTube : px_M := (⟨"TubeChainModel", "goTube", "()Z"⟩, prog_14_method_43_code, 5, some .boolean)
theorem k_Mo_goTube : px_ok m_Mo_goTube 0 := ⟨by decide +kernel, px_in (px_t6 (List.mem_of_getElem? (i := 97) rfl)) rfl, w_80, ⟨by decide +kernel, by decide +kernel⟩, by decide +kernel, by decide⟩
abbrev m_Mo_holdsOnce : px_M := (⟨"TubeChainModel", "holdsOnce", "(I)V"⟩, prog_14_method_42_code, 2, none)
theorem k_Mo_holdsOnce : px_ok m_Mo_holdsOnce 1 := ⟨by decide +kernel, px_in (px_t6 (List.mem_of_getElem? (i := 101) rfl)) rfl, w_80, ⟨by decide +kernel, by decide +kernel⟩, by decide +kernel, by decide⟩
abbrev m_Mo_pause : px_M := (⟨"TubeChainModel", "pause", "(I)I"⟩, prog_14_method_45_code, 2, some .int)
theorem k_Mo_pause : px_ok m_Mo_pause 1 := ⟨by decide +kernel, px_in (px_t6 (List.mem_of_getElem? (i := 105) rfl)) rfl, w_80, ⟨by decide +kernel, by decide +kernel⟩, by decide +kernel, by decide⟩
abbrev m_Mo_on : px_M := (⟨"TubeChainModel", "on", "(III)I"⟩, prog_14_method_51_code, 5, some .int)
theorem k_Mo_on : px_ok m_Mo_on 3 := ⟨by decide +kernel, px_in (px_t6 (List.mem_of_getElem? (i := 109) rfl)) rfl, w_80, ⟨by decide +kernel, by decide +kernel⟩, by decide +kernel, by decide⟩
abbrev m_Mo_layTubes : px_M := (⟨"TubeChainModel", "layTubes", "(IIII)V"⟩, prog_14_method_48_code, 6, none)
theorem k_Mo_layTubes : px_ok m_Mo_layTubes 4 := ⟨by decide +kernel, px_in (px_t6 (List.mem_of_getElem? (i := 113) rfl)) rfl, w_80, ⟨by decide +kernel, by decide +kernel⟩, by decide +kernel, by decide⟩
abbrev m_Mo_save : px_M := (⟨"TubeChainModel", "save", "()V"⟩, prog_14_method_46_code, 2, none)
theorem k_Mo_save : px_ok m_Mo_save 0 := ⟨by decide +kernel, px_in (px_t6 (List.mem_of_getElem? (i := 117) rfl)) rfl, w_80, ⟨by decide +kernel, by decide +kernel⟩, by decide +kernel, by decide⟩
abbrev m_Mo_putBack : px_M := (⟨"TubeChainModel", "putBack", "()V"⟩, prog_14_method_47_code, 2, none)
theorem k_Mo_putBack : px_ok m_Mo_putBack 0 := ⟨by decide +kernel, px_in (px_t6 (List.mem_of_getElem? (i := 122) rfl)) rfl, w_80, ⟨by decide +kernel, by decide +kernel⟩, by decide +kernel, by decide⟩
abbrev m_Mo_mostDrops : px_M := (⟨"TubeChainModel", "mostDrops", "()I"⟩, prog_14_method_50_code, 3, some .int)
theorem k_Mo_mostDrops : px_ok m_Mo_mostDrops 0 := ⟨by decide +kernel, px_in (px_t6 (List.mem_of_getElem? (i := 126) rfl)) rfl, w_80, ⟨by decide +kernel, by decide +kernel⟩, by decide +kernel, by decide⟩
abbrev m_Mo_safe : px_M := (⟨"TubeChainModel", "safe", "(I)I"⟩, prog_14_method_53_code, 2, some .int)
theorem k_Mo_safe : px_ok m_Mo_safe 1 := ⟨by decide +kernel, px_in (px_t6 (List.mem_of_getElem? (i := 130) rfl)) rfl, w_80, ⟨by decide +kernel, by decide +kernel⟩, by decide +kernel, by decide⟩
abbrev m_Mo_safeNow : px_M := (⟨"TubeChainModel", "safeNow", "(I)I"⟩, prog_14_method_52_code, 3, some .int)
theorem k_Mo_safeNow : px_ok m_Mo_safeNow 1 := ⟨by decide +kernel, px_in (px_t6 (List.mem_of_getElem? (i := 134) rfl)) rfl, w_80, ⟨by decide +kernel, by decide +kernel⟩, by decide +kernel, by decide⟩
abbrev m_Mo_upBy : px_M := (⟨"TubeChainModel", "upBy", "(II)I"⟩, prog_14_method_49_code, 3, some .int)
theorem k_Mo_upBy : px_ok m_Mo_upBy 2 := ⟨by decide +kernel, px_in (px_t6 (List.mem_of_getElem? (i := 138) rfl)) rfl, w_80, ⟨by decide +kernel, by decide +kernel⟩, by decide +kernel, by decide⟩
abbrev m_Mo_best : px_M := (⟨"TubeChainModel", "best", "(II)I"⟩, prog_14_method_54_code, 8, some .int)
theorem k_Mo_best : px_ok m_Mo_best 2 := ⟨by decide +kernel, px_in (px_t6 (List.mem_of_getElem? (i := 142) rfl)) rfl, w_80, ⟨by decide +kernel, by decide +kernel⟩, by decide +kernel, by decide⟩
abbrev m_Mo_slowest : px_M := (⟨"TubeChainModel", "slowest", "()I"⟩, prog_14_method_55_code, 5, some .int)
theorem k_Mo_slowest : px_ok m_Mo_slowest 0 := ⟨by decide +kernel, px_in (px_t6 (List.mem_of_getElem? (i := 146) rfl)) rfl, w_80, ⟨by decide +kernel, by decide +kernel⟩, by decide +kernel, by decide⟩
abbrev m_Mo_order : px_M := (⟨"TubeChainModel", "order", "(II)I"⟩, prog_14_method_59_code, 8, some .int)
theorem k_Mo_order : px_ok m_Mo_order 2 := ⟨by decide +kernel, px_in (px_t6 (List.mem_of_getElem? (i := 150) rfl)) rfl, w_80, ⟨by decide +kernel, by decide +kernel⟩, by decide +kernel, by decide⟩
abbrev m_Mo_keepChain : px_M := (⟨"TubeChainModel", "keepChain", "()V"⟩, prog_14_method_56_code, 2, none)
theorem k_Mo_keepChain : px_ok m_Mo_keepChain 0 := ⟨by decide +kernel, px_in (px_t6 (List.mem_of_getElem? (i := 154) rfl)) rfl, w_80, ⟨by decide +kernel, by decide +kernel⟩, by decide +kernel, by decide⟩
abbrev m_Mo_layOrder : px_M := (⟨"TubeChainModel", "layOrder", "(I)Z"⟩, prog_14_method_58_code, 8, some .boolean)
theorem k_Mo_layOrder : px_ok m_Mo_layOrder 1 := ⟨by decide +kernel, px_in (px_t6 (List.mem_of_getElem? (i := 158) rfl)) rfl, w_80, ⟨by decide +kernel, by decide +kernel⟩, by decide +kernel, by decide⟩
abbrev m_Mo_has : px_M := (⟨"TubeChainModel", "has", "(II)Z"⟩, prog_14_method_3_code, 3, some .boolean)
theorem k_Mo_has : px_ok m_Mo_has 2 := ⟨by decide +kernel, px_in (px_t6 (List.mem_of_getElem? (i := 162) rfl)) rfl, w_80, ⟨by decide +kernel, by decide +kernel⟩, by decide +kernel, by decide⟩
abbrev m_Mo_putChain : px_M := (⟨"TubeChainModel", "putChain", "()V"⟩, prog_14_method_57_code, 2, none)
theorem k_Mo_putChain : px_ok m_Mo_putChain 0 := ⟨by decide +kernel, px_in (px_t6 (List.mem_of_getElem? (i := 166) rfl)) rfl, w_80, ⟨by decide +kernel, by decide +kernel⟩, by decide +kernel, by decide⟩
abbrev m_Mo_without : px_M := (⟨"TubeChainModel", "without", "(III)I"⟩, prog_14_method_60_code, 6, some .int)
theorem k_Mo_without : px_ok m_Mo_without 3 := ⟨by decide +kernel, px_in (px_t6 (List.mem_of_getElem? (i := 170) rfl)) rfl, w_80, ⟨by decide +kernel, by decide +kernel⟩, by decide +kernel, by decide⟩
abbrev m_Mo_pulley : px_M := (⟨"TubeChainModel", "pulley", "(II)I"⟩, prog_14_method_62_code, 3, some .int)
theorem k_Mo_pulley : px_ok m_Mo_pulley 2 := ⟨by decide +kernel, px_in (px_t6 (List.mem_of_getElem? (i := 174) rfl)) rfl, w_80, ⟨by decide +kernel, by decide +kernel⟩, by decide +kernel, by decide⟩
abbrev m_Mo_pulleyOf : px_M := (⟨"TubeChainModel", "pulleyOf", "(II)I"⟩, prog_14_method_61_code, 3, some .int)
theorem k_Mo_pulleyOf : px_ok m_Mo_pulleyOf 2 := ⟨by decide +kernel, px_in (px_t6 (List.mem_of_getElem? (i := 178) rfl)) rfl, w_80, ⟨by decide +kernel, by decide +kernel⟩, by decide +kernel, by decide⟩
abbrev m_Mo_from : px_M := (⟨"TubeChainModel", "from", "(I)I"⟩, prog_14_method_63_code, 3, some .int)
theorem k_Mo_from : px_ok m_Mo_from 1 := ⟨by decide +kernel, px_in (px_t6 (List.mem_of_getElem? (i := 184) rfl)) rfl, w_80, ⟨by decide +kernel, by decide +kernel⟩, by decide +kernel, by decide⟩
abbrev m_Mo_rested : px_M := (⟨"TubeChainModel", "rested", "(III)I"⟩, prog_14_method_64_code, 5, some .int)
theorem k_Mo_rested : px_ok m_Mo_rested 3 := ⟨by decide +kernel, px_in (px_t6 (List.mem_of_getElem? (i := 188) rfl)) rfl, w_80, ⟨by decide +kernel, by decide +kernel⟩, by decide +kernel, by decide⟩
abbrev m_Mo_change : px_M := (⟨"TubeChainModel", "change", "(II)I"⟩, prog_14_method_66_code, 8, some .int)
theorem k_Mo_change : px_ok m_Mo_change 2 := ⟨by decide +kernel, px_in (px_t6 (List.mem_of_getElem? (i := 192) rfl)) rfl, w_80, ⟨by decide +kernel, by decide +kernel⟩, by decide +kernel, by decide⟩
abbrev m_Mo_swaps : px_M := (⟨"TubeChainModel", "swaps", "(II)V"⟩, prog_14_method_65_code, 4, none)
theorem k_Mo_swaps : px_ok m_Mo_swaps 2 := ⟨by decide +kernel, px_in (px_t6 (List.mem_of_getElem? (i := 196) rfl)) rfl, w_80, ⟨by decide +kernel, by decide +kernel⟩, by decide +kernel, by decide⟩
abbrev m_Mo_see : px_M := (⟨"TubeChainModel", "see", "(I)I"⟩, prog_14_method_67_code, 2, some .int)
theorem k_Mo_see : px_ok m_Mo_see 1 := ⟨by decide +kernel, px_in (px_t6 (List.mem_of_getElem? (i := 200) rfl)) rfl, w_80, ⟨by decide +kernel, by decide +kernel⟩, by decide +kernel, by decide⟩
abbrev m_Mo_who : px_M := (⟨"TubeChainModel", "who", "(I)I"⟩, prog_14_method_68_code, 5, some .int)
theorem k_Mo_who : px_ok m_Mo_who 1 := ⟨by decide +kernel, px_in (px_t6 (List.mem_of_getElem? (i := 204) rfl)) rfl, w_80, ⟨by decide +kernel, by decide +kernel⟩, by decide +kernel, by decide⟩
abbrev m_Mo_odds : px_M := (⟨"TubeChainModel", "odds", "(III)J"⟩, prog_14_method_71_code, 6, some .long)
theorem k_Mo_odds : px_ok m_Mo_odds 3 := ⟨by decide +kernel, px_in (px_t6 (List.mem_of_getElem? (i := 209) rfl)) rfl, w_80, ⟨by decide +kernel, by decide +kernel⟩, by decide +kernel, by decide⟩
abbrev m_Mo_lowest : px_M := (⟨"TubeChainModel", "lowest", "(III)J"⟩, prog_14_method_70_code, 5, some .long)
theorem k_Mo_lowest : px_ok m_Mo_lowest 3 := ⟨by decide +kernel, px_in (px_t6 (List.mem_of_getElem? (i := 214) rfl)) rfl, w_80, ⟨by decide +kernel, by decide +kernel⟩, by decide +kernel, by decide⟩
abbrev m_Mo_divisor : px_M := (⟨"TubeChainModel", "divisor", "(II)I"⟩, prog_14_method_69_code, 6, some .int)
theorem k_Mo_divisor : px_ok m_Mo_divisor 2 := ⟨by decide +kernel, px_in (px_t6 (List.mem_of_getElem? (i := 218) rfl)) rfl, w_80, ⟨by decide +kernel, by decide +kernel⟩, by decide +kernel, by decide⟩
abbrev m_Mo_mean : px_M := (⟨"TubeChainModel", "mean", "(II)J"⟩, prog_14_method_72_code, 5, some .long)
theorem k_Mo_mean : px_ok m_Mo_mean 2 := ⟨by decide +kernel, px_in (px_t6 (List.mem_of_getElem? (i := 222) rfl)) rfl, w_80, ⟨by decide +kernel, by decide +kernel⟩, by decide +kernel, by decide⟩
abbrev m_Mo_book : px_M := (⟨"TubeChainModel", "book", "(IZ)I"⟩, prog_14_method_73_code, 3, some .int)
theorem k_Mo_book : px_ok m_Mo_book 2 := ⟨by decide +kernel, px_in (px_t6 (List.mem_of_getElem? (i := 226) rfl)) rfl, w_80, ⟨by decide +kernel, by decide +kernel⟩, by decide +kernel, by decide⟩
abbrev m_Mo_looked : px_M := (⟨"TubeChainModel", "looked", "(I)I"⟩, prog_14_method_74_code, 3, some .int)
theorem k_Mo_looked : px_ok m_Mo_looked 1 := ⟨by decide +kernel, px_in (px_t6 (List.mem_of_getElem? (i := 230) rfl)) rfl, w_80, ⟨by decide +kernel, by decide +kernel⟩, by decide +kernel, by decide⟩
abbrev m_Mo_judge : px_M := (⟨"TubeChainModel", "judge", "(II)I"⟩, prog_14_method_75_code, 4, some .int)
theorem k_Mo_judge : px_ok m_Mo_judge 2 := ⟨by decide +kernel, px_in (px_t6 (List.mem_of_getElem? (i := 234) rfl)) rfl, w_80, ⟨by decide +kernel, by decide +kernel⟩, by decide +kernel, by decide⟩
abbrev m_Mo_isTape : px_M := (⟨"TubeChainModel", "isTape", "(I)Z"⟩, prog_14_method_90_code, 2, some .boolean)
theorem k_Mo_isTape : px_ok m_Mo_isTape 1 := ⟨by decide +kernel, px_in (px_t6 (List.mem_of_getElem? (i := 238) rfl)) rfl, w_80, ⟨by decide +kernel, by decide +kernel⟩, by decide +kernel, by decide⟩
abbrev m_Mo_image : px_M := (⟨"TubeChainModel", "image", "()I"⟩, prog_14_method_76_code, 2, some .int)
theorem k_Mo_image : px_ok m_Mo_image 0 := ⟨by decide +kernel, px_in (px_t7 (List.mem_of_getElem? (i := 2) rfl)) rfl, w_80, ⟨by decide +kernel, by decide +kernel⟩, by decide +kernel, by decide⟩
abbrev m_Mo_undo : px_M := (⟨"TubeChainModel", "undo", "()I"⟩, prog_14_method_77_code, 2, some .int)
theorem k_Mo_undo : px_ok m_Mo_undo 0 := ⟨by decide +kernel, px_in (px_t7 (List.mem_of_getElem? (i := 6) rfl)) rfl, w_80, ⟨by decide +kernel, by decide +kernel⟩, by decide +kernel, by decide⟩
abbrev m_Mo_act : px_M := (⟨"TubeChainModel", "act", "(III)I"⟩, prog_14_method_86_code, 4, some .int)
theorem k_Mo_act : px_ok m_Mo_act 3 := ⟨by decide +kernel, px_in (px_t7 (List.mem_of_getElem? (i := 10) rfl)) rfl, w_80, ⟨by decide +kernel, by decide +kernel⟩, by decide +kernel, by decide⟩
abbrev m_Mo_throwsAct : px_M := (⟨"TubeChainModel", "throwsAct", "(II)I"⟩, prog_14_method_80_code, 3, some .int)
theorem k_Mo_throwsAct : px_ok m_Mo_throwsAct 2 := ⟨by decide +kernel, px_in (px_t7 (List.mem_of_getElem? (i := 14) rfl)) rfl, w_80, ⟨by decide +kernel, by decide +kernel⟩, by decide +kernel, by decide⟩
abbrev m_Mo_body : px_M := (⟨"TubeChainModel", "body", "(I)V"⟩, prog_14_method_78_code, 2, none)
theorem k_Mo_body : px_ok m_Mo_body 1 := ⟨by decide +kernel, px_in (px_t7 (List.mem_of_getElem? (i := 18) rfl)) rfl, w_80, ⟨by decide +kernel, by decide +kernel⟩, by decide +kernel, by decide⟩
abbrev m_Mo_manThrows : px_M := (⟨"TubeChainModel", "manThrows", "(II)I"⟩, prog_14_method_79_code, 3, some .int)
theorem k_Mo_manThrows : px_ok m_Mo_manThrows 2 := ⟨by decide +kernel, px_in (px_t7 (List.mem_of_getElem? (i := 22) rfl)) rfl, w_80, ⟨by decide +kernel, by decide +kernel⟩, by decide +kernel, by decide⟩
abbrev m_Mo_takesAct : px_M := (⟨"TubeChainModel", "takesAct", "(II)I"⟩, prog_14_method_83_code, 4, some .int)
theorem k_Mo_takesAct : px_ok m_Mo_takesAct 2 := ⟨by decide +kernel, px_in (px_t7 (List.mem_of_getElem? (i := 26) rfl)) rfl, w_80, ⟨by decide +kernel, by decide +kernel⟩, by decide +kernel, by decide⟩
abbrev m_Mo_strongTakes : px_M := (⟨"TubeChainModel", "strongTakes", "(II)I"⟩, prog_14_method_82_code, 3, some .int)
theorem k_Mo_strongTakes : px_ok m_Mo_strongTakes 2 := ⟨by decide +kernel, px_in (px_t7 (List.mem_of_getElem? (i := 30) rfl)) rfl, w_80, ⟨by decide +kernel, by decide +kernel⟩, by decide +kernel, by decide⟩
abbrev m_Mo_manTakes : px_M := (⟨"TubeChainModel", "manTakes", "(II)I"⟩, prog_14_method_81_code, 3, some .int)
theorem k_Mo_manTakes : px_ok m_Mo_manTakes 2 := ⟨by decide +kernel, px_in (px_t7 (List.mem_of_getElem? (i := 34) rfl)) rfl, w_80, ⟨by decide +kernel, by decide +kernel⟩, by decide +kernel, by decide⟩
abbrev m_Mo_tellsAct : px_M := (⟨"TubeChainModel", "tellsAct", "(II)I"⟩, prog_14_method_85_code, 4, some .int)
theorem k_Mo_tellsAct : px_ok m_Mo_tellsAct 2 := ⟨by decide +kernel, px_in (px_t7 (List.mem_of_getElem? (i := 38) rfl)) rfl, w_80, ⟨by decide +kernel, by decide +kernel⟩, by decide +kernel, by decide⟩
abbrev m_Mo_manTells : px_M := (⟨"TubeChainModel", "manTells", "(II)I"⟩, prog_14_method_84_code, 3, some .int)
theorem k_Mo_manTells : px_ok m_Mo_manTells 2 := ⟨by decide +kernel, px_in (px_t7 (List.mem_of_getElem? (i := 42) rfl)) rfl, w_80, ⟨by decide +kernel, by decide +kernel⟩, by decide +kernel, by decide⟩
abbrev m_Mo_trace : px_M := (⟨"TubeChainModel", "trace", "(I)I"⟩, prog_14_method_87_code, 2, some .int)
theorem k_Mo_trace : px_ok m_Mo_trace 1 := ⟨by decide +kernel, px_in (px_t7 (List.mem_of_getElem? (i := 46) rfl)) rfl, w_80, ⟨by decide +kernel, by decide +kernel⟩, by decide +kernel, by decide⟩
abbrev m_Mo_taken : px_M := (⟨"TubeChainModel", "taken", "(II)I"⟩, prog_14_method_88_code, 4, some .int)
theorem k_Mo_taken : px_ok m_Mo_taken 2 := ⟨by decide +kernel, px_in (px_t7 (List.mem_of_getElem? (i := 50) rfl)) rfl, w_80, ⟨by decide +kernel, by decide +kernel⟩, by decide +kernel, by decide⟩
abbrev m_Mo_count : px_M := (⟨"TubeChainModel", "count", "(I)I"⟩, prog_14_method_89_code, 2, some .int)
theorem k_Mo_count : px_ok m_Mo_count 1 := ⟨by decide +kernel, px_in (px_t7 (List.mem_of_getElem? (i := 54) rfl)) rfl, w_80, ⟨by decide +kernel, by decide +kernel⟩, by decide +kernel, by decide⟩
abbrev m_Mo_tape : px_M := (⟨"TubeChainModel", "tape", "(III)I"⟩, prog_14_method_91_code, 5, some .int)
theorem k_Mo_tape : px_ok m_Mo_tape 3 := ⟨by decide +kernel, px_in (px_t7 (List.mem_of_getElem? (i := 58) rfl)) rfl, w_80, ⟨by decide +kernel, by decide +kernel⟩, by decide +kernel, by decide⟩
abbrev m_Mo_item : px_M := (⟨"TubeChainModel", "item", "(IIJ)I"⟩, prog_14_method_93_code, 5, some .int)
theorem k_Mo_item : px_ok m_Mo_item 3 := ⟨by decide +kernel, px_in (px_t7 (List.mem_of_getElem? (i := 62) rfl)) rfl, w_80, ⟨by decide +kernel, by decide +kernel⟩, by decide +kernel, by decide⟩
abbrev m_Mo_narrow : px_M := (⟨"TubeChainModel", "narrow", "(IJ)J"⟩, prog_14_method_92_code, 4, some .long)
theorem k_Mo_narrow : px_ok m_Mo_narrow 2 := ⟨by decide +kernel, px_in (px_t7 (List.mem_of_getElem? (i := 66) rfl)) rfl, w_80, ⟨by decide +kernel, by decide +kernel⟩, by decide +kernel, by decide⟩
abbrev m_Mo_read : px_M := (⟨"TubeChainModel", "read", "(II)J"⟩, prog_14_method_94_code, 3, some .long)
theorem k_Mo_read : px_ok m_Mo_read 2 := ⟨by decide +kernel, px_in (px_t7 (List.mem_of_getElem? (i := 70) rfl)) rfl, w_80, ⟨by decide +kernel, by decide +kernel⟩, by decide +kernel, by decide⟩
abbrev m_Mo_shift : px_M := (⟨"TubeChainModel", "shift", "(IIIII)I"⟩, prog_14_method_95_code, 7, some .int)
theorem k_Mo_shift : px_ok m_Mo_shift 5 := ⟨by decide +kernel, px_in (px_t7 (List.mem_of_getElem? (i := 74) rfl)) rfl, w_80, ⟨by decide +kernel, by decide +kernel⟩, by decide +kernel, by decide⟩
