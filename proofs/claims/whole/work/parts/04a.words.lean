set_option maxRecDepth 20000 in
theorem tw_0 : Cond.selects "NestedDeeds" ⟨"NestedDeeds", "link", "(IIII)I"⟩ ⟨"NestedDeeds", "link", "(IIII)I"⟩ ∈ tb := tb_mem (List.mem_of_getElem? (i := 0) (by decide +kernel)) rfl
set_option maxRecDepth 20000 in
theorem tw_1 : Cond.selects "NestedDeeds$Walker" ⟨"NestedDeeds$Walker", "visit", "(II)Z"⟩ ⟨"NestedDeeds$Walker", "visit", "(II)Z"⟩ ∈ tb := tb_mem (List.mem_of_getElem? (i := 1) (by decide +kernel)) rfl
set_option maxRecDepth 20000 in
theorem tw_2 : Cond.selects "NestedDeeds$Walker" ⟨"NestedDeeds$Walker", "halt", "(I)Z"⟩ ⟨"NestedDeeds$Walker", "halt", "(I)Z"⟩ ∈ tb := tb_mem (List.mem_of_getElem? (i := 2) (by decide +kernel)) rfl
set_option maxRecDepth 20000 in
theorem tw_3 : Cond.selects "NestedDeeds$Copying" ⟨"NestedDeeds$Copying", "sortParts", "(II)V"⟩ ⟨"NestedDeeds$Copying", "sortParts", "(II)V"⟩ ∈ tb := tb_mem (List.mem_of_getElem? (i := 3) (by decide +kernel)) rfl
set_option maxRecDepth 20000 in
theorem tw_4 : Cond.selects "NestedDeeds$Walker" ⟨"NestedDeeds$Walker", "byStack", "(I)V"⟩ ⟨"NestedDeeds$Walker", "byStack", "(I)V"⟩ ∈ tb := tb_mem (List.mem_of_getElem? (i := 4) (by decide +kernel)) rfl
set_option maxRecDepth 20000 in
theorem tw_5 : Cond.selects "NestedDeeds$Walker" ⟨"NestedDeeds$Walker", "nextPart", "(I)I"⟩ ⟨"NestedDeeds$Walker", "nextPart", "(I)I"⟩ ∈ tb := tb_mem (List.mem_of_getElem? (i := 5) (by decide +kernel)) rfl
set_option maxRecDepth 20000 in
theorem tw_6 : Cond.selects "NestedDeeds$Weighing" ⟨"NestedDeeds$Weighing", "placeOfChoice", "(III)I"⟩ ⟨"NestedDeeds$Weighing", "placeOfChoice", "(III)I"⟩ ∈ tb := tb_mem (List.mem_of_getElem? (i := 6) (by decide +kernel)) rfl
set_option maxRecDepth 20000 in
theorem tw_7 : Cond.selects "NestedDeeds$Weighing" ⟨"NestedDeeds$Weighing", "takeUpLike", "(IIJ)V"⟩ ⟨"NestedDeeds$Weighing", "takeUpLike", "(IIJ)V"⟩ ∈ tb := tb_mem (List.mem_of_getElem? (i := 7) (by decide +kernel)) rfl
set_option maxRecDepth 20000 in
theorem tw_8 : Cond.selects "NestedDeeds$Walker" ⟨"NestedDeeds$Walker", "bySteps", "()V"⟩ ⟨"NestedDeeds$Walker", "bySteps", "()V"⟩ ∈ tb := tb_mem (List.mem_of_getElem? (i := 8) (by decide +kernel)) rfl
set_option maxRecDepth 20000 in
theorem tw_9 : Cond.selects "NestedDeeds$Walker" ⟨"NestedDeeds$Walker", "take", "(I)I"⟩ ⟨"NestedDeeds$Walker", "take", "(I)I"⟩ ∈ tb := tb_mem (List.mem_of_getElem? (i := 9) (by decide +kernel)) rfl
set_option maxRecDepth 20000 in
theorem tw_10 : Cond.selects "NestedDeeds$Walker" ⟨"NestedDeeds$Walker", "byCalls", "(II)V"⟩ ⟨"NestedDeeds$Walker", "byCalls", "(II)V"⟩ ∈ tb := tb_mem (List.mem_of_getElem? (i := 10) (by decide +kernel)) rfl
set_option maxRecDepth 20000 in
theorem tw_11 : Cond.selects "NestedDeeds" ⟨"NestedDeeds", "remake", "(IIZ)I"⟩ ⟨"NestedDeeds", "remake", "(IIZ)I"⟩ ∈ tb := tb_mem (List.mem_of_getElem? (i := 11) (by decide +kernel)) rfl
set_option maxRecDepth 20000 in
theorem tw_12 : Cond.selects "NestedDeeds$Copying" ⟨"NestedDeeds$Copying", "reckonMarks", "(I)V"⟩ ⟨"NestedDeeds$Copying", "reckonMarks", "(I)V"⟩ ∈ tb := tb_mem (List.mem_of_getElem? (i := 12) (by decide +kernel)) rfl
set_option maxRecDepth 20000 in
theorem tw_13 : Cond.selects "NestedDeeds$Reader" ⟨"NestedDeeds$Reader", "scanKind", "()Z"⟩ ⟨"NestedDeeds$Reader", "scanKind", "()Z"⟩ ∈ tb := tb_mem (List.mem_of_getElem? (i := 13) (by decide +kernel)) rfl
set_option maxRecDepth 20000 in
theorem tw_14 : Cond.selects "NestedDeeds$Reader" ⟨"NestedDeeds$Reader", "scanNumber", "()Z"⟩ ⟨"NestedDeeds$Reader", "scanNumber", "()Z"⟩ ∈ tb := tb_mem (List.mem_of_getElem? (i := 14) (by decide +kernel)) rfl
set_option maxRecDepth 20000 in
theorem tw_15 : Cond.selects "NestedDeeds$Reader" ⟨"NestedDeeds$Reader", "scanFigures", "()J"⟩ ⟨"NestedDeeds$Reader", "scanFigures", "()J"⟩ ∈ tb := tb_mem (List.mem_of_getElem? (i := 15) (by decide +kernel)) rfl
set_option maxRecDepth 20000 in
theorem tw_16 : Cond.selects "NestedDeeds$Reader" ⟨"NestedDeeds$Reader", "openDeed", "()V"⟩ ⟨"NestedDeeds$Reader", "openDeed", "()V"⟩ ∈ tb := tb_mem (List.mem_of_getElem? (i := 16) (by decide +kernel)) rfl
set_option maxRecDepth 20000 in
theorem tw_17 : Cond.selects "NestedDeeds$Reader" ⟨"NestedDeeds$Reader", "finishDeed", "(III)V"⟩ ⟨"NestedDeeds$Reader", "finishDeed", "(III)V"⟩ ∈ tb := tb_mem (List.mem_of_getElem? (i := 17) (by decide +kernel)) rfl
set_option maxRecDepth 20000 in
theorem tw_18 : Cond.selects "NestedDeeds$Reader" ⟨"NestedDeeds$Reader", "closeDeeds", "()V"⟩ ⟨"NestedDeeds$Reader", "closeDeeds", "()V"⟩ ∈ tb := tb_mem (List.mem_of_getElem? (i := 18) (by decide +kernel)) rfl
set_option maxRecDepth 20000 in
theorem tw_19 : Cond.selects "NestedDeedsModel" ⟨"NestedDeedsModel", "add", "(II)I"⟩ ⟨"NestedDeedsModel", "add", "(II)I"⟩ ∈ tb := tb_mem (List.mem_of_getElem? (i := 19) (by decide +kernel)) rfl
set_option maxRecDepth 20000 in
theorem tw_20 : Cond.selects "NestedDeedsModel" ⟨"NestedDeedsModel", "isDeed", "(I)Z"⟩ ⟨"NestedDeedsModel", "isDeed", "(I)Z"⟩ ∈ tb := tb_mem (List.mem_of_getElem? (i := 20) (by decide +kernel)) rfl
set_option maxRecDepth 20000 in
theorem tw_21 : Cond.selects "NestedDeedsModel" ⟨"NestedDeedsModel", "addPart", "(II)I"⟩ ⟨"NestedDeedsModel", "addPart", "(II)I"⟩ ∈ tb := tb_mem (List.mem_of_getElem? (i := 21) (by decide +kernel)) rfl
set_option maxRecDepth 20000 in
theorem tw_22 : Cond.selects "NestedDeedsModel" ⟨"NestedDeedsModel", "partAt", "(II)I"⟩ ⟨"NestedDeedsModel", "partAt", "(II)I"⟩ ∈ tb := tb_mem (List.mem_of_getElem? (i := 22) (by decide +kernel)) rfl
set_option maxRecDepth 20000 in
theorem tw_23 : Cond.selects "NestedDeedsModel" ⟨"NestedDeedsModel", "bad", "()I"⟩ ⟨"NestedDeedsModel", "bad", "()I"⟩ ∈ tb := tb_mem (List.mem_of_getElem? (i := 23) (by decide +kernel)) rfl
set_option maxRecDepth 20000 in
theorem tw_24 : Cond.selects "NestedDeedsModel" ⟨"NestedDeedsModel", "walkAll", "(I)I"⟩ ⟨"NestedDeedsModel", "walkAll", "(I)I"⟩ ∈ tb := tb_mem (List.mem_of_getElem? (i := 24) (by decide +kernel)) rfl
set_option maxRecDepth 20000 in
theorem tw_25 : Cond.selects "NestedDeedsModel" ⟨"NestedDeedsModel", "walk", "(IZZII)I"⟩ ⟨"NestedDeedsModel", "walk", "(IZZII)I"⟩ ∈ tb := tb_mem (List.mem_of_getElem? (i := 25) (by decide +kernel)) rfl
set_option maxRecDepth 20000 in
theorem tw_26 : Cond.selects "NestedDeedsModel" ⟨"NestedDeedsModel", "begin", "()V"⟩ ⟨"NestedDeedsModel", "begin", "()V"⟩ ∈ tb := tb_mem (List.mem_of_getElem? (i := 26) (by decide +kernel)) rfl
set_option maxRecDepth 20000 in
theorem tw_27 : Cond.selects "NestedDeedsModel" ⟨"NestedDeedsModel", "visit", "(II)Z"⟩ ⟨"NestedDeedsModel", "visit", "(II)Z"⟩ ∈ tb := tb_mem (List.mem_of_getElem? (i := 27) (by decide +kernel)) rfl
set_option maxRecDepth 20000 in
theorem tw_28 : Cond.selects "NestedDeedsModel" ⟨"NestedDeedsModel", "nextFrom", "(Z)I"⟩ ⟨"NestedDeedsModel", "nextFrom", "(Z)I"⟩ ∈ tb := tb_mem (List.mem_of_getElem? (i := 28) (by decide +kernel)) rfl
set_option maxRecDepth 20000 in
theorem tw_29 : Cond.selects "NestedDeedsModel" ⟨"NestedDeedsModel", "lookedAt", "(I)I"⟩ ⟨"NestedDeedsModel", "lookedAt", "(I)I"⟩ ∈ tb := tb_mem (List.mem_of_getElem? (i := 29) (by decide +kernel)) rfl
set_option maxRecDepth 20000 in
theorem tw_30 : Cond.selects "NestedDeedsModel" ⟨"NestedDeedsModel", "chosen", "(I)I"⟩ ⟨"NestedDeedsModel", "chosen", "(I)I"⟩ ∈ tb := tb_mem (List.mem_of_getElem? (i := 30) (by decide +kernel)) rfl
set_option maxRecDepth 20000 in
theorem tw_31 : Cond.selects "NestedDeedsModel" ⟨"NestedDeedsModel", "ended", "()I"⟩ ⟨"NestedDeedsModel", "ended", "()I"⟩ ∈ tb := tb_mem (List.mem_of_getElem? (i := 31) (by decide +kernel)) rfl
set_option maxRecDepth 20000 in
theorem tw_32 : Cond.selects "NestedDeedsModel" ⟨"NestedDeedsModel", "workOut", "(I)V"⟩ ⟨"NestedDeedsModel", "workOut", "(I)V"⟩ ∈ tb := tb_mem (List.mem_of_getElem? (i := 32) (by decide +kernel)) rfl
set_option maxRecDepth 20000 in
theorem tw_33 : Cond.selects "NestedDeedsModel" ⟨"NestedDeedsModel", "worthIn", "(I)J"⟩ ⟨"NestedDeedsModel", "worthIn", "(I)J"⟩ ∈ tb := tb_mem (List.mem_of_getElem? (i := 33) (by decide +kernel)) rfl
set_option maxRecDepth 20000 in
theorem tw_34 : Cond.selects "NestedDeedsModel" ⟨"NestedDeedsModel", "byAll", "(I)J"⟩ ⟨"NestedDeedsModel", "byAll", "(I)J"⟩ ∈ tb := tb_mem (List.mem_of_getElem? (i := 34) (by decide +kernel)) rfl
set_option maxRecDepth 20000 in
theorem tw_35 : Cond.selects "NestedDeedsModel" ⟨"NestedDeedsModel", "markIn", "(I)J"⟩ ⟨"NestedDeedsModel", "markIn", "(I)J"⟩ ∈ tb := tb_mem (List.mem_of_getElem? (i := 35) (by decide +kernel)) rfl
set_option maxRecDepth 20000 in
theorem tw_36 : Cond.selects "NestedDeedsModel" ⟨"NestedDeedsModel", "differ", "(II)Z"⟩ ⟨"NestedDeedsModel", "differ", "(II)Z"⟩ ∈ tb := tb_mem (List.mem_of_getElem? (i := 36) (by decide +kernel)) rfl
set_option maxRecDepth 20000 in
theorem tw_37 : Cond.selects "NestedDeedsModel" ⟨"NestedDeedsModel", "putDeed", "(I)V"⟩ ⟨"NestedDeedsModel", "putDeed", "(I)V"⟩ ∈ tb := tb_mem (List.mem_of_getElem? (i := 37) (by decide +kernel)) rfl
set_option maxRecDepth 20000 in
theorem tw_38 : Cond.selects "NestedDeedsModel" ⟨"NestedDeedsModel", "put", "(I)V"⟩ ⟨"NestedDeedsModel", "put", "(I)V"⟩ ∈ tb := tb_mem (List.mem_of_getElem? (i := 38) (by decide +kernel)) rfl
set_option maxRecDepth 20000 in
theorem tw_39 : Cond.selects "NestedDeedsModel" ⟨"NestedDeedsModel", "anew", "(IZIZ)I"⟩ ⟨"NestedDeedsModel", "anew", "(IZIZ)I"⟩ ∈ tb := tb_mem (List.mem_of_getElem? (i := 39) (by decide +kernel)) rfl
set_option maxRecDepth 20000 in
theorem tw_40 : Cond.selects "NestedDeedsModel" ⟨"NestedDeedsModel", "build", "(ZIZ)I"⟩ ⟨"NestedDeedsModel", "build", "(ZIZ)I"⟩ ∈ tb := tb_mem (List.mem_of_getElem? (i := 40) (by decide +kernel)) rfl
set_option maxRecDepth 20000 in
theorem tw_41 : Cond.selects "NestedDeedsModel" ⟨"NestedDeedsModel", "plant", "(IIJIZ)V"⟩ ⟨"NestedDeedsModel", "plant", "(IIJIZ)V"⟩ ∈ tb := tb_mem (List.mem_of_getElem? (i := 41) (by decide +kernel)) rfl
set_option maxRecDepth 20000 in
theorem tw_42 : Cond.selects "NestedDeedsModel" ⟨"NestedDeedsModel", "grow", "()I"⟩ ⟨"NestedDeedsModel", "grow", "()I"⟩ ∈ tb := tb_mem (List.mem_of_getElem? (i := 42) (by decide +kernel)) rfl
set_option maxRecDepth 20000 in
theorem tw_43 : Cond.selects "NestedDeedsModel" ⟨"NestedDeedsModel", "readOne", "(I)V"⟩ ⟨"NestedDeedsModel", "readOne", "(I)V"⟩ ∈ tb := tb_mem (List.mem_of_getElem? (i := 43) (by decide +kernel)) rfl
set_option maxRecDepth 20000 in
theorem tw_44 : Cond.selects "NestedDeedsModel" ⟨"NestedDeedsModel", "now", "()I"⟩ ⟨"NestedDeedsModel", "now", "()I"⟩ ∈ tb := tb_mem (List.mem_of_getElem? (i := 44) (by decide +kernel)) rfl
set_option maxRecDepth 20000 in
theorem tw_45 : Cond.selects "NestedDeedsModel" ⟨"NestedDeedsModel", "figures", "()I"⟩ ⟨"NestedDeedsModel", "figures", "()I"⟩ ∈ tb := tb_mem (List.mem_of_getElem? (i := 45) (by decide +kernel)) rfl
set_option maxRecDepth 20000 in
theorem tw_46 : Cond.selects "NestedDeedsModel" ⟨"NestedDeedsModel", "isFigure", "()Z"⟩ ⟨"NestedDeedsModel", "isFigure", "()Z"⟩ ∈ tb := tb_mem (List.mem_of_getElem? (i := 46) (by decide +kernel)) rfl
set_option maxRecDepth 20000 in
theorem tw_47 : Cond.initialized "NestedDeedsLaw" ∈ tb := tb_mem (List.mem_of_getElem? (i := 47) (by decide +kernel)) rfl
set_option maxRecDepth 20000 in
theorem tw_48 : Cond.initialized "NestedDeeds" ∈ tb := tb_mem (List.mem_of_getElem? (i := 48) (by decide +kernel)) rfl
set_option maxRecDepth 20000 in
theorem tw_49 : Cond.initialized "NestedDeeds$Deeds" ∈ tb := tb_mem (List.mem_of_getElem? (i := 49) (by decide +kernel)) rfl
set_option maxRecDepth 20000 in
theorem tw_50 : Cond.initialized "NestedDeeds$Paper" ∈ tb := tb_mem (List.mem_of_getElem? (i := 50) (by decide +kernel)) rfl
set_option maxRecDepth 20000 in
theorem tw_51 : Cond.initialized "NestedDeeds$Reader" ∈ tb := tb_mem (List.mem_of_getElem? (i := 51) (by decide +kernel)) rfl
set_option maxRecDepth 20000 in
theorem tw_52 : Cond.initialized "NestedDeeds$Task" ∈ tb := tb_mem (List.mem_of_getElem? (i := 52) (by decide +kernel)) rfl
set_option maxRecDepth 20000 in
theorem tw_53 : Cond.initialized "NestedDeeds$Weighing" ∈ tb := tb_mem (List.mem_of_getElem? (i := 53) (by decide +kernel)) rfl
set_option maxRecDepth 20000 in
theorem tw_54 : Cond.initialized "NestedDeeds$Marking" ∈ tb := tb_mem (List.mem_of_getElem? (i := 54) (by decide +kernel)) rfl
set_option maxRecDepth 20000 in
theorem tw_55 : Cond.initialized "NestedDeeds$Comparing" ∈ tb := tb_mem (List.mem_of_getElem? (i := 55) (by decide +kernel)) rfl
set_option maxRecDepth 20000 in
theorem tw_56 : Cond.initialized "NestedDeeds$Writing" ∈ tb := tb_mem (List.mem_of_getElem? (i := 56) (by decide +kernel)) rfl
set_option maxRecDepth 20000 in
theorem tw_57 : Cond.initialized "NestedDeeds$Finding" ∈ tb := tb_mem (List.mem_of_getElem? (i := 57) (by decide +kernel)) rfl
set_option maxRecDepth 20000 in
theorem tw_58 : Cond.initialized "NestedDeeds$Copying" ∈ tb := tb_mem (List.mem_of_getElem? (i := 58) (by decide +kernel)) rfl
set_option maxRecDepth 20000 in
theorem tw_59 : Cond.initialized "NestedDeeds$Walker" ∈ tb := tb_mem (List.mem_of_getElem? (i := 59) (by decide +kernel)) rfl
set_option maxRecDepth 20000 in
theorem tw_60 : Cond.initialized "NestedDeedsModel" ∈ tb := tb_mem (List.mem_of_getElem? (i := 60) (by decide +kernel)) rfl
set_option maxRecDepth 20000 in
theorem tw_61 : Cond.initialized "java/lang/System" ∈ tb := tb_mem (List.mem_of_getElem? (i := 61) (by decide +kernel)) rfl
set_option maxRecDepth 20000 in
theorem tw_62 : Cond.initialized "java/lang/Math" ∈ tb := tb_mem (List.mem_of_getElem? (i := 62) (by decide +kernel)) rfl
set_option maxRecDepth 20000 in
theorem tw_63 : Cond.initialized "java/lang/Long" ∈ tb := tb_mem (List.mem_of_getElem? (i := 63) (by decide +kernel)) rfl
set_option maxRecDepth 20000 in
theorem tw_64 : Cond.classLink "NestedDeedsLaw" 7 "NestedDeeds" ∈ tb := tb_mem (List.mem_of_getElem? (i := 64) (by decide +kernel)) rfl
set_option maxRecDepth 20000 in
theorem tw_65 : Cond.instantiable "NestedDeeds" 13 ∈ tb := tb_mem (List.mem_of_getElem? (i := 65) (by decide +kernel)) rfl
set_option maxRecDepth 20000 in
theorem tw_66 : Cond.methodLink "NestedDeedsLaw" 9 ⟨"NestedDeeds", "<init>", "()V"⟩ ∈ tb := tb_mem (List.mem_of_getElem? (i := 66) (by decide +kernel)) rfl
set_option maxRecDepth 20000 in
theorem tw_67 : Cond.instanceMethod ⟨"NestedDeeds", "<init>", "()V"⟩ ∈ tb := tb_mem (List.mem_of_getElem? (i := 67) (by decide +kernel)) rfl
set_option maxRecDepth 20000 in
theorem tw_68 : Cond.code ⟨"NestedDeeds", "<init>", "()V"⟩ prog_1_method_1_code 1 none ∈ tb := tb_mem (List.mem_of_getElem? (i := 68) (by decide +kernel)) rfl
set_option maxRecDepth 20000 in
theorem tw_69 : Cond.methodLink "NestedDeeds" 3 ⟨"java/lang/Object", "<init>", "()V"⟩ ∈ tb := tb_mem (List.mem_of_getElem? (i := 69) (by decide +kernel)) rfl
set_option maxRecDepth 20000 in
theorem tw_70 : Cond.instanceMethod ⟨"java/lang/Object", "<init>", "()V"⟩ ∈ tb := tb_mem (List.mem_of_getElem? (i := 70) (by decide +kernel)) rfl
set_option maxRecDepth 20000 in
theorem tw_71 : Cond.code ⟨"java/lang/Object", "<init>", "()V"⟩ object_method_1_code 1 none ∈ tb := tb_mem (List.mem_of_getElem? (i := 71) (by decide +kernel)) rfl
set_option maxRecDepth 20000 in
theorem tw_72 : Cond.classLink "NestedDeeds" 9 "NestedDeeds$Deeds" ∈ tb := tb_mem (List.mem_of_getElem? (i := 72) (by decide +kernel)) rfl
set_option maxRecDepth 20000 in
theorem tw_73 : Cond.instantiable "NestedDeeds$Deeds" 7 ∈ tb := tb_mem (List.mem_of_getElem? (i := 73) (by decide +kernel)) rfl
set_option maxRecDepth 20000 in
theorem tw_75 : Cond.instanceMethod ⟨"NestedDeeds$Deeds", "<init>", "()V"⟩ ∈ tb := tb_mem (List.mem_of_getElem? (i := 75) (by decide +kernel)) rfl
set_option maxRecDepth 20000 in
theorem tw_76 : Cond.code ⟨"NestedDeeds$Deeds", "<init>", "()V"⟩ prog_4_method_1_code 1 none ∈ tb := tb_mem (List.mem_of_getElem? (i := 76) (by decide +kernel)) rfl
set_option maxRecDepth 20000 in
theorem tw_77 : Cond.methodLink "NestedDeeds$Deeds" 3 ⟨"java/lang/Object", "<init>", "()V"⟩ ∈ tb := tb_mem (List.mem_of_getElem? (i := 77) (by decide +kernel)) rfl
set_option maxRecDepth 20000 in
theorem tw_78 : Cond.fieldLink "NestedDeeds$Deeds" 9 "NestedDeeds$Deeds" "kind" "[I" ∈ tb := tb_mem (List.mem_of_getElem? (i := 78) (by decide +kernel)) rfl
set_option maxRecDepth 20000 in
theorem tw_79 : Cond.fieldLink "NestedDeeds$Writing" 19 "NestedDeeds$Deeds" "kind" "[I" ∈ tb := tb_mem (List.mem_of_getElem? (i := 79) (by decide +kernel)) rfl
set_option maxRecDepth 20000 in
theorem tw_80 : Cond.fieldLink "NestedDeeds$Weighing" 28 "NestedDeeds$Deeds" "kind" "[I" ∈ tb := tb_mem (List.mem_of_getElem? (i := 80) (by decide +kernel)) rfl
set_option maxRecDepth 20000 in
theorem tw_81 : Cond.fieldLink "NestedDeeds$Finding" 20 "NestedDeeds$Deeds" "kind" "[I" ∈ tb := tb_mem (List.mem_of_getElem? (i := 81) (by decide +kernel)) rfl
set_option maxRecDepth 20000 in
theorem tw_82 : Cond.fieldLink "NestedDeeds$Comparing" 19 "NestedDeeds$Deeds" "kind" "[I" ∈ tb := tb_mem (List.mem_of_getElem? (i := 82) (by decide +kernel)) rfl
set_option maxRecDepth 20000 in
theorem tw_83 : Cond.fieldLink "NestedDeeds$Copying" 63 "NestedDeeds$Deeds" "kind" "[I" ∈ tb := tb_mem (List.mem_of_getElem? (i := 83) (by decide +kernel)) rfl
set_option maxRecDepth 20000 in
theorem tw_84 : Cond.fieldLink "NestedDeeds$Marking" 23 "NestedDeeds$Deeds" "kind" "[I" ∈ tb := tb_mem (List.mem_of_getElem? (i := 84) (by decide +kernel)) rfl
set_option maxRecDepth 20000 in
theorem tw_85 : Cond.fieldLink "NestedDeeds" 136 "NestedDeeds$Deeds" "kind" "[I" ∈ tb := tb_mem (List.mem_of_getElem? (i := 85) (by decide +kernel)) rfl
set_option maxRecDepth 20000 in
theorem tw_86 : Cond.fieldLink "NestedDeeds$Deeds" 15 "NestedDeeds$Deeds" "number" "[I" ∈ tb := tb_mem (List.mem_of_getElem? (i := 86) (by decide +kernel)) rfl
set_option maxRecDepth 20000 in
theorem tw_87 : Cond.fieldLink "NestedDeeds$Weighing" 22 "NestedDeeds$Deeds" "number" "[I" ∈ tb := tb_mem (List.mem_of_getElem? (i := 87) (by decide +kernel)) rfl
set_option maxRecDepth 20000 in
theorem tw_88 : Cond.fieldLink "NestedDeeds$Writing" 31 "NestedDeeds$Deeds" "number" "[I" ∈ tb := tb_mem (List.mem_of_getElem? (i := 88) (by decide +kernel)) rfl
set_option maxRecDepth 20000 in
theorem tw_89 : Cond.fieldLink "NestedDeeds$Finding" 25 "NestedDeeds$Deeds" "number" "[I" ∈ tb := tb_mem (List.mem_of_getElem? (i := 89) (by decide +kernel)) rfl
set_option maxRecDepth 20000 in
theorem tw_90 : Cond.fieldLink "NestedDeeds$Comparing" 24 "NestedDeeds$Deeds" "number" "[I" ∈ tb := tb_mem (List.mem_of_getElem? (i := 90) (by decide +kernel)) rfl
set_option maxRecDepth 20000 in
theorem tw_91 : Cond.fieldLink "NestedDeeds$Copying" 66 "NestedDeeds$Deeds" "number" "[I" ∈ tb := tb_mem (List.mem_of_getElem? (i := 91) (by decide +kernel)) rfl
set_option maxRecDepth 20000 in
theorem tw_92 : Cond.fieldLink "NestedDeeds$Marking" 29 "NestedDeeds$Deeds" "number" "[I" ∈ tb := tb_mem (List.mem_of_getElem? (i := 92) (by decide +kernel)) rfl
set_option maxRecDepth 20000 in
theorem tw_93 : Cond.fieldLink "NestedDeeds" 140 "NestedDeeds$Deeds" "number" "[I" ∈ tb := tb_mem (List.mem_of_getElem? (i := 93) (by decide +kernel)) rfl
set_option maxRecDepth 20000 in
theorem tw_94 : Cond.fieldLink "NestedDeeds$Deeds" 18 "NestedDeeds$Deeds" "start" "[I" ∈ tb := tb_mem (List.mem_of_getElem? (i := 94) (by decide +kernel)) rfl
set_option maxRecDepth 20000 in
theorem tw_95 : Cond.fieldLink "NestedDeeds$Copying" 75 "NestedDeeds$Deeds" "start" "[I" ∈ tb := tb_mem (List.mem_of_getElem? (i := 95) (by decide +kernel)) rfl
set_option maxRecDepth 20000 in
theorem tw_96 : Cond.fieldLink "NestedDeeds$Deeds" 21 "NestedDeeds$Deeds" "parts" "[I" ∈ tb := tb_mem (List.mem_of_getElem? (i := 96) (by decide +kernel)) rfl
set_option maxRecDepth 20000 in
theorem tw_97 : Cond.fieldLink "NestedDeeds$Copying" 44 "NestedDeeds$Deeds" "parts" "[I" ∈ tb := tb_mem (List.mem_of_getElem? (i := 97) (by decide +kernel)) rfl
set_option maxRecDepth 20000 in
theorem tw_98 : Cond.fieldLink "NestedDeeds$Deeds" 24 "NestedDeeds$Deeds" "loose" "[I" ∈ tb := tb_mem (List.mem_of_getElem? (i := 98) (by decide +kernel)) rfl
set_option maxRecDepth 20000 in
theorem tw_99 : Cond.fieldLink "NestedDeeds$Deeds" 45 "NestedDeeds$Deeds" "looseCount" "I" ∈ tb := tb_mem (List.mem_of_getElem? (i := 99) (by decide +kernel)) rfl
set_option maxRecDepth 20000 in
theorem tw_100 : Cond.fieldLink "NestedDeeds$Deeds" 27 "NestedDeeds$Deeds" "made" "I" ∈ tb := tb_mem (List.mem_of_getElem? (i := 100) (by decide +kernel)) rfl
set_option maxRecDepth 20000 in
theorem tw_101 : Cond.fieldLink "NestedDeeds" 223 "NestedDeeds$Deeds" "made" "I" ∈ tb := tb_mem (List.mem_of_getElem? (i := 101) (by decide +kernel)) rfl
set_option maxRecDepth 20000 in
theorem tw_117 : Cond.arrayClass .int ∈ tb := tb_mem (List.mem_of_getElem? (i := 117) (by decide +kernel)) rfl
set_option maxRecDepth 20000 in
theorem tw_118 : Cond.classLink "NestedDeeds" 16 "NestedDeeds$Paper" ∈ tb := tb_mem (List.mem_of_getElem? (i := 118) (by decide +kernel)) rfl
set_option maxRecDepth 20000 in
theorem tw_119 : Cond.instantiable "NestedDeeds$Paper" 3 ∈ tb := tb_mem (List.mem_of_getElem? (i := 119) (by decide +kernel)) rfl
set_option maxRecDepth 20000 in
theorem tw_121 : Cond.instanceMethod ⟨"NestedDeeds$Paper", "<init>", "()V"⟩ ∈ tb := tb_mem (List.mem_of_getElem? (i := 121) (by decide +kernel)) rfl
set_option maxRecDepth 20000 in
theorem tw_122 : Cond.code ⟨"NestedDeeds$Paper", "<init>", "()V"⟩ prog_7_method_1_code 1 none ∈ tb := tb_mem (List.mem_of_getElem? (i := 122) (by decide +kernel)) rfl
set_option maxRecDepth 20000 in
theorem tw_123 : Cond.methodLink "NestedDeeds$Paper" 3 ⟨"java/lang/Object", "<init>", "()V"⟩ ∈ tb := tb_mem (List.mem_of_getElem? (i := 123) (by decide +kernel)) rfl
set_option maxRecDepth 20000 in
theorem tw_124 : Cond.fieldLink "NestedDeeds$Paper" 9 "NestedDeeds$Paper" "bytes" "[B" ∈ tb := tb_mem (List.mem_of_getElem? (i := 124) (by decide +kernel)) rfl
set_option maxRecDepth 20000 in
theorem tw_125 : Cond.fieldLink "NestedDeeds$Paper" 15 "NestedDeeds$Paper" "length" "I" ∈ tb := tb_mem (List.mem_of_getElem? (i := 125) (by decide +kernel)) rfl
set_option maxRecDepth 20000 in
theorem tw_126 : Cond.fieldLink "NestedDeeds$Reader" 71 "NestedDeeds$Paper" "length" "I" ∈ tb := tb_mem (List.mem_of_getElem? (i := 126) (by decide +kernel)) rfl
set_option maxRecDepth 20000 in
theorem tw_127 : Cond.fieldLink "NestedDeeds" 178 "NestedDeeds$Paper" "length" "I" ∈ tb := tb_mem (List.mem_of_getElem? (i := 127) (by decide +kernel)) rfl
set_option maxRecDepth 20000 in
theorem tw_128 : Cond.fieldLink "NestedDeeds$Paper" 19 "NestedDeeds$Paper" "overfull" "Z" ∈ tb := tb_mem (List.mem_of_getElem? (i := 128) (by decide +kernel)) rfl
set_option maxRecDepth 20000 in
theorem tw_129 : Cond.fieldLink "NestedDeeds$Writing" 41 "NestedDeeds$Paper" "overfull" "Z" ∈ tb := tb_mem (List.mem_of_getElem? (i := 129) (by decide +kernel)) rfl
set_option maxRecDepth 20000 in
theorem tw_130 : Cond.fieldLink "NestedDeeds" 171 "NestedDeeds$Paper" "overfull" "Z" ∈ tb := tb_mem (List.mem_of_getElem? (i := 130) (by decide +kernel)) rfl
set_option maxRecDepth 20000 in
theorem tw_138 : Cond.arrayClass .byte ∈ tb := tb_mem (List.mem_of_getElem? (i := 138) (by decide +kernel)) rfl
set_option maxRecDepth 20000 in
theorem tw_139 : Cond.classLink "NestedDeeds" 26 "NestedDeeds$Reader" ∈ tb := tb_mem (List.mem_of_getElem? (i := 139) (by decide +kernel)) rfl
set_option maxRecDepth 20000 in
theorem tw_140 : Cond.instantiable "NestedDeeds$Reader" 11 ∈ tb := tb_mem (List.mem_of_getElem? (i := 140) (by decide +kernel)) rfl
set_option maxRecDepth 20000 in
theorem tw_141 : Cond.methodLink "NestedDeeds" 28 ⟨"NestedDeeds$Reader", "<init>", "(LNestedDeeds$Deeds;LNestedDeeds$Paper;)V"⟩ ∈ tb := tb_mem (List.mem_of_getElem? (i := 141) (by decide +kernel)) rfl
set_option maxRecDepth 20000 in
theorem tw_142 : Cond.instanceMethod ⟨"NestedDeeds$Reader", "<init>", "(LNestedDeeds$Deeds;LNestedDeeds$Paper;)V"⟩ ∈ tb := tb_mem (List.mem_of_getElem? (i := 142) (by decide +kernel)) rfl
set_option maxRecDepth 20000 in
theorem tw_143 : Cond.code ⟨"NestedDeeds$Reader", "<init>", "(LNestedDeeds$Deeds;LNestedDeeds$Paper;)V"⟩ prog_8_method_1_code 3 none ∈ tb := tb_mem (List.mem_of_getElem? (i := 143) (by decide +kernel)) rfl
set_option maxRecDepth 20000 in
theorem tw_144 : Cond.methodLink "NestedDeeds$Reader" 3 ⟨"java/lang/Object", "<init>", "()V"⟩ ∈ tb := tb_mem (List.mem_of_getElem? (i := 144) (by decide +kernel)) rfl
set_option maxRecDepth 20000 in
theorem tw_145 : Cond.fieldLink "NestedDeeds$Reader" 21 "NestedDeeds$Reader" "deeds" "LNestedDeeds$Deeds;" ∈ tb := tb_mem (List.mem_of_getElem? (i := 145) (by decide +kernel)) rfl
set_option maxRecDepth 20000 in
theorem tw_146 : Cond.fieldLink "NestedDeeds$Reader" 25 "NestedDeeds$Reader" "paper" "LNestedDeeds$Paper;" ∈ tb := tb_mem (List.mem_of_getElem? (i := 146) (by decide +kernel)) rfl
set_option maxRecDepth 20000 in
theorem tw_147 : Cond.fieldLink "NestedDeeds$Reader" 11 "NestedDeeds$Reader" "openKind" "[I" ∈ tb := tb_mem (List.mem_of_getElem? (i := 147) (by decide +kernel)) rfl
set_option maxRecDepth 20000 in
theorem tw_148 : Cond.fieldLink "NestedDeeds$Reader" 15 "NestedDeeds$Reader" "openNumber" "[I" ∈ tb := tb_mem (List.mem_of_getElem? (i := 148) (by decide +kernel)) rfl
set_option maxRecDepth 20000 in
theorem tw_149 : Cond.fieldLink "NestedDeeds$Reader" 18 "NestedDeeds$Reader" "openParts" "[I" ∈ tb := tb_mem (List.mem_of_getElem? (i := 149) (by decide +kernel)) rfl
set_option maxRecDepth 20000 in
theorem tw_150 : Cond.fieldLink "NestedDeeds$Reader" 33 "NestedDeeds$Reader" "open" "I" ∈ tb := tb_mem (List.mem_of_getElem? (i := 150) (by decide +kernel)) rfl
set_option maxRecDepth 20000 in
theorem tw_151 : Cond.fieldLink "NestedDeeds$Reader" 37 "NestedDeeds$Reader" "at" "I" ∈ tb := tb_mem (List.mem_of_getElem? (i := 151) (by decide +kernel)) rfl
set_option maxRecDepth 20000 in
theorem tw_152 : Cond.fieldLink "NestedDeeds$Reader" 58 "NestedDeeds$Reader" "kind" "I" ∈ tb := tb_mem (List.mem_of_getElem? (i := 152) (by decide +kernel)) rfl
set_option maxRecDepth 20000 in
theorem tw_153 : Cond.fieldLink "NestedDeeds$Reader" 61 "NestedDeeds$Reader" "number" "I" ∈ tb := tb_mem (List.mem_of_getElem? (i := 153) (by decide +kernel)) rfl
set_option maxRecDepth 20000 in
theorem tw_154 : Cond.fieldLink "NestedDeeds$Reader" 29 "NestedDeeds$Reader" "making" "Z" ∈ tb := tb_mem (List.mem_of_getElem? (i := 154) (by decide +kernel)) rfl
set_option maxRecDepth 20000 in
theorem tw_155 : Cond.fieldLink "NestedDeeds$Reader" 40 "NestedDeeds$Reader" "whole" "I" ∈ tb := tb_mem (List.mem_of_getElem? (i := 155) (by decide +kernel)) rfl
set_option maxRecDepth 20000 in
theorem tw_156 : Cond.fieldLink "NestedDeeds" 217 "NestedDeeds$Reader" "whole" "I" ∈ tb := tb_mem (List.mem_of_getElem? (i := 156) (by decide +kernel)) rfl
set_option maxRecDepth 20000 in
theorem tw_180 : Cond.classLink "NestedDeeds" 39 "NestedDeeds$Task" ∈ tb := tb_mem (List.mem_of_getElem? (i := 180) (by decide +kernel)) rfl
set_option maxRecDepth 20000 in
theorem tw_181 : Cond.instantiable "NestedDeeds$Task" 2 ∈ tb := tb_mem (List.mem_of_getElem? (i := 181) (by decide +kernel)) rfl
set_option maxRecDepth 20000 in
theorem tw_182 : Cond.methodLink "NestedDeeds" 41 ⟨"NestedDeeds$Task", "<init>", "(LNestedDeeds$Deeds;)V"⟩ ∈ tb := tb_mem (List.mem_of_getElem? (i := 182) (by decide +kernel)) rfl
set_option maxRecDepth 20000 in
theorem tw_183 : Cond.instanceMethod ⟨"NestedDeeds$Task", "<init>", "(LNestedDeeds$Deeds;)V"⟩ ∈ tb := tb_mem (List.mem_of_getElem? (i := 183) (by decide +kernel)) rfl
set_option maxRecDepth 20000 in
theorem tw_184 : Cond.code ⟨"NestedDeeds$Task", "<init>", "(LNestedDeeds$Deeds;)V"⟩ prog_9_method_1_code 2 none ∈ tb := tb_mem (List.mem_of_getElem? (i := 184) (by decide +kernel)) rfl
set_option maxRecDepth 20000 in
theorem tw_185 : Cond.methodLink "NestedDeeds$Task" 1 ⟨"java/lang/Object", "<init>", "()V"⟩ ∈ tb := tb_mem (List.mem_of_getElem? (i := 185) (by decide +kernel)) rfl
set_option maxRecDepth 20000 in
theorem tw_186 : Cond.fieldLink "NestedDeeds$Task" 7 "NestedDeeds$Task" "deeds" "LNestedDeeds$Deeds;" ∈ tb := tb_mem (List.mem_of_getElem? (i := 186) (by decide +kernel)) rfl
set_option maxRecDepth 20000 in
theorem tw_187 : Cond.fieldLink "NestedDeeds$Weighing" 18 "NestedDeeds$Weighing" "deeds" "LNestedDeeds$Deeds;" ∈ tb := tb_mem (List.mem_of_getElem? (i := 187) (by decide +kernel)) rfl
set_option maxRecDepth 20000 in
theorem tw_188 : Cond.sameField "NestedDeeds$Weighing" "NestedDeeds$Task" "deeds" "LNestedDeeds$Deeds;" ∈ tb := tb_mem (List.mem_of_getElem? (i := 188) (by decide +kernel)) rfl
set_option maxRecDepth 20000 in
theorem tw_189 : Cond.fieldLink "NestedDeeds$Writing" 15 "NestedDeeds$Writing" "deeds" "LNestedDeeds$Deeds;" ∈ tb := tb_mem (List.mem_of_getElem? (i := 189) (by decide +kernel)) rfl
set_option maxRecDepth 20000 in
theorem tw_190 : Cond.sameField "NestedDeeds$Writing" "NestedDeeds$Task" "deeds" "LNestedDeeds$Deeds;" ∈ tb := tb_mem (List.mem_of_getElem? (i := 190) (by decide +kernel)) rfl
set_option maxRecDepth 20000 in
theorem tw_191 : Cond.fieldLink "NestedDeeds$Finding" 16 "NestedDeeds$Finding" "deeds" "LNestedDeeds$Deeds;" ∈ tb := tb_mem (List.mem_of_getElem? (i := 191) (by decide +kernel)) rfl
set_option maxRecDepth 20000 in
theorem tw_192 : Cond.sameField "NestedDeeds$Finding" "NestedDeeds$Task" "deeds" "LNestedDeeds$Deeds;" ∈ tb := tb_mem (List.mem_of_getElem? (i := 192) (by decide +kernel)) rfl
set_option maxRecDepth 20000 in
theorem tw_193 : Cond.fieldLink "NestedDeeds$Comparing" 15 "NestedDeeds$Comparing" "deeds" "LNestedDeeds$Deeds;" ∈ tb := tb_mem (List.mem_of_getElem? (i := 193) (by decide +kernel)) rfl
set_option maxRecDepth 20000 in
theorem tw_194 : Cond.sameField "NestedDeeds$Comparing" "NestedDeeds$Task" "deeds" "LNestedDeeds$Deeds;" ∈ tb := tb_mem (List.mem_of_getElem? (i := 194) (by decide +kernel)) rfl
set_option maxRecDepth 20000 in
theorem tw_195 : Cond.fieldLink "NestedDeeds$Copying" 40 "NestedDeeds$Copying" "deeds" "LNestedDeeds$Deeds;" ∈ tb := tb_mem (List.mem_of_getElem? (i := 195) (by decide +kernel)) rfl
set_option maxRecDepth 20000 in
theorem tw_196 : Cond.sameField "NestedDeeds$Copying" "NestedDeeds$Task" "deeds" "LNestedDeeds$Deeds;" ∈ tb := tb_mem (List.mem_of_getElem? (i := 196) (by decide +kernel)) rfl
set_option maxRecDepth 20000 in
theorem tw_197 : Cond.fieldLink "NestedDeeds$Marking" 19 "NestedDeeds$Marking" "deeds" "LNestedDeeds$Deeds;" ∈ tb := tb_mem (List.mem_of_getElem? (i := 197) (by decide +kernel)) rfl
set_option maxRecDepth 20000 in
theorem tw_198 : Cond.sameField "NestedDeeds$Marking" "NestedDeeds$Task" "deeds" "LNestedDeeds$Deeds;" ∈ tb := tb_mem (List.mem_of_getElem? (i := 198) (by decide +kernel)) rfl
set_option maxRecDepth 20000 in
theorem tw_199 : Cond.fieldLink "NestedDeeds$Writing" 45 "NestedDeeds$Writing" "over" "Z" ∈ tb := tb_mem (List.mem_of_getElem? (i := 199) (by decide +kernel)) rfl
set_option maxRecDepth 20000 in
theorem tw_200 : Cond.sameField "NestedDeeds$Writing" "NestedDeeds$Task" "over" "Z" ∈ tb := tb_mem (List.mem_of_getElem? (i := 200) (by decide +kernel)) rfl
set_option maxRecDepth 20000 in
theorem tw_201 : Cond.fieldLink "NestedDeeds$Walker" 49 "NestedDeeds$Task" "over" "Z" ∈ tb := tb_mem (List.mem_of_getElem? (i := 201) (by decide +kernel)) rfl
set_option maxRecDepth 20000 in
theorem tw_202 : Cond.fieldLink "NestedDeeds$Finding" 27 "NestedDeeds$Finding" "over" "Z" ∈ tb := tb_mem (List.mem_of_getElem? (i := 202) (by decide +kernel)) rfl
set_option maxRecDepth 20000 in
theorem tw_203 : Cond.sameField "NestedDeeds$Finding" "NestedDeeds$Task" "over" "Z" ∈ tb := tb_mem (List.mem_of_getElem? (i := 203) (by decide +kernel)) rfl
set_option maxRecDepth 20000 in
theorem tw_204 : Cond.fieldLink "NestedDeeds$Comparing" 31 "NestedDeeds$Comparing" "over" "Z" ∈ tb := tb_mem (List.mem_of_getElem? (i := 204) (by decide +kernel)) rfl
set_option maxRecDepth 20000 in
theorem tw_205 : Cond.sameField "NestedDeeds$Comparing" "NestedDeeds$Task" "over" "Z" ∈ tb := tb_mem (List.mem_of_getElem? (i := 205) (by decide +kernel)) rfl
set_option maxRecDepth 20000 in
theorem tw_206 : Cond.fieldLink "NestedDeeds" 164 "NestedDeeds$Comparing" "over" "Z" ∈ tb := tb_mem (List.mem_of_getElem? (i := 206) (by decide +kernel)) rfl
set_option maxRecDepth 20000 in
theorem tw_207 : Cond.fieldLink "NestedDeeds" 183 "NestedDeeds$Finding" "over" "Z" ∈ tb := tb_mem (List.mem_of_getElem? (i := 207) (by decide +kernel)) rfl
set_option maxRecDepth 20000 in
theorem tw_213 : Cond.arrayClass .long ∈ tb := tb_mem (List.mem_of_getElem? (i := 213) (by decide +kernel)) rfl
set_option maxRecDepth 20000 in
theorem tw_214 : Cond.classLink "NestedDeeds" 48 "NestedDeeds$Weighing" ∈ tb := tb_mem (List.mem_of_getElem? (i := 214) (by decide +kernel)) rfl
set_option maxRecDepth 20000 in
theorem tw_215 : Cond.instantiable "NestedDeeds$Weighing" 4 ∈ tb := tb_mem (List.mem_of_getElem? (i := 215) (by decide +kernel)) rfl
set_option maxRecDepth 20000 in
theorem tw_216 : Cond.methodLink "NestedDeeds" 50 ⟨"NestedDeeds$Weighing", "<init>", "(LNestedDeeds$Deeds;[J)V"⟩ ∈ tb := tb_mem (List.mem_of_getElem? (i := 216) (by decide +kernel)) rfl
set_option maxRecDepth 20000 in
theorem tw_217 : Cond.instanceMethod ⟨"NestedDeeds$Weighing", "<init>", "(LNestedDeeds$Deeds;[J)V"⟩ ∈ tb := tb_mem (List.mem_of_getElem? (i := 217) (by decide +kernel)) rfl
set_option maxRecDepth 20000 in
theorem tw_218 : Cond.code ⟨"NestedDeeds$Weighing", "<init>", "(LNestedDeeds$Deeds;[J)V"⟩ prog_11_method_1_code 3 none ∈ tb := tb_mem (List.mem_of_getElem? (i := 218) (by decide +kernel)) rfl
set_option maxRecDepth 20000 in
theorem tw_219 : Cond.methodLink "NestedDeeds$Weighing" 3 ⟨"NestedDeeds$Task", "<init>", "(LNestedDeeds$Deeds;)V"⟩ ∈ tb := tb_mem (List.mem_of_getElem? (i := 219) (by decide +kernel)) rfl
set_option maxRecDepth 20000 in
theorem tw_220 : Cond.fieldLink "NestedDeeds$Weighing" 15 "NestedDeeds$Weighing" "worthAt" "[J" ∈ tb := tb_mem (List.mem_of_getElem? (i := 220) (by decide +kernel)) rfl
set_option maxRecDepth 20000 in
theorem tw_221 : Cond.fieldLink "NestedDeeds$Weighing" 9 "NestedDeeds$Weighing" "firstAt" "[J" ∈ tb := tb_mem (List.mem_of_getElem? (i := 221) (by decide +kernel)) rfl
set_option maxRecDepth 20000 in
theorem tw_229 : Cond.classLink "NestedDeeds" 57 "NestedDeeds$Marking" ∈ tb := tb_mem (List.mem_of_getElem? (i := 229) (by decide +kernel)) rfl
set_option maxRecDepth 20000 in
theorem tw_230 : Cond.instantiable "NestedDeeds$Marking" 3 ∈ tb := tb_mem (List.mem_of_getElem? (i := 230) (by decide +kernel)) rfl
set_option maxRecDepth 20000 in
theorem tw_231 : Cond.methodLink "NestedDeeds" 59 ⟨"NestedDeeds$Marking", "<init>", "(LNestedDeeds$Deeds;[J)V"⟩ ∈ tb := tb_mem (List.mem_of_getElem? (i := 231) (by decide +kernel)) rfl
set_option maxRecDepth 20000 in
theorem tw_232 : Cond.instanceMethod ⟨"NestedDeeds$Marking", "<init>", "(LNestedDeeds$Deeds;[J)V"⟩ ∈ tb := tb_mem (List.mem_of_getElem? (i := 232) (by decide +kernel)) rfl
set_option maxRecDepth 20000 in
theorem tw_233 : Cond.code ⟨"NestedDeeds$Marking", "<init>", "(LNestedDeeds$Deeds;[J)V"⟩ prog_6_method_1_code 3 none ∈ tb := tb_mem (List.mem_of_getElem? (i := 233) (by decide +kernel)) rfl
set_option maxRecDepth 20000 in
theorem tw_234 : Cond.methodLink "NestedDeeds$Marking" 1 ⟨"NestedDeeds$Task", "<init>", "(LNestedDeeds$Deeds;)V"⟩ ∈ tb := tb_mem (List.mem_of_getElem? (i := 234) (by decide +kernel)) rfl
set_option maxRecDepth 20000 in
theorem tw_235 : Cond.fieldLink "NestedDeeds$Marking" 7 "NestedDeeds$Marking" "markAt" "[J" ∈ tb := tb_mem (List.mem_of_getElem? (i := 235) (by decide +kernel)) rfl
set_option maxRecDepth 20000 in
theorem tw_241 : Cond.classLink "NestedDeeds" 64 "NestedDeeds$Comparing" ∈ tb := tb_mem (List.mem_of_getElem? (i := 241) (by decide +kernel)) rfl
set_option maxRecDepth 20000 in
theorem tw_242 : Cond.instantiable "NestedDeeds$Comparing" 3 ∈ tb := tb_mem (List.mem_of_getElem? (i := 242) (by decide +kernel)) rfl
set_option maxRecDepth 20000 in
theorem tw_243 : Cond.methodLink "NestedDeeds" 66 ⟨"NestedDeeds$Comparing", "<init>", "(LNestedDeeds$Deeds;)V"⟩ ∈ tb := tb_mem (List.mem_of_getElem? (i := 243) (by decide +kernel)) rfl
set_option maxRecDepth 20000 in
theorem tw_244 : Cond.instanceMethod ⟨"NestedDeeds$Comparing", "<init>", "(LNestedDeeds$Deeds;)V"⟩ ∈ tb := tb_mem (List.mem_of_getElem? (i := 244) (by decide +kernel)) rfl
set_option maxRecDepth 20000 in
theorem tw_245 : Cond.code ⟨"NestedDeeds$Comparing", "<init>", "(LNestedDeeds$Deeds;)V"⟩ prog_2_method_1_code 2 none ∈ tb := tb_mem (List.mem_of_getElem? (i := 245) (by decide +kernel)) rfl
set_option maxRecDepth 20000 in
theorem tw_246 : Cond.methodLink "NestedDeeds$Comparing" 3 ⟨"NestedDeeds$Task", "<init>", "(LNestedDeeds$Deeds;)V"⟩ ∈ tb := tb_mem (List.mem_of_getElem? (i := 246) (by decide +kernel)) rfl
set_option maxRecDepth 20000 in
theorem tw_247 : Cond.fieldLink "NestedDeeds$Comparing" 9 "NestedDeeds$Comparing" "otherAt" "[I" ∈ tb := tb_mem (List.mem_of_getElem? (i := 247) (by decide +kernel)) rfl
set_option maxRecDepth 20000 in
theorem tw_253 : Cond.classLink "NestedDeeds" 71 "NestedDeeds$Writing" ∈ tb := tb_mem (List.mem_of_getElem? (i := 253) (by decide +kernel)) rfl
set_option maxRecDepth 20000 in
theorem tw_254 : Cond.instantiable "NestedDeeds$Writing" 3 ∈ tb := tb_mem (List.mem_of_getElem? (i := 254) (by decide +kernel)) rfl
set_option maxRecDepth 20000 in
theorem tw_255 : Cond.methodLink "NestedDeeds" 73 ⟨"NestedDeeds$Writing", "<init>", "(LNestedDeeds$Deeds;LNestedDeeds$Paper;)V"⟩ ∈ tb := tb_mem (List.mem_of_getElem? (i := 255) (by decide +kernel)) rfl
set_option maxRecDepth 20000 in
theorem tw_256 : Cond.instanceMethod ⟨"NestedDeeds$Writing", "<init>", "(LNestedDeeds$Deeds;LNestedDeeds$Paper;)V"⟩ ∈ tb := tb_mem (List.mem_of_getElem? (i := 256) (by decide +kernel)) rfl
set_option maxRecDepth 20000 in
theorem tw_257 : Cond.code ⟨"NestedDeeds$Writing", "<init>", "(LNestedDeeds$Deeds;LNestedDeeds$Paper;)V"⟩ prog_12_method_1_code 3 none ∈ tb := tb_mem (List.mem_of_getElem? (i := 257) (by decide +kernel)) rfl
set_option maxRecDepth 20000 in
theorem tw_258 : Cond.methodLink "NestedDeeds$Writing" 3 ⟨"NestedDeeds$Task", "<init>", "(LNestedDeeds$Deeds;)V"⟩ ∈ tb := tb_mem (List.mem_of_getElem? (i := 258) (by decide +kernel)) rfl
set_option maxRecDepth 20000 in
theorem tw_259 : Cond.fieldLink "NestedDeeds$Writing" 9 "NestedDeeds$Writing" "draft" "LNestedDeeds$Paper;" ∈ tb := tb_mem (List.mem_of_getElem? (i := 259) (by decide +kernel)) rfl
set_option maxRecDepth 20000 in
theorem tw_265 : Cond.classLink "NestedDeeds" 78 "NestedDeeds$Finding" ∈ tb := tb_mem (List.mem_of_getElem? (i := 265) (by decide +kernel)) rfl
set_option maxRecDepth 20000 in
theorem tw_266 : Cond.instantiable "NestedDeeds$Finding" 4 ∈ tb := tb_mem (List.mem_of_getElem? (i := 266) (by decide +kernel)) rfl
set_option maxRecDepth 20000 in
theorem tw_267 : Cond.methodLink "NestedDeeds" 80 ⟨"NestedDeeds$Finding", "<init>", "(LNestedDeeds$Deeds;)V"⟩ ∈ tb := tb_mem (List.mem_of_getElem? (i := 267) (by decide +kernel)) rfl
set_option maxRecDepth 20000 in
theorem tw_268 : Cond.instanceMethod ⟨"NestedDeeds$Finding", "<init>", "(LNestedDeeds$Deeds;)V"⟩ ∈ tb := tb_mem (List.mem_of_getElem? (i := 268) (by decide +kernel)) rfl
set_option maxRecDepth 20000 in
theorem tw_269 : Cond.code ⟨"NestedDeeds$Finding", "<init>", "(LNestedDeeds$Deeds;)V"⟩ prog_5_method_1_code 2 none ∈ tb := tb_mem (List.mem_of_getElem? (i := 269) (by decide +kernel)) rfl
set_option maxRecDepth 20000 in
theorem tw_270 : Cond.methodLink "NestedDeeds$Finding" 1 ⟨"NestedDeeds$Task", "<init>", "(LNestedDeeds$Deeds;)V"⟩ ∈ tb := tb_mem (List.mem_of_getElem? (i := 270) (by decide +kernel)) rfl
set_option maxRecDepth 20000 in
theorem tw_271 : Cond.fieldLink "NestedDeeds$Finding" 7 "NestedDeeds$Finding" "kind" "I" ∈ tb := tb_mem (List.mem_of_getElem? (i := 271) (by decide +kernel)) rfl
set_option maxRecDepth 20000 in
theorem tw_272 : Cond.fieldLink "NestedDeeds$Finding" 13 "NestedDeeds$Finding" "number" "I" ∈ tb := tb_mem (List.mem_of_getElem? (i := 272) (by decide +kernel)) rfl
set_option maxRecDepth 20000 in
theorem tw_280 : Cond.classLink "NestedDeeds" 85 "NestedDeeds$Copying" ∈ tb := tb_mem (List.mem_of_getElem? (i := 280) (by decide +kernel)) rfl
set_option maxRecDepth 20000 in
theorem tw_281 : Cond.instantiable "NestedDeeds$Copying" 10 ∈ tb := tb_mem (List.mem_of_getElem? (i := 281) (by decide +kernel)) rfl
set_option maxRecDepth 20000 in
theorem tw_282 : Cond.methodLink "NestedDeeds" 87 ⟨"NestedDeeds$Copying", "<init>", "(LNestedDeeds$Deeds;)V"⟩ ∈ tb := tb_mem (List.mem_of_getElem? (i := 282) (by decide +kernel)) rfl
set_option maxRecDepth 20000 in
theorem tw_283 : Cond.instanceMethod ⟨"NestedDeeds$Copying", "<init>", "(LNestedDeeds$Deeds;)V"⟩ ∈ tb := tb_mem (List.mem_of_getElem? (i := 283) (by decide +kernel)) rfl
set_option maxRecDepth 20000 in
theorem tw_284 : Cond.code ⟨"NestedDeeds$Copying", "<init>", "(LNestedDeeds$Deeds;)V"⟩ prog_3_method_1_code 2 none ∈ tb := tb_mem (List.mem_of_getElem? (i := 284) (by decide +kernel)) rfl
set_option maxRecDepth 20000 in
theorem tw_285 : Cond.methodLink "NestedDeeds$Copying" 3 ⟨"NestedDeeds$Task", "<init>", "(LNestedDeeds$Deeds;)V"⟩ ∈ tb := tb_mem (List.mem_of_getElem? (i := 285) (by decide +kernel)) rfl
set_option maxRecDepth 20000 in
theorem tw_286 : Cond.fieldLink "NestedDeeds$Copying" 9 "NestedDeeds$Copying" "keptAt" "[Z" ∈ tb := tb_mem (List.mem_of_getElem? (i := 286) (by decide +kernel)) rfl
set_option maxRecDepth 20000 in
theorem tw_287 : Cond.fieldLink "NestedDeeds$Copying" 15 "NestedDeeds$Copying" "keptPartsAt" "[I" ∈ tb := tb_mem (List.mem_of_getElem? (i := 287) (by decide +kernel)) rfl
set_option maxRecDepth 20000 in
theorem tw_288 : Cond.fieldLink "NestedDeeds$Copying" 19 "NestedDeeds$Copying" "mark" "[J" ∈ tb := tb_mem (List.mem_of_getElem? (i := 288) (by decide +kernel)) rfl
set_option maxRecDepth 20000 in
theorem tw_289 : Cond.fieldLink "NestedDeeds$Copying" 23 "NestedDeeds$Copying" "sorted" "[I" ∈ tb := tb_mem (List.mem_of_getElem? (i := 289) (by decide +kernel)) rfl
set_option maxRecDepth 20000 in
theorem tw_290 : Cond.fieldLink "NestedDeeds$Copying" 26 "NestedDeeds$Copying" "most" "I" ∈ tb := tb_mem (List.mem_of_getElem? (i := 290) (by decide +kernel)) rfl
set_option maxRecDepth 20000 in
theorem tw_291 : Cond.fieldLink "NestedDeeds$Copying" 30 "NestedDeeds$Copying" "making" "Z" ∈ tb := tb_mem (List.mem_of_getElem? (i := 291) (by decide +kernel)) rfl
set_option maxRecDepth 20000 in
theorem tw_292 : Cond.fieldLink "NestedDeeds$Copying" 34 "NestedDeeds$Copying" "sorting" "Z" ∈ tb := tb_mem (List.mem_of_getElem? (i := 292) (by decide +kernel)) rfl
set_option maxRecDepth 20000 in
theorem tw_293 : Cond.fieldLink "NestedDeeds$Copying" 37 "NestedDeeds$Copying" "kept" "I" ∈ tb := tb_mem (List.mem_of_getElem? (i := 293) (by decide +kernel)) rfl
set_option maxRecDepth 20000 in
theorem tw_294 : Cond.fieldLink "NestedDeeds" 198 "NestedDeeds$Copying" "kept" "I" ∈ tb := tb_mem (List.mem_of_getElem? (i := 294) (by decide +kernel)) rfl
set_option maxRecDepth 20000 in
theorem tw_314 : Cond.arrayClass .boolean ∈ tb := tb_mem (List.mem_of_getElem? (i := 314) (by decide +kernel)) rfl
set_option maxRecDepth 20000 in
theorem tw_315 : Cond.classLink "NestedDeeds" 92 "NestedDeeds$Walker" ∈ tb := tb_mem (List.mem_of_getElem? (i := 315) (by decide +kernel)) rfl
set_option maxRecDepth 20000 in
theorem tw_316 : Cond.instantiable "NestedDeeds$Walker" 14 ∈ tb := tb_mem (List.mem_of_getElem? (i := 316) (by decide +kernel)) rfl
set_option maxRecDepth 20000 in
theorem tw_317 : Cond.methodLink "NestedDeeds" 94 ⟨"NestedDeeds$Walker", "<init>", "(LNestedDeeds$Deeds;LNestedDeeds$Task;)V"⟩ ∈ tb := tb_mem (List.mem_of_getElem? (i := 317) (by decide +kernel)) rfl
set_option maxRecDepth 20000 in
theorem tw_318 : Cond.instanceMethod ⟨"NestedDeeds$Walker", "<init>", "(LNestedDeeds$Deeds;LNestedDeeds$Task;)V"⟩ ∈ tb := tb_mem (List.mem_of_getElem? (i := 318) (by decide +kernel)) rfl
set_option maxRecDepth 20000 in
theorem tw_319 : Cond.code ⟨"NestedDeeds$Walker", "<init>", "(LNestedDeeds$Deeds;LNestedDeeds$Task;)V"⟩ prog_10_method_1_code 3 none ∈ tb := tb_mem (List.mem_of_getElem? (i := 319) (by decide +kernel)) rfl
set_option maxRecDepth 20000 in
theorem tw_320 : Cond.methodLink "NestedDeeds$Walker" 3 ⟨"java/lang/Object", "<init>", "()V"⟩ ∈ tb := tb_mem (List.mem_of_getElem? (i := 320) (by decide +kernel)) rfl
set_option maxRecDepth 20000 in
theorem tw_321 : Cond.fieldLink "NestedDeeds$Walker" 28 "NestedDeeds$Walker" "deeds" "LNestedDeeds$Deeds;" ∈ tb := tb_mem (List.mem_of_getElem? (i := 321) (by decide +kernel)) rfl
